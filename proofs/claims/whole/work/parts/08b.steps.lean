theorem k_X6_findFault_0 : lk 0 C_X6_findFault = some (.aload_n 0, (0, 0, 0, 0)) := by decide +kernel
theorem s_X6_findFault_0 {ca : Nat → List Value → tM → tO} {M : tM} {a1 a2 a3 a4 : Option Value} {x : Nat} {S : List Value} : rn ca C_X6_findFault 0 [some (.ref x), a1, a2, a3, a4] S M = rn ca C_X6_findFault 1 [some (.ref x), a1, a2, a3, a4] (.ref x :: S) M := (rn_at k_X6_findFault_0).trans rfl
theorem k_X6_findFault_1 : lk 1 C_X6_findFault = some (.aload_n 1, (0, 0, 0, 0)) := by decide +kernel
theorem s_X6_findFault_1 {ca : Nat → List Value → tM → tO} {M : tM} {a0 a2 a3 a4 : Option Value} {x : Nat} {S : List Value} : rn ca C_X6_findFault 1 [a0, some (.ref x), a2, a3, a4] S M = rn ca C_X6_findFault 2 [a0, some (.ref x), a2, a3, a4] (.ref x :: S) M := (rn_at k_X6_findFault_1).trans rfl
theorem k_X6_findFault_2 : lk 2 C_X6_findFault = some (.iload_n 2, (0, 0, 0, 0)) := by decide +kernel
theorem s_X6_findFault_2 {ca : Nat → List Value → tM → tO} {M : tM} {a0 a1 a3 a4 : Option Value} {x : Int32} {S : List Value} : rn ca C_X6_findFault 2 [a0, a1, some (.int x), a3, a4] S M = rn ca C_X6_findFault 3 [a0, a1, some (.int x), a3, a4] (.int x :: S) M := (rn_at k_X6_findFault_2).trans rfl
theorem k_X6_findFault_3 : lk 3 C_X6_findFault = some (.invokevirtual 31, (68, 1, 8, 494)) := by decide +kernel
theorem s_X6_findFault_3 {ca : Nat → List Value → tM → tO} {M : tM} {L : tL} {v1 : Value} {r0 : Nat} {b : Nat} : rn ca C_X6_findFault 3 L [v1, .ref b, .ref r0] M = if clsO b = some 8 then rnk ca C_X6_findFault 6 L [.ref r0] (ca m_X8_sizeOf [.ref b, v1] M) else none := (rn_at k_X6_findFault_3).trans rnx_ite
theorem k_X6_findFault_6 : lk 6 C_X6_findFault = some (.sipush 160, (0, 0, 0, 0)) := by decide +kernel
theorem s_X6_findFault_6 {ca : Nat → List Value → tM → tO} {M : tM} {L : tL} {S : List Value} : rn ca C_X6_findFault 6 L S M = rn ca C_X6_findFault 9 L (.int (iI 160) :: S) M := (rn_at k_X6_findFault_6).trans rfl
theorem k_X6_findFault_9 : lk 9 C_X6_findFault = some (.invokestatic 37, (0, 2, 3, 490)) := by decide +kernel
theorem s_X6_findFault_9 {ca : Nat → List Value → tM → tO} {M : tM} {L : tL} {x y : Int32} {r0 : Nat} : rn ca C_X6_findFault 9 L [.int y, .int x, .ref r0] M = rn ca C_X6_findFault 12 L [.int (mnI x y), .ref r0] M := (rn_at k_X6_findFault_9).trans rfl
theorem k_X6_findFault_12 : lk 12 C_X6_findFault = some (.putfield 18, (6, 2, 0, 125)) := by decide +kernel
theorem s_X6_findFault_12 {ca : Nat → List Value → tM → tO} {M : tM} {L : tL} {b : Nat} {v : Int32} {S : List Value} : rn ca C_X6_findFault 12 L (.int v :: .ref b :: S) M = if clsO b = some 6 then rn ca C_X6_findFault 15 L S (sI M b 2 v) else none := (rn_at k_X6_findFault_12).trans rnx_ite
theorem k_X6_findFault_15 : lk 15 C_X6_findFault = some (.iconst 0, (0, 0, 0, 0)) := by decide +kernel
theorem s_X6_findFault_15 {ca : Nat → List Value → tM → tO} {M : tM} {L : tL} {S : List Value} : rn ca C_X6_findFault 15 L S M = rn ca C_X6_findFault 16 L (.int (iI 0) :: S) M := (rn_at k_X6_findFault_15).trans rfl
theorem k_X6_findFault_16 : lk 16 C_X6_findFault = some (.istore 4, (0, 0, 0, 0)) := by decide +kernel
theorem s_X6_findFault_16 {ca : Nat → List Value → tM → tO} {M : tM} {a0 a1 a2 a3 a4 : Option Value} {x : Int32} {S : List Value} : rn ca C_X6_findFault 16 [a0, a1, a2, a3, a4] (.int x :: S) M = rn ca C_X6_findFault 18 [a0, a1, a2, a3, some (.int x)] S M := (rn_at k_X6_findFault_16).trans rfl
theorem k_X6_findFault_18 : lk 18 C_X6_findFault = some (.iload 4, (0, 0, 0, 0)) := by decide +kernel
theorem s_X6_findFault_18 {ca : Nat → List Value → tM → tO} {M : tM} {a0 a1 a2 a3 : Option Value} {x : Int32} {S : List Value} : rn ca C_X6_findFault 18 [a0, a1, a2, a3, some (.int x)] S M = rn ca C_X6_findFault 20 [a0, a1, a2, a3, some (.int x)] (.int x :: S) M := (rn_at k_X6_findFault_18).trans rfl
theorem k_X6_findFault_20 : lk 20 C_X6_findFault = some (.aload_n 0, (0, 0, 0, 0)) := by decide +kernel
theorem s_X6_findFault_20 {ca : Nat → List Value → tM → tO} {M : tM} {a1 a2 a3 a4 : Option Value} {x : Nat} {S : List Value} : rn ca C_X6_findFault 20 [some (.ref x), a1, a2, a3, a4] S M = rn ca C_X6_findFault 21 [some (.ref x), a1, a2, a3, a4] (.ref x :: S) M := (rn_at k_X6_findFault_20).trans rfl
theorem k_X6_findFault_21 : lk 21 C_X6_findFault = some (.getfield 18, (6, 2, 0, 125)) := by decide +kernel
theorem s_X6_findFault_21 {ca : Nat → List Value → tM → tO} {M : tM} {L : tL} {b : Nat} {S : List Value} : rn ca C_X6_findFault 21 L (.ref b :: S) M = if clsO b = some 6 then rn ca C_X6_findFault 24 L (fv M b 2 :: S) M else none := (rn_at k_X6_findFault_21).trans rnx_ite
theorem k_X6_findFault_24 : lk 24 C_X6_findFault = some (.if_icmp .ge 23, (47, 0, 0, 0)) := by decide +kernel
theorem s_X6_findFault_24 {ca : Nat → List Value → tM → tO} {M : tM} {L : tL} {x y : Int32} {S : List Value} : rn ca C_X6_findFault 24 L (.int y :: .int x :: S) M = if y ≤ x then rn ca C_X6_findFault 47 L S M else rn ca C_X6_findFault 27 L S M := (rn_at k_X6_findFault_24).trans rnx_ite
theorem k_X6_findFault_27 : lk 27 C_X6_findFault = some (.aload_n 0, (0, 0, 0, 0)) := by decide +kernel
theorem s_X6_findFault_27 {ca : Nat → List Value → tM → tO} {M : tM} {a1 a2 a3 a4 : Option Value} {x : Nat} {S : List Value} : rn ca C_X6_findFault 27 [some (.ref x), a1, a2, a3, a4] S M = rn ca C_X6_findFault 28 [some (.ref x), a1, a2, a3, a4] (.ref x :: S) M := (rn_at k_X6_findFault_27).trans rfl
theorem k_X6_findFault_28 : lk 28 C_X6_findFault = some (.getfield 9, (6, 0, 0, 123)) := by decide +kernel
theorem s_X6_findFault_28 {ca : Nat → List Value → tM → tO} {M : tM} {L : tL} {b : Nat} {S : List Value} : rn ca C_X6_findFault 28 L (.ref b :: S) M = if clsO b = some 6 then rn ca C_X6_findFault 31 L (fv M b 0 :: S) M else none := (rn_at k_X6_findFault_28).trans rnx_ite
theorem k_X6_findFault_31 : lk 31 C_X6_findFault = some (.iload 4, (0, 0, 0, 0)) := by decide +kernel
theorem s_X6_findFault_31 {ca : Nat → List Value → tM → tO} {M : tM} {a0 a1 a2 a3 : Option Value} {x : Int32} {S : List Value} : rn ca C_X6_findFault 31 [a0, a1, a2, a3, some (.int x)] S M = rn ca C_X6_findFault 33 [a0, a1, a2, a3, some (.int x)] (.int x :: S) M := (rn_at k_X6_findFault_31).trans rfl
theorem k_X6_findFault_33 : lk 33 C_X6_findFault = some (.aload_n 1, (0, 0, 0, 0)) := by decide +kernel
theorem s_X6_findFault_33 {ca : Nat → List Value → tM → tO} {M : tM} {a0 a2 a3 a4 : Option Value} {x : Nat} {S : List Value} : rn ca C_X6_findFault 33 [a0, some (.ref x), a2, a3, a4] S M = rn ca C_X6_findFault 34 [a0, some (.ref x), a2, a3, a4] (.ref x :: S) M := (rn_at k_X6_findFault_33).trans rfl
theorem k_X6_findFault_34 : lk 34 C_X6_findFault = some (.iload_n 2, (0, 0, 0, 0)) := by decide +kernel
theorem s_X6_findFault_34 {ca : Nat → List Value → tM → tO} {M : tM} {a0 a1 a3 a4 : Option Value} {x : Int32} {S : List Value} : rn ca C_X6_findFault 34 [a0, a1, some (.int x), a3, a4] S M = rn ca C_X6_findFault 35 [a0, a1, some (.int x), a3, a4] (.int x :: S) M := (rn_at k_X6_findFault_34).trans rfl
theorem k_X6_findFault_35 : lk 35 C_X6_findFault = some (.iload 4, (0, 0, 0, 0)) := by decide +kernel
theorem s_X6_findFault_35 {ca : Nat → List Value → tM → tO} {M : tM} {a0 a1 a2 a3 : Option Value} {x : Int32} {S : List Value} : rn ca C_X6_findFault 35 [a0, a1, a2, a3, some (.int x)] S M = rn ca C_X6_findFault 37 [a0, a1, a2, a3, some (.int x)] (.int x :: S) M := (rn_at k_X6_findFault_35).trans rfl
theorem k_X6_findFault_37 : lk 37 C_X6_findFault = some (.invokevirtual 43, (73, 2, 8, 495)) := by decide +kernel
theorem s_X6_findFault_37 {ca : Nat → List Value → tM → tO} {M : tM} {L : tL} {v1 v2 : Value} {r0 : Int32} {r1 : Nat} {b : Nat} : rn ca C_X6_findFault 37 L [v2, v1, .ref b, .int r0, .ref r1] M = if clsO b = some 8 then rnk ca C_X6_findFault 40 L [.int r0, .ref r1] (ca m_X8_intAt [.ref b, v1, v2] M) else none := (rn_at k_X6_findFault_37).trans rnx_ite
theorem k_X6_findFault_40 : lk 40 C_X6_findFault = some (.iastore, (0, 0, 0, 0)) := by decide +kernel
theorem s_X6_findFault_40 {ca : Nat → List Value → tM → tO} {M : tM} {L : tL} {a : Nat} {i x : Int32} {S : List Value} : rn ca C_X6_findFault 40 L (.int x :: .int i :: .ref a :: S) M = if akind a = 0 ∧ inb i (alen M a) then rn ca C_X6_findFault 41 L S (sI M a i.toInt.toNat x) else none := (rn_at k_X6_findFault_40).trans rnx_ite
theorem k_X6_findFault_41 : lk 41 C_X6_findFault = some (.iinc 4 1, (0, 0, 0, 0)) := by decide +kernel
theorem s_X6_findFault_41 {ca : Nat → List Value → tM → tO} {M : tM} {a0 a1 a2 a3 : Option Value} {x : Int32} {S : List Value} : rn ca C_X6_findFault 41 [a0, a1, a2, a3, some (.int x)] S M = rn ca C_X6_findFault 44 [a0, a1, a2, a3, some (.int (x + iI 1))] S M := (rn_at k_X6_findFault_41).trans rfl
theorem k_X6_findFault_44 : lk 44 C_X6_findFault = some (.goto (-26), (18, 0, 0, 0)) := by decide +kernel
theorem s_X6_findFault_44 {ca : Nat → List Value → tM → tO} {M : tM} {L : tL} {S : List Value} : rn ca C_X6_findFault 44 L S M = rn ca C_X6_findFault 18 L S M := (rn_at k_X6_findFault_44).trans rfl
theorem k_X6_findFault_47 : lk 47 C_X6_findFault = some (.aload_n 0, (0, 0, 0, 0)) := by decide +kernel
theorem s_X6_findFault_47 {ca : Nat → List Value → tM → tO} {M : tM} {a1 a2 a3 a4 : Option Value} {x : Nat} {S : List Value} : rn ca C_X6_findFault 47 [some (.ref x), a1, a2, a3, a4] S M = rn ca C_X6_findFault 48 [some (.ref x), a1, a2, a3, a4] (.ref x :: S) M := (rn_at k_X6_findFault_47).trans rfl
theorem k_X6_findFault_48 : lk 48 C_X6_findFault = some (.iconst 0, (0, 0, 0, 0)) := by decide +kernel
theorem s_X6_findFault_48 {ca : Nat → List Value → tM → tO} {M : tM} {L : tL} {S : List Value} : rn ca C_X6_findFault 48 L S M = rn ca C_X6_findFault 49 L (.int (iI 0) :: S) M := (rn_at k_X6_findFault_48).trans rfl
theorem k_X6_findFault_49 : lk 49 C_X6_findFault = some (.putfield 22, (6, 3, 0, 126)) := by decide +kernel
theorem s_X6_findFault_49 {ca : Nat → List Value → tM → tO} {M : tM} {L : tL} {b : Nat} {v : Int32} {S : List Value} : rn ca C_X6_findFault 49 L (.int v :: .ref b :: S) M = if clsO b = some 6 then rn ca C_X6_findFault 52 L S (sI M b 3 v) else none := (rn_at k_X6_findFault_49).trans rnx_ite
theorem k_X6_findFault_52 : lk 52 C_X6_findFault = some (.aload_n 0, (0, 0, 0, 0)) := by decide +kernel
theorem s_X6_findFault_52 {ca : Nat → List Value → tM → tO} {M : tM} {a1 a2 a3 a4 : Option Value} {x : Nat} {S : List Value} : rn ca C_X6_findFault 52 [some (.ref x), a1, a2, a3, a4] S M = rn ca C_X6_findFault 53 [some (.ref x), a1, a2, a3, a4] (.ref x :: S) M := (rn_at k_X6_findFault_52).trans rfl
theorem k_X6_findFault_53 : lk 53 C_X6_findFault = some (.iconst (-1), (0, 0, 0, 0)) := by decide +kernel
theorem s_X6_findFault_53 {ca : Nat → List Value → tM → tO} {M : tM} {L : tL} {S : List Value} : rn ca C_X6_findFault 53 L S M = rn ca C_X6_findFault 54 L (.int (iI (-1)) :: S) M := (rn_at k_X6_findFault_53).trans rfl
theorem k_X6_findFault_54 : lk 54 C_X6_findFault = some (.putfield 25, (6, 4, 0, 127)) := by decide +kernel
theorem s_X6_findFault_54 {ca : Nat → List Value → tM → tO} {M : tM} {L : tL} {b : Nat} {v : Int32} {S : List Value} : rn ca C_X6_findFault 54 L (.int v :: .ref b :: S) M = if clsO b = some 6 then rn ca C_X6_findFault 57 L S (sI M b 4 v) else none := (rn_at k_X6_findFault_54).trans rnx_ite
theorem k_X6_findFault_57 : lk 57 C_X6_findFault = some (.aload_n 0, (0, 0, 0, 0)) := by decide +kernel
theorem s_X6_findFault_57 {ca : Nat → List Value → tM → tO} {M : tM} {a1 a2 a3 a4 : Option Value} {x : Nat} {S : List Value} : rn ca C_X6_findFault 57 [some (.ref x), a1, a2, a3, a4] S M = rn ca C_X6_findFault 58 [some (.ref x), a1, a2, a3, a4] (.ref x :: S) M := (rn_at k_X6_findFault_57).trans rfl
theorem k_X6_findFault_58 : lk 58 C_X6_findFault = some (.iconst 0, (0, 0, 0, 0)) := by decide +kernel
theorem s_X6_findFault_58 {ca : Nat → List Value → tM → tO} {M : tM} {L : tL} {S : List Value} : rn ca C_X6_findFault 58 L S M = rn ca C_X6_findFault 59 L (.int (iI 0) :: S) M := (rn_at k_X6_findFault_58).trans rfl
theorem k_X6_findFault_59 : lk 59 C_X6_findFault = some (.putfield 28, (6, 5, 0, 128)) := by decide +kernel
theorem s_X6_findFault_59 {ca : Nat → List Value → tM → tO} {M : tM} {L : tL} {b : Nat} {v : Int32} {S : List Value} : rn ca C_X6_findFault 59 L (.int v :: .ref b :: S) M = if clsO b = some 6 then rn ca C_X6_findFault 62 L S (sI M b 5 v) else none := (rn_at k_X6_findFault_59).trans rnx_ite
theorem k_X6_findFault_62 : lk 62 C_X6_findFault = some (.iconst 0, (0, 0, 0, 0)) := by decide +kernel
theorem s_X6_findFault_62 {ca : Nat → List Value → tM → tO} {M : tM} {L : tL} {S : List Value} : rn ca C_X6_findFault 62 L S M = rn ca C_X6_findFault 63 L (.int (iI 0) :: S) M := (rn_at k_X6_findFault_62).trans rfl
theorem k_X6_findFault_63 : lk 63 C_X6_findFault = some (.istore 4, (0, 0, 0, 0)) := by decide +kernel
theorem s_X6_findFault_63 {ca : Nat → List Value → tM → tO} {M : tM} {a0 a1 a2 a3 a4 : Option Value} {x : Int32} {S : List Value} : rn ca C_X6_findFault 63 [a0, a1, a2, a3, a4] (.int x :: S) M = rn ca C_X6_findFault 65 [a0, a1, a2, a3, some (.int x)] S M := (rn_at k_X6_findFault_63).trans rfl
theorem k_X6_findFault_65 : lk 65 C_X6_findFault = some (.iload 4, (0, 0, 0, 0)) := by decide +kernel
theorem s_X6_findFault_65 {ca : Nat → List Value → tM → tO} {M : tM} {a0 a1 a2 a3 : Option Value} {x : Int32} {S : List Value} : rn ca C_X6_findFault 65 [a0, a1, a2, a3, some (.int x)] S M = rn ca C_X6_findFault 67 [a0, a1, a2, a3, some (.int x)] (.int x :: S) M := (rn_at k_X6_findFault_65).trans rfl
theorem k_X6_findFault_67 : lk 67 C_X6_findFault = some (.sipush 160, (0, 0, 0, 0)) := by decide +kernel
theorem s_X6_findFault_67 {ca : Nat → List Value → tM → tO} {M : tM} {L : tL} {S : List Value} : rn ca C_X6_findFault 67 L S M = rn ca C_X6_findFault 70 L (.int (iI 160) :: S) M := (rn_at k_X6_findFault_67).trans rfl
theorem k_X6_findFault_70 : lk 70 C_X6_findFault = some (.if_icmp .gt 59, (129, 0, 0, 0)) := by decide +kernel
theorem s_X6_findFault_70 {ca : Nat → List Value → tM → tO} {M : tM} {L : tL} {x y : Int32} {S : List Value} : rn ca C_X6_findFault 70 L (.int y :: .int x :: S) M = if y < x then rn ca C_X6_findFault 129 L S M else rn ca C_X6_findFault 73 L S M := (rn_at k_X6_findFault_70).trans rnx_ite
theorem k_X6_findFault_73 : lk 73 C_X6_findFault = some (.aload_n 0, (0, 0, 0, 0)) := by decide +kernel
theorem s_X6_findFault_73 {ca : Nat → List Value → tM → tO} {M : tM} {a1 a2 a3 a4 : Option Value} {x : Nat} {S : List Value} : rn ca C_X6_findFault 73 [some (.ref x), a1, a2, a3, a4] S M = rn ca C_X6_findFault 74 [some (.ref x), a1, a2, a3, a4] (.ref x :: S) M := (rn_at k_X6_findFault_73).trans rfl
theorem k_X6_findFault_74 : lk 74 C_X6_findFault = some (.aload_n 3, (0, 0, 0, 0)) := by decide +kernel
theorem s_X6_findFault_74 {ca : Nat → List Value → tM → tO} {M : tM} {a0 a1 a2 a4 : Option Value} {x : Nat} {S : List Value} : rn ca C_X6_findFault 74 [a0, a1, a2, some (.ref x), a4] S M = rn ca C_X6_findFault 75 [a0, a1, a2, some (.ref x), a4] (.ref x :: S) M := (rn_at k_X6_findFault_74).trans rfl
theorem k_X6_findFault_75 : lk 75 C_X6_findFault = some (.invokevirtual 46, (49, 1, 6, 500)) := by decide +kernel
theorem s_X6_findFault_75 {ca : Nat → List Value → tM → tO} {M : tM} {L : tL} {v1 : Value} {b : Nat} : rn ca C_X6_findFault 75 L [v1, .ref b] M = if clsO b = some 6 then rnk ca C_X6_findFault 78 L [] (ca m_X6_readItem [.ref b, v1] M) else none := (rn_at k_X6_findFault_75).trans rnx_ite
theorem k_X6_findFault_78 : lk 78 C_X6_findFault = some (.ifCond .ne 8, (86, 0, 0, 0)) := by decide +kernel
theorem s_X6_findFault_78 {ca : Nat → List Value → tM → tO} {M : tM} {L : tL} {x : Int32} {S : List Value} : rn ca C_X6_findFault 78 L (.int x :: S) M = if ¬ x = iI 0 then rn ca C_X6_findFault 86 L S M else rn ca C_X6_findFault 81 L S M := (rn_at k_X6_findFault_78).trans rnx_ite
theorem k_X6_findFault_81 : lk 81 C_X6_findFault = some (.aload_n 0, (0, 0, 0, 0)) := by decide +kernel
theorem s_X6_findFault_81 {ca : Nat → List Value → tM → tO} {M : tM} {a1 a2 a3 a4 : Option Value} {x : Nat} {S : List Value} : rn ca C_X6_findFault 81 [some (.ref x), a1, a2, a3, a4] S M = rn ca C_X6_findFault 82 [some (.ref x), a1, a2, a3, a4] (.ref x :: S) M := (rn_at k_X6_findFault_81).trans rfl
theorem k_X6_findFault_82 : lk 82 C_X6_findFault = some (.getfield 25, (6, 4, 0, 127)) := by decide +kernel
theorem s_X6_findFault_82 {ca : Nat → List Value → tM → tO} {M : tM} {L : tL} {b : Nat} {S : List Value} : rn ca C_X6_findFault 82 L (.ref b :: S) M = if clsO b = some 6 then rn ca C_X6_findFault 85 L (fv M b 4 :: S) M else none := (rn_at k_X6_findFault_82).trans rnx_ite
theorem k_X6_findFault_85 : lk 85 C_X6_findFault = some (.ireturn, (0, 0, 0, 0)) := by decide +kernel
theorem s_X6_findFault_85 {ca : Nat → List Value → tM → tO} {M : tM} {L : tL} {x : Int32} : rn ca C_X6_findFault 85 L [.int x] M = some (some (.int x), M) := (rn_at k_X6_findFault_85).trans rfl
theorem k_X6_findFault_86 : lk 86 C_X6_findFault = some (.aload_n 0, (0, 0, 0, 0)) := by decide +kernel
theorem s_X6_findFault_86 {ca : Nat → List Value → tM → tO} {M : tM} {a1 a2 a3 a4 : Option Value} {x : Nat} {S : List Value} : rn ca C_X6_findFault 86 [some (.ref x), a1, a2, a3, a4] S M = rn ca C_X6_findFault 87 [some (.ref x), a1, a2, a3, a4] (.ref x :: S) M := (rn_at k_X6_findFault_86).trans rfl
theorem k_X6_findFault_87 : lk 87 C_X6_findFault = some (.dup, (0, 0, 0, 0)) := by decide +kernel
theorem s_X6_findFault_87 {ca : Nat → List Value → tM → tO} {M : tM} {L : tL} {x : Nat} {S : List Value} : rn ca C_X6_findFault 87 L (.ref x :: S) M = rn ca C_X6_findFault 88 L (.ref x :: .ref x :: S) M := (rn_at k_X6_findFault_87).trans rfl
theorem s_X6_findFault_87b {ca : Nat → List Value → tM → tO} {M : tM} {L : tL} {x : Int32} {S : List Value} : rn ca C_X6_findFault 87 L (.int x :: S) M = rn ca C_X6_findFault 88 L (.int x :: .int x :: S) M := (rn_at k_X6_findFault_87).trans rfl
theorem k_X6_findFault_88 : lk 88 C_X6_findFault = some (.getfield 28, (6, 5, 0, 128)) := by decide +kernel
theorem s_X6_findFault_88 {ca : Nat → List Value → tM → tO} {M : tM} {L : tL} {b : Nat} {S : List Value} : rn ca C_X6_findFault 88 L (.ref b :: S) M = if clsO b = some 6 then rn ca C_X6_findFault 91 L (fv M b 5 :: S) M else none := (rn_at k_X6_findFault_88).trans rnx_ite
theorem k_X6_findFault_91 : lk 91 C_X6_findFault = some (.iconst 1, (0, 0, 0, 0)) := by decide +kernel
theorem s_X6_findFault_91 {ca : Nat → List Value → tM → tO} {M : tM} {L : tL} {S : List Value} : rn ca C_X6_findFault 91 L S M = rn ca C_X6_findFault 92 L (.int (iI 1) :: S) M := (rn_at k_X6_findFault_91).trans rfl
theorem k_X6_findFault_92 : lk 92 C_X6_findFault = some (.iadd, (0, 0, 0, 0)) := by decide +kernel
theorem s_X6_findFault_92 {ca : Nat → List Value → tM → tO} {M : tM} {L : tL} {x y : Int32} {S : List Value} : rn ca C_X6_findFault 92 L (.int y :: .int x :: S) M = rn ca C_X6_findFault 93 L (.int (x + y) :: S) M := (rn_at k_X6_findFault_92).trans rfl
theorem k_X6_findFault_93 : lk 93 C_X6_findFault = some (.putfield 28, (6, 5, 0, 128)) := by decide +kernel
theorem s_X6_findFault_93 {ca : Nat → List Value → tM → tO} {M : tM} {L : tL} {b : Nat} {v : Int32} {S : List Value} : rn ca C_X6_findFault 93 L (.int v :: .ref b :: S) M = if clsO b = some 6 then rn ca C_X6_findFault 96 L S (sI M b 5 v) else none := (rn_at k_X6_findFault_93).trans rnx_ite
theorem k_X6_findFault_96 : lk 96 C_X6_findFault = some (.aload_n 0, (0, 0, 0, 0)) := by decide +kernel
theorem s_X6_findFault_96 {ca : Nat → List Value → tM → tO} {M : tM} {a1 a2 a3 a4 : Option Value} {x : Nat} {S : List Value} : rn ca C_X6_findFault 96 [some (.ref x), a1, a2, a3, a4] S M = rn ca C_X6_findFault 97 [some (.ref x), a1, a2, a3, a4] (.ref x :: S) M := (rn_at k_X6_findFault_96).trans rfl
theorem k_X6_findFault_97 : lk 97 C_X6_findFault = some (.getfield 22, (6, 3, 0, 126)) := by decide +kernel
theorem s_X6_findFault_97 {ca : Nat → List Value → tM → tO} {M : tM} {L : tL} {b : Nat} {S : List Value} : rn ca C_X6_findFault 97 L (.ref b :: S) M = if clsO b = some 6 then rn ca C_X6_findFault 100 L (fv M b 3 :: S) M else none := (rn_at k_X6_findFault_97).trans rnx_ite
theorem k_X6_findFault_100 : lk 100 C_X6_findFault = some (.aload_n 0, (0, 0, 0, 0)) := by decide +kernel
theorem s_X6_findFault_100 {ca : Nat → List Value → tM → tO} {M : tM} {a1 a2 a3 a4 : Option Value} {x : Nat} {S : List Value} : rn ca C_X6_findFault 100 [some (.ref x), a1, a2, a3, a4] S M = rn ca C_X6_findFault 101 [some (.ref x), a1, a2, a3, a4] (.ref x :: S) M := (rn_at k_X6_findFault_100).trans rfl
theorem k_X6_findFault_101 : lk 101 C_X6_findFault = some (.getfield 18, (6, 2, 0, 125)) := by decide +kernel
theorem s_X6_findFault_101 {ca : Nat → List Value → tM → tO} {M : tM} {L : tL} {b : Nat} {S : List Value} : rn ca C_X6_findFault 101 L (.ref b :: S) M = if clsO b = some 6 then rn ca C_X6_findFault 104 L (fv M b 2 :: S) M else none := (rn_at k_X6_findFault_101).trans rnx_ite
theorem k_X6_findFault_104 : lk 104 C_X6_findFault = some (.if_icmp .lt 5, (109, 0, 0, 0)) := by decide +kernel
theorem s_X6_findFault_104 {ca : Nat → List Value → tM → tO} {M : tM} {L : tL} {x y : Int32} {S : List Value} : rn ca C_X6_findFault 104 L (.int y :: .int x :: S) M = if x < y then rn ca C_X6_findFault 109 L S M else rn ca C_X6_findFault 107 L S M := (rn_at k_X6_findFault_104).trans rnx_ite
theorem k_X6_findFault_107 : lk 107 C_X6_findFault = some (.iconst (-1), (0, 0, 0, 0)) := by decide +kernel
theorem s_X6_findFault_107 {ca : Nat → List Value → tM → tO} {M : tM} {L : tL} {S : List Value} : rn ca C_X6_findFault 107 L S M = rn ca C_X6_findFault 108 L (.int (iI (-1)) :: S) M := (rn_at k_X6_findFault_107).trans rfl
theorem k_X6_findFault_108 : lk 108 C_X6_findFault = some (.ireturn, (0, 0, 0, 0)) := by decide +kernel
theorem s_X6_findFault_108 {ca : Nat → List Value → tM → tO} {M : tM} {L : tL} {x : Int32} : rn ca C_X6_findFault 108 L [.int x] M = some (some (.int x), M) := (rn_at k_X6_findFault_108).trans rfl
theorem k_X6_findFault_109 : lk 109 C_X6_findFault = some (.aload_n 0, (0, 0, 0, 0)) := by decide +kernel
theorem s_X6_findFault_109 {ca : Nat → List Value → tM → tO} {M : tM} {a1 a2 a3 a4 : Option Value} {x : Nat} {S : List Value} : rn ca C_X6_findFault 109 [some (.ref x), a1, a2, a3, a4] S M = rn ca C_X6_findFault 110 [some (.ref x), a1, a2, a3, a4] (.ref x :: S) M := (rn_at k_X6_findFault_109).trans rfl
theorem k_X6_findFault_110 : lk 110 C_X6_findFault = some (.bipush 59, (0, 0, 0, 0)) := by decide +kernel
theorem s_X6_findFault_110 {ca : Nat → List Value → tM → tO} {M : tM} {L : tL} {S : List Value} : rn ca C_X6_findFault 110 L S M = rn ca C_X6_findFault 112 L (.int (iI 59) :: S) M := (rn_at k_X6_findFault_110).trans rfl
theorem k_X6_findFault_112 : lk 112 C_X6_findFault = some (.invokevirtual 50, (48, 1, 6, 568)) := by decide +kernel
theorem s_X6_findFault_112 {ca : Nat → List Value → tM → tO} {M : tM} {L : tL} {v1 : Value} {b : Nat} : rn ca C_X6_findFault 112 L [v1, .ref b] M = if clsO b = some 6 then rnk ca C_X6_findFault 115 L [] (ca m_X6_readSign [.ref b, v1] M) else none := (rn_at k_X6_findFault_112).trans rnx_ite
theorem k_X6_findFault_115 : lk 115 C_X6_findFault = some (.ifCond .ne 8, (123, 0, 0, 0)) := by decide +kernel
theorem s_X6_findFault_115 {ca : Nat → List Value → tM → tO} {M : tM} {L : tL} {x : Int32} {S : List Value} : rn ca C_X6_findFault 115 L (.int x :: S) M = if ¬ x = iI 0 then rn ca C_X6_findFault 123 L S M else rn ca C_X6_findFault 118 L S M := (rn_at k_X6_findFault_115).trans rnx_ite
theorem k_X6_findFault_118 : lk 118 C_X6_findFault = some (.aload_n 0, (0, 0, 0, 0)) := by decide +kernel
theorem s_X6_findFault_118 {ca : Nat → List Value → tM → tO} {M : tM} {a1 a2 a3 a4 : Option Value} {x : Nat} {S : List Value} : rn ca C_X6_findFault 118 [some (.ref x), a1, a2, a3, a4] S M = rn ca C_X6_findFault 119 [some (.ref x), a1, a2, a3, a4] (.ref x :: S) M := (rn_at k_X6_findFault_118).trans rfl
theorem k_X6_findFault_119 : lk 119 C_X6_findFault = some (.getfield 25, (6, 4, 0, 127)) := by decide +kernel
theorem s_X6_findFault_119 {ca : Nat → List Value → tM → tO} {M : tM} {L : tL} {b : Nat} {S : List Value} : rn ca C_X6_findFault 119 L (.ref b :: S) M = if clsO b = some 6 then rn ca C_X6_findFault 122 L (fv M b 4 :: S) M else none := (rn_at k_X6_findFault_119).trans rnx_ite
theorem k_X6_findFault_122 : lk 122 C_X6_findFault = some (.ireturn, (0, 0, 0, 0)) := by decide +kernel
theorem s_X6_findFault_122 {ca : Nat → List Value → tM → tO} {M : tM} {L : tL} {x : Int32} : rn ca C_X6_findFault 122 L [.int x] M = some (some (.int x), M) := (rn_at k_X6_findFault_122).trans rfl
theorem k_X6_findFault_123 : lk 123 C_X6_findFault = some (.iinc 4 1, (0, 0, 0, 0)) := by decide +kernel
theorem s_X6_findFault_123 {ca : Nat → List Value → tM → tO} {M : tM} {a0 a1 a2 a3 : Option Value} {x : Int32} {S : List Value} : rn ca C_X6_findFault 123 [a0, a1, a2, a3, some (.int x)] S M = rn ca C_X6_findFault 126 [a0, a1, a2, a3, some (.int (x + iI 1))] S M := (rn_at k_X6_findFault_123).trans rfl
theorem k_X6_findFault_126 : lk 126 C_X6_findFault = some (.goto (-61), (65, 0, 0, 0)) := by decide +kernel
theorem s_X6_findFault_126 {ca : Nat → List Value → tM → tO} {M : tM} {L : tL} {S : List Value} : rn ca C_X6_findFault 126 L S M = rn ca C_X6_findFault 65 L S M := (rn_at k_X6_findFault_126).trans rfl
theorem k_X6_findFault_129 : lk 129 C_X6_findFault = some (.aload_n 0, (0, 0, 0, 0)) := by decide +kernel
theorem s_X6_findFault_129 {ca : Nat → List Value → tM → tO} {M : tM} {a1 a2 a3 a4 : Option Value} {x : Nat} {S : List Value} : rn ca C_X6_findFault 129 [some (.ref x), a1, a2, a3, a4] S M = rn ca C_X6_findFault 130 [some (.ref x), a1, a2, a3, a4] (.ref x :: S) M := (rn_at k_X6_findFault_129).trans rfl
theorem k_X6_findFault_130 : lk 130 C_X6_findFault = some (.getfield 22, (6, 3, 0, 126)) := by decide +kernel
theorem s_X6_findFault_130 {ca : Nat → List Value → tM → tO} {M : tM} {L : tL} {b : Nat} {S : List Value} : rn ca C_X6_findFault 130 L (.ref b :: S) M = if clsO b = some 6 then rn ca C_X6_findFault 133 L (fv M b 3 :: S) M else none := (rn_at k_X6_findFault_130).trans rnx_ite
theorem k_X6_findFault_133 : lk 133 C_X6_findFault = some (.ireturn, (0, 0, 0, 0)) := by decide +kernel
theorem s_X6_findFault_133 {ca : Nat → List Value → tM → tO} {M : tM} {L : tL} {x : Int32} : rn ca C_X6_findFault 133 L [.int x] M = some (some (.int x), M) := (rn_at k_X6_findFault_133).trans rfl
theorem k_X6_failAt_0 : lk 0 C_X6_failAt = some (.aload_n 0, (0, 0, 0, 0)) := by decide +kernel
theorem s_X6_failAt_0 {ca : Nat → List Value → tM → tO} {M : tM} {a1 : Option Value} {x : Nat} {S : List Value} : rn ca C_X6_failAt 0 [some (.ref x), a1] S M = rn ca C_X6_failAt 1 [some (.ref x), a1] (.ref x :: S) M := (rn_at k_X6_failAt_0).trans rfl
theorem k_X6_failAt_1 : lk 1 C_X6_failAt = some (.iload_n 1, (0, 0, 0, 0)) := by decide +kernel
theorem s_X6_failAt_1 {ca : Nat → List Value → tM → tO} {M : tM} {a0 : Option Value} {x : Int32} {S : List Value} : rn ca C_X6_failAt 1 [a0, some (.int x)] S M = rn ca C_X6_failAt 2 [a0, some (.int x)] (.int x :: S) M := (rn_at k_X6_failAt_1).trans rfl
theorem k_X6_failAt_2 : lk 2 C_X6_failAt = some (.putfield 25, (6, 4, 0, 127)) := by decide +kernel
theorem s_X6_failAt_2 {ca : Nat → List Value → tM → tO} {M : tM} {L : tL} {b : Nat} {v : Int32} {S : List Value} : rn ca C_X6_failAt 2 L (.int v :: .ref b :: S) M = if clsO b = some 6 then rn ca C_X6_failAt 5 L S (sI M b 4 v) else none := (rn_at k_X6_failAt_2).trans rnx_ite
theorem k_X6_failAt_5 : lk 5 C_X6_failAt = some (.iconst 0, (0, 0, 0, 0)) := by decide +kernel
theorem s_X6_failAt_5 {ca : Nat → List Value → tM → tO} {M : tM} {L : tL} {S : List Value} : rn ca C_X6_failAt 5 L S M = rn ca C_X6_failAt 6 L (.int (iI 0) :: S) M := (rn_at k_X6_failAt_5).trans rfl
theorem k_X6_failAt_6 : lk 6 C_X6_failAt = some (.ireturn, (1, 0, 0, 0)) := by decide +kernel
theorem s_X6_failAt_6 {ca : Nat → List Value → tM → tO} {M : tM} {L : tL} {x : Int32} : rn ca C_X6_failAt 6 L [.int x] M = if x = iI 0 ∨ x = iI 1 then some (some (.int x), M) else none := (rn_at k_X6_failAt_6).trans rnx_ite
theorem k_X6_letterHere_0 : lk 0 C_X6_letterHere = some (.aload_n 0, (0, 0, 0, 0)) := by decide +kernel
theorem s_X6_letterHere_0 {ca : Nat → List Value → tM → tO} {M : tM} {x : Nat} {S : List Value} : rn ca C_X6_letterHere 0 [some (.ref x)] S M = rn ca C_X6_letterHere 1 [some (.ref x)] (.ref x :: S) M := (rn_at k_X6_letterHere_0).trans rfl
theorem k_X6_letterHere_1 : lk 1 C_X6_letterHere = some (.getfield 22, (6, 3, 0, 126)) := by decide +kernel
theorem s_X6_letterHere_1 {ca : Nat → List Value → tM → tO} {M : tM} {L : tL} {b : Nat} {S : List Value} : rn ca C_X6_letterHere 1 L (.ref b :: S) M = if clsO b = some 6 then rn ca C_X6_letterHere 4 L (fv M b 3 :: S) M else none := (rn_at k_X6_letterHere_1).trans rnx_ite
theorem k_X6_letterHere_4 : lk 4 C_X6_letterHere = some (.ifCond .lt 36, (40, 0, 0, 0)) := by decide +kernel
theorem s_X6_letterHere_4 {ca : Nat → List Value → tM → tO} {M : tM} {L : tL} {x : Int32} {S : List Value} : rn ca C_X6_letterHere 4 L (.int x :: S) M = if x < iI 0 then rn ca C_X6_letterHere 40 L S M else rn ca C_X6_letterHere 7 L S M := (rn_at k_X6_letterHere_4).trans rnx_ite
theorem k_X6_letterHere_7 : lk 7 C_X6_letterHere = some (.aload_n 0, (0, 0, 0, 0)) := by decide +kernel
theorem s_X6_letterHere_7 {ca : Nat → List Value → tM → tO} {M : tM} {x : Nat} {S : List Value} : rn ca C_X6_letterHere 7 [some (.ref x)] S M = rn ca C_X6_letterHere 8 [some (.ref x)] (.ref x :: S) M := (rn_at k_X6_letterHere_7).trans rfl
theorem k_X6_letterHere_8 : lk 8 C_X6_letterHere = some (.getfield 22, (6, 3, 0, 126)) := by decide +kernel
theorem s_X6_letterHere_8 {ca : Nat → List Value → tM → tO} {M : tM} {L : tL} {b : Nat} {S : List Value} : rn ca C_X6_letterHere 8 L (.ref b :: S) M = if clsO b = some 6 then rn ca C_X6_letterHere 11 L (fv M b 3 :: S) M else none := (rn_at k_X6_letterHere_8).trans rnx_ite
theorem k_X6_letterHere_11 : lk 11 C_X6_letterHere = some (.aload_n 0, (0, 0, 0, 0)) := by decide +kernel
theorem s_X6_letterHere_11 {ca : Nat → List Value → tM → tO} {M : tM} {x : Nat} {S : List Value} : rn ca C_X6_letterHere 11 [some (.ref x)] S M = rn ca C_X6_letterHere 12 [some (.ref x)] (.ref x :: S) M := (rn_at k_X6_letterHere_11).trans rfl
theorem k_X6_letterHere_12 : lk 12 C_X6_letterHere = some (.getfield 18, (6, 2, 0, 125)) := by decide +kernel
theorem s_X6_letterHere_12 {ca : Nat → List Value → tM → tO} {M : tM} {L : tL} {b : Nat} {S : List Value} : rn ca C_X6_letterHere 12 L (.ref b :: S) M = if clsO b = some 6 then rn ca C_X6_letterHere 15 L (fv M b 2 :: S) M else none := (rn_at k_X6_letterHere_12).trans rnx_ite
theorem k_X6_letterHere_15 : lk 15 C_X6_letterHere = some (.if_icmp .ge 25, (40, 0, 0, 0)) := by decide +kernel
theorem s_X6_letterHere_15 {ca : Nat → List Value → tM → tO} {M : tM} {L : tL} {x y : Int32} {S : List Value} : rn ca C_X6_letterHere 15 L (.int y :: .int x :: S) M = if y ≤ x then rn ca C_X6_letterHere 40 L S M else rn ca C_X6_letterHere 18 L S M := (rn_at k_X6_letterHere_15).trans rnx_ite
theorem k_X6_letterHere_18 : lk 18 C_X6_letterHere = some (.aload_n 0, (0, 0, 0, 0)) := by decide +kernel
theorem s_X6_letterHere_18 {ca : Nat → List Value → tM → tO} {M : tM} {x : Nat} {S : List Value} : rn ca C_X6_letterHere 18 [some (.ref x)] S M = rn ca C_X6_letterHere 19 [some (.ref x)] (.ref x :: S) M := (rn_at k_X6_letterHere_18).trans rfl
theorem k_X6_letterHere_19 : lk 19 C_X6_letterHere = some (.getfield 22, (6, 3, 0, 126)) := by decide +kernel
theorem s_X6_letterHere_19 {ca : Nat → List Value → tM → tO} {M : tM} {L : tL} {b : Nat} {S : List Value} : rn ca C_X6_letterHere 19 L (.ref b :: S) M = if clsO b = some 6 then rn ca C_X6_letterHere 22 L (fv M b 3 :: S) M else none := (rn_at k_X6_letterHere_19).trans rnx_ite
theorem k_X6_letterHere_22 : lk 22 C_X6_letterHere = some (.sipush 160, (0, 0, 0, 0)) := by decide +kernel
theorem s_X6_letterHere_22 {ca : Nat → List Value → tM → tO} {M : tM} {L : tL} {S : List Value} : rn ca C_X6_letterHere 22 L S M = rn ca C_X6_letterHere 25 L (.int (iI 160) :: S) M := (rn_at k_X6_letterHere_22).trans rfl
theorem k_X6_letterHere_25 : lk 25 C_X6_letterHere = some (.if_icmp .ge 15, (40, 0, 0, 0)) := by decide +kernel
theorem s_X6_letterHere_25 {ca : Nat → List Value → tM → tO} {M : tM} {L : tL} {x y : Int32} {S : List Value} : rn ca C_X6_letterHere 25 L (.int y :: .int x :: S) M = if y ≤ x then rn ca C_X6_letterHere 40 L S M else rn ca C_X6_letterHere 28 L S M := (rn_at k_X6_letterHere_25).trans rnx_ite
theorem k_X6_letterHere_28 : lk 28 C_X6_letterHere = some (.aload_n 0, (0, 0, 0, 0)) := by decide +kernel
theorem s_X6_letterHere_28 {ca : Nat → List Value → tM → tO} {M : tM} {x : Nat} {S : List Value} : rn ca C_X6_letterHere 28 [some (.ref x)] S M = rn ca C_X6_letterHere 29 [some (.ref x)] (.ref x :: S) M := (rn_at k_X6_letterHere_28).trans rfl
theorem k_X6_letterHere_29 : lk 29 C_X6_letterHere = some (.getfield 9, (6, 0, 0, 123)) := by decide +kernel
theorem s_X6_letterHere_29 {ca : Nat → List Value → tM → tO} {M : tM} {L : tL} {b : Nat} {S : List Value} : rn ca C_X6_letterHere 29 L (.ref b :: S) M = if clsO b = some 6 then rn ca C_X6_letterHere 32 L (fv M b 0 :: S) M else none := (rn_at k_X6_letterHere_29).trans rnx_ite
theorem k_X6_letterHere_32 : lk 32 C_X6_letterHere = some (.aload_n 0, (0, 0, 0, 0)) := by decide +kernel
theorem s_X6_letterHere_32 {ca : Nat → List Value → tM → tO} {M : tM} {x : Nat} {S : List Value} : rn ca C_X6_letterHere 32 [some (.ref x)] S M = rn ca C_X6_letterHere 33 [some (.ref x)] (.ref x :: S) M := (rn_at k_X6_letterHere_32).trans rfl
theorem k_X6_letterHere_33 : lk 33 C_X6_letterHere = some (.getfield 22, (6, 3, 0, 126)) := by decide +kernel
theorem s_X6_letterHere_33 {ca : Nat → List Value → tM → tO} {M : tM} {L : tL} {b : Nat} {S : List Value} : rn ca C_X6_letterHere 33 L (.ref b :: S) M = if clsO b = some 6 then rn ca C_X6_letterHere 36 L (fv M b 3 :: S) M else none := (rn_at k_X6_letterHere_33).trans rnx_ite
theorem k_X6_letterHere_36 : lk 36 C_X6_letterHere = some (.iaload, (0, 0, 0, 0)) := by decide +kernel
theorem s_X6_letterHere_36 {ca : Nat → List Value → tM → tO} {M : tM} {L : tL} {a : Nat} {i : Int32} {S : List Value} : rn ca C_X6_letterHere 36 L (.int i :: .ref a :: S) M = if (akind a = 0 ∨ akind a = 6 ∨ akind a = 7) ∧ inb i (alen M a) then rn ca C_X6_letterHere 37 L (.int (M.1 a i.toInt.toNat) :: S) M else none := (rn_at k_X6_letterHere_36).trans rnx_ite
theorem k_X6_letterHere_37 : lk 37 C_X6_letterHere = some (.goto 4, (41, 0, 0, 0)) := by decide +kernel
theorem s_X6_letterHere_37 {ca : Nat → List Value → tM → tO} {M : tM} {L : tL} {S : List Value} : rn ca C_X6_letterHere 37 L S M = rn ca C_X6_letterHere 41 L S M := (rn_at k_X6_letterHere_37).trans rfl
theorem k_X6_letterHere_40 : lk 40 C_X6_letterHere = some (.iconst (-1), (0, 0, 0, 0)) := by decide +kernel
theorem s_X6_letterHere_40 {ca : Nat → List Value → tM → tO} {M : tM} {L : tL} {S : List Value} : rn ca C_X6_letterHere 40 L S M = rn ca C_X6_letterHere 41 L (.int (iI (-1)) :: S) M := (rn_at k_X6_letterHere_40).trans rfl
theorem k_X6_letterHere_41 : lk 41 C_X6_letterHere = some (.ireturn, (0, 0, 0, 0)) := by decide +kernel
theorem s_X6_letterHere_41 {ca : Nat → List Value → tM → tO} {M : tM} {L : tL} {x : Int32} : rn ca C_X6_letterHere 41 L [.int x] M = some (some (.int x), M) := (rn_at k_X6_letterHere_41).trans rfl
theorem k_X6_isDigitHere_0 : lk 0 C_X6_isDigitHere = some (.aload_n 0, (0, 0, 0, 0)) := by decide +kernel
theorem s_X6_isDigitHere_0 {ca : Nat → List Value → tM → tO} {M : tM} {x : Nat} {S : List Value} : rn ca C_X6_isDigitHere 0 [some (.ref x)] S M = rn ca C_X6_isDigitHere 1 [some (.ref x)] (.ref x :: S) M := (rn_at k_X6_isDigitHere_0).trans rfl
theorem k_X6_isDigitHere_1 : lk 1 C_X6_isDigitHere = some (.invokevirtual 54, (46, 0, 6, 552)) := by decide +kernel
theorem s_X6_isDigitHere_1 {ca : Nat → List Value → tM → tO} {M : tM} {L : tL} {b : Nat} : rn ca C_X6_isDigitHere 1 L [.ref b] M = if clsO b = some 6 then rnk ca C_X6_isDigitHere 4 L [] (ca m_X6_letterHere [.ref b] M) else none := (rn_at k_X6_isDigitHere_1).trans rnx_ite
theorem k_X6_isDigitHere_4 : lk 4 C_X6_isDigitHere = some (.bipush 48, (0, 0, 0, 0)) := by decide +kernel
theorem s_X6_isDigitHere_4 {ca : Nat → List Value → tM → tO} {M : tM} {L : tL} {S : List Value} : rn ca C_X6_isDigitHere 4 L S M = rn ca C_X6_isDigitHere 6 L (.int (iI 48) :: S) M := (rn_at k_X6_isDigitHere_4).trans rfl
theorem k_X6_isDigitHere_6 : lk 6 C_X6_isDigitHere = some (.if_icmp .lt 16, (22, 0, 0, 0)) := by decide +kernel
theorem s_X6_isDigitHere_6 {ca : Nat → List Value → tM → tO} {M : tM} {L : tL} {x y : Int32} {S : List Value} : rn ca C_X6_isDigitHere 6 L (.int y :: .int x :: S) M = if x < y then rn ca C_X6_isDigitHere 22 L S M else rn ca C_X6_isDigitHere 9 L S M := (rn_at k_X6_isDigitHere_6).trans rnx_ite
theorem k_X6_isDigitHere_9 : lk 9 C_X6_isDigitHere = some (.aload_n 0, (0, 0, 0, 0)) := by decide +kernel
theorem s_X6_isDigitHere_9 {ca : Nat → List Value → tM → tO} {M : tM} {x : Nat} {S : List Value} : rn ca C_X6_isDigitHere 9 [some (.ref x)] S M = rn ca C_X6_isDigitHere 10 [some (.ref x)] (.ref x :: S) M := (rn_at k_X6_isDigitHere_9).trans rfl
theorem k_X6_isDigitHere_10 : lk 10 C_X6_isDigitHere = some (.invokevirtual 54, (46, 0, 6, 552)) := by decide +kernel
theorem s_X6_isDigitHere_10 {ca : Nat → List Value → tM → tO} {M : tM} {L : tL} {b : Nat} : rn ca C_X6_isDigitHere 10 L [.ref b] M = if clsO b = some 6 then rnk ca C_X6_isDigitHere 13 L [] (ca m_X6_letterHere [.ref b] M) else none := (rn_at k_X6_isDigitHere_10).trans rnx_ite
theorem k_X6_isDigitHere_13 : lk 13 C_X6_isDigitHere = some (.bipush 57, (0, 0, 0, 0)) := by decide +kernel
theorem s_X6_isDigitHere_13 {ca : Nat → List Value → tM → tO} {M : tM} {L : tL} {S : List Value} : rn ca C_X6_isDigitHere 13 L S M = rn ca C_X6_isDigitHere 15 L (.int (iI 57) :: S) M := (rn_at k_X6_isDigitHere_13).trans rfl
theorem k_X6_isDigitHere_15 : lk 15 C_X6_isDigitHere = some (.if_icmp .gt 7, (22, 0, 0, 0)) := by decide +kernel
theorem s_X6_isDigitHere_15 {ca : Nat → List Value → tM → tO} {M : tM} {L : tL} {x y : Int32} {S : List Value} : rn ca C_X6_isDigitHere 15 L (.int y :: .int x :: S) M = if y < x then rn ca C_X6_isDigitHere 22 L S M else rn ca C_X6_isDigitHere 18 L S M := (rn_at k_X6_isDigitHere_15).trans rnx_ite
theorem k_X6_isDigitHere_18 : lk 18 C_X6_isDigitHere = some (.iconst 1, (0, 0, 0, 0)) := by decide +kernel
theorem s_X6_isDigitHere_18 {ca : Nat → List Value → tM → tO} {M : tM} {L : tL} {S : List Value} : rn ca C_X6_isDigitHere 18 L S M = rn ca C_X6_isDigitHere 19 L (.int (iI 1) :: S) M := (rn_at k_X6_isDigitHere_18).trans rfl
theorem k_X6_isDigitHere_19 : lk 19 C_X6_isDigitHere = some (.goto 4, (23, 0, 0, 0)) := by decide +kernel
theorem s_X6_isDigitHere_19 {ca : Nat → List Value → tM → tO} {M : tM} {L : tL} {S : List Value} : rn ca C_X6_isDigitHere 19 L S M = rn ca C_X6_isDigitHere 23 L S M := (rn_at k_X6_isDigitHere_19).trans rfl
theorem k_X6_isDigitHere_22 : lk 22 C_X6_isDigitHere = some (.iconst 0, (0, 0, 0, 0)) := by decide +kernel
theorem s_X6_isDigitHere_22 {ca : Nat → List Value → tM → tO} {M : tM} {L : tL} {S : List Value} : rn ca C_X6_isDigitHere 22 L S M = rn ca C_X6_isDigitHere 23 L (.int (iI 0) :: S) M := (rn_at k_X6_isDigitHere_22).trans rfl
theorem k_X6_isDigitHere_23 : lk 23 C_X6_isDigitHere = some (.ireturn, (1, 0, 0, 0)) := by decide +kernel
theorem s_X6_isDigitHere_23 {ca : Nat → List Value → tM → tO} {M : tM} {L : tL} {x : Int32} : rn ca C_X6_isDigitHere 23 L [.int x] M = if x = iI 0 ∨ x = iI 1 then some (some (.int x), M) else none := (rn_at k_X6_isDigitHere_23).trans rnx_ite
theorem k_X6_readSign_0 : lk 0 C_X6_readSign = some (.aload_n 0, (0, 0, 0, 0)) := by decide +kernel
theorem s_X6_readSign_0 {ca : Nat → List Value → tM → tO} {M : tM} {a1 : Option Value} {x : Nat} {S : List Value} : rn ca C_X6_readSign 0 [some (.ref x), a1] S M = rn ca C_X6_readSign 1 [some (.ref x), a1] (.ref x :: S) M := (rn_at k_X6_readSign_0).trans rfl
theorem k_X6_readSign_1 : lk 1 C_X6_readSign = some (.invokevirtual 54, (46, 0, 6, 552)) := by decide +kernel
theorem s_X6_readSign_1 {ca : Nat → List Value → tM → tO} {M : tM} {L : tL} {b : Nat} : rn ca C_X6_readSign 1 L [.ref b] M = if clsO b = some 6 then rnk ca C_X6_readSign 4 L [] (ca m_X6_letterHere [.ref b] M) else none := (rn_at k_X6_readSign_1).trans rnx_ite
theorem k_X6_readSign_4 : lk 4 C_X6_readSign = some (.iload_n 1, (0, 0, 0, 0)) := by decide +kernel
theorem s_X6_readSign_4 {ca : Nat → List Value → tM → tO} {M : tM} {a0 : Option Value} {x : Int32} {S : List Value} : rn ca C_X6_readSign 4 [a0, some (.int x)] S M = rn ca C_X6_readSign 5 [a0, some (.int x)] (.int x :: S) M := (rn_at k_X6_readSign_4).trans rfl
theorem k_X6_readSign_5 : lk 5 C_X6_readSign = some (.if_icmp .eq 12, (17, 0, 0, 0)) := by decide +kernel
theorem s_X6_readSign_5 {ca : Nat → List Value → tM → tO} {M : tM} {L : tL} {x y : Int32} {S : List Value} : rn ca C_X6_readSign 5 L (.int y :: .int x :: S) M = if x = y then rn ca C_X6_readSign 17 L S M else rn ca C_X6_readSign 8 L S M := (rn_at k_X6_readSign_5).trans rnx_ite
theorem k_X6_readSign_8 : lk 8 C_X6_readSign = some (.aload_n 0, (0, 0, 0, 0)) := by decide +kernel
theorem s_X6_readSign_8 {ca : Nat → List Value → tM → tO} {M : tM} {a1 : Option Value} {x : Nat} {S : List Value} : rn ca C_X6_readSign 8 [some (.ref x), a1] S M = rn ca C_X6_readSign 9 [some (.ref x), a1] (.ref x :: S) M := (rn_at k_X6_readSign_8).trans rfl
theorem k_X6_readSign_9 : lk 9 C_X6_readSign = some (.aload_n 0, (0, 0, 0, 0)) := by decide +kernel
theorem s_X6_readSign_9 {ca : Nat → List Value → tM → tO} {M : tM} {a1 : Option Value} {x : Nat} {S : List Value} : rn ca C_X6_readSign 9 [some (.ref x), a1] S M = rn ca C_X6_readSign 10 [some (.ref x), a1] (.ref x :: S) M := (rn_at k_X6_readSign_9).trans rfl
theorem k_X6_readSign_10 : lk 10 C_X6_readSign = some (.getfield 22, (6, 3, 0, 126)) := by decide +kernel
theorem s_X6_readSign_10 {ca : Nat → List Value → tM → tO} {M : tM} {L : tL} {b : Nat} {S : List Value} : rn ca C_X6_readSign 10 L (.ref b :: S) M = if clsO b = some 6 then rn ca C_X6_readSign 13 L (fv M b 3 :: S) M else none := (rn_at k_X6_readSign_10).trans rnx_ite
theorem k_X6_readSign_13 : lk 13 C_X6_readSign = some (.invokevirtual 58, (45, 1, 6, 556)) := by decide +kernel
theorem s_X6_readSign_13 {ca : Nat → List Value → tM → tO} {M : tM} {L : tL} {v1 : Value} {b : Nat} : rn ca C_X6_readSign 13 L [v1, .ref b] M = if clsO b = some 6 then rnk ca C_X6_readSign 16 L [] (ca m_X6_failAt [.ref b, v1] M) else none := (rn_at k_X6_readSign_13).trans rnx_ite
theorem k_X6_readSign_16 : lk 16 C_X6_readSign = some (.ireturn, (1, 0, 0, 0)) := by decide +kernel
theorem s_X6_readSign_16 {ca : Nat → List Value → tM → tO} {M : tM} {L : tL} {x : Int32} : rn ca C_X6_readSign 16 L [.int x] M = if x = iI 0 ∨ x = iI 1 then some (some (.int x), M) else none := (rn_at k_X6_readSign_16).trans rnx_ite
theorem k_X6_readSign_17 : lk 17 C_X6_readSign = some (.aload_n 0, (0, 0, 0, 0)) := by decide +kernel
theorem s_X6_readSign_17 {ca : Nat → List Value → tM → tO} {M : tM} {a1 : Option Value} {x : Nat} {S : List Value} : rn ca C_X6_readSign 17 [some (.ref x), a1] S M = rn ca C_X6_readSign 18 [some (.ref x), a1] (.ref x :: S) M := (rn_at k_X6_readSign_17).trans rfl
theorem k_X6_readSign_18 : lk 18 C_X6_readSign = some (.dup, (0, 0, 0, 0)) := by decide +kernel
theorem s_X6_readSign_18 {ca : Nat → List Value → tM → tO} {M : tM} {L : tL} {x : Nat} {S : List Value} : rn ca C_X6_readSign 18 L (.ref x :: S) M = rn ca C_X6_readSign 19 L (.ref x :: .ref x :: S) M := (rn_at k_X6_readSign_18).trans rfl
theorem s_X6_readSign_18b {ca : Nat → List Value → tM → tO} {M : tM} {L : tL} {x : Int32} {S : List Value} : rn ca C_X6_readSign 18 L (.int x :: S) M = rn ca C_X6_readSign 19 L (.int x :: .int x :: S) M := (rn_at k_X6_readSign_18).trans rfl
theorem k_X6_readSign_19 : lk 19 C_X6_readSign = some (.getfield 22, (6, 3, 0, 126)) := by decide +kernel
theorem s_X6_readSign_19 {ca : Nat → List Value → tM → tO} {M : tM} {L : tL} {b : Nat} {S : List Value} : rn ca C_X6_readSign 19 L (.ref b :: S) M = if clsO b = some 6 then rn ca C_X6_readSign 22 L (fv M b 3 :: S) M else none := (rn_at k_X6_readSign_19).trans rnx_ite
theorem k_X6_readSign_22 : lk 22 C_X6_readSign = some (.iconst 1, (0, 0, 0, 0)) := by decide +kernel
theorem s_X6_readSign_22 {ca : Nat → List Value → tM → tO} {M : tM} {L : tL} {S : List Value} : rn ca C_X6_readSign 22 L S M = rn ca C_X6_readSign 23 L (.int (iI 1) :: S) M := (rn_at k_X6_readSign_22).trans rfl
theorem k_X6_readSign_23 : lk 23 C_X6_readSign = some (.iadd, (0, 0, 0, 0)) := by decide +kernel
theorem s_X6_readSign_23 {ca : Nat → List Value → tM → tO} {M : tM} {L : tL} {x y : Int32} {S : List Value} : rn ca C_X6_readSign 23 L (.int y :: .int x :: S) M = rn ca C_X6_readSign 24 L (.int (x + y) :: S) M := (rn_at k_X6_readSign_23).trans rfl
theorem k_X6_readSign_24 : lk 24 C_X6_readSign = some (.putfield 22, (6, 3, 0, 126)) := by decide +kernel
theorem s_X6_readSign_24 {ca : Nat → List Value → tM → tO} {M : tM} {L : tL} {b : Nat} {v : Int32} {S : List Value} : rn ca C_X6_readSign 24 L (.int v :: .ref b :: S) M = if clsO b = some 6 then rn ca C_X6_readSign 27 L S (sI M b 3 v) else none := (rn_at k_X6_readSign_24).trans rnx_ite
theorem k_X6_readSign_27 : lk 27 C_X6_readSign = some (.iconst 1, (0, 0, 0, 0)) := by decide +kernel
theorem s_X6_readSign_27 {ca : Nat → List Value → tM → tO} {M : tM} {L : tL} {S : List Value} : rn ca C_X6_readSign 27 L S M = rn ca C_X6_readSign 28 L (.int (iI 1) :: S) M := (rn_at k_X6_readSign_27).trans rfl
theorem k_X6_readSign_28 : lk 28 C_X6_readSign = some (.ireturn, (1, 0, 0, 0)) := by decide +kernel
theorem s_X6_readSign_28 {ca : Nat → List Value → tM → tO} {M : tM} {L : tL} {x : Int32} : rn ca C_X6_readSign 28 L [.int x] M = if x = iI 0 ∨ x = iI 1 then some (some (.int x), M) else none := (rn_at k_X6_readSign_28).trans rnx_ite
theorem k_X6_readItem_0 : lk 0 C_X6_readItem = some (.aload_n 0, (0, 0, 0, 0)) := by decide +kernel
theorem s_X6_readItem_0 {ca : Nat → List Value → tM → tO} {M : tM} {a1 a2 a3 a4 a5 : Option Value} {x : Nat} {S : List Value} : rn ca C_X6_readItem 0 [some (.ref x), a1, a2, a3, a4, a5] S M = rn ca C_X6_readItem 1 [some (.ref x), a1, a2, a3, a4, a5] (.ref x :: S) M := (rn_at k_X6_readItem_0).trans rfl
theorem k_X6_readItem_1 : lk 1 C_X6_readItem = some (.getfield 22, (6, 3, 0, 126)) := by decide +kernel
theorem s_X6_readItem_1 {ca : Nat → List Value → tM → tO} {M : tM} {L : tL} {b : Nat} {S : List Value} : rn ca C_X6_readItem 1 L (.ref b :: S) M = if clsO b = some 6 then rn ca C_X6_readItem 4 L (fv M b 3 :: S) M else none := (rn_at k_X6_readItem_1).trans rnx_ite
theorem k_X6_readItem_4 : lk 4 C_X6_readItem = some (.istore_n 2, (0, 0, 0, 0)) := by decide +kernel
theorem s_X6_readItem_4 {ca : Nat → List Value → tM → tO} {M : tM} {a0 a1 a2 a3 a4 a5 : Option Value} {x : Int32} {S : List Value} : rn ca C_X6_readItem 4 [a0, a1, a2, a3, a4, a5] (.int x :: S) M = rn ca C_X6_readItem 5 [a0, a1, some (.int x), a3, a4, a5] S M := (rn_at k_X6_readItem_4).trans rfl
theorem k_X6_readItem_5 : lk 5 C_X6_readItem = some (.aload_n 0, (0, 0, 0, 0)) := by decide +kernel
theorem s_X6_readItem_5 {ca : Nat → List Value → tM → tO} {M : tM} {a1 a2 a3 a4 a5 : Option Value} {x : Nat} {S : List Value} : rn ca C_X6_readItem 5 [some (.ref x), a1, a2, a3, a4, a5] S M = rn ca C_X6_readItem 6 [some (.ref x), a1, a2, a3, a4, a5] (.ref x :: S) M := (rn_at k_X6_readItem_5).trans rfl
theorem k_X6_readItem_6 : lk 6 C_X6_readItem = some (.invokevirtual 62, (50, 0, 6, 504)) := by decide +kernel
theorem s_X6_readItem_6 {ca : Nat → List Value → tM → tO} {M : tM} {L : tL} {b : Nat} : rn ca C_X6_readItem 6 L [.ref b] M = if clsO b = some 6 then rnk ca C_X6_readItem 9 L [] (ca m_X6_wordThatBeginsHere [.ref b] M) else none := (rn_at k_X6_readItem_6).trans rnx_ite
theorem k_X6_readItem_9 : lk 9 C_X6_readItem = some (.istore_n 3, (0, 0, 0, 0)) := by decide +kernel
theorem s_X6_readItem_9 {ca : Nat → List Value → tM → tO} {M : tM} {a0 a1 a2 a3 a4 a5 : Option Value} {x : Int32} {S : List Value} : rn ca C_X6_readItem 9 [a0, a1, a2, a3, a4, a5] (.int x :: S) M = rn ca C_X6_readItem 10 [a0, a1, a2, some (.int x), a4, a5] S M := (rn_at k_X6_readItem_9).trans rfl
theorem k_X6_readItem_10 : lk 10 C_X6_readItem = some (.iload_n 3, (0, 0, 0, 0)) := by decide +kernel
theorem s_X6_readItem_10 {ca : Nat → List Value → tM → tO} {M : tM} {a0 a1 a2 a4 a5 : Option Value} {x : Int32} {S : List Value} : rn ca C_X6_readItem 10 [a0, a1, a2, some (.int x), a4, a5] S M = rn ca C_X6_readItem 11 [a0, a1, a2, some (.int x), a4, a5] (.int x :: S) M := (rn_at k_X6_readItem_10).trans rfl
theorem k_X6_readItem_11 : lk 11 C_X6_readItem = some (.iconst (-1), (0, 0, 0, 0)) := by decide +kernel
theorem s_X6_readItem_11 {ca : Nat → List Value → tM → tO} {M : tM} {L : tL} {S : List Value} : rn ca C_X6_readItem 11 L S M = rn ca C_X6_readItem 12 L (.int (iI (-1)) :: S) M := (rn_at k_X6_readItem_11).trans rfl
theorem k_X6_readItem_12 : lk 12 C_X6_readItem = some (.if_icmp .ne 12, (24, 0, 0, 0)) := by decide +kernel
theorem s_X6_readItem_12 {ca : Nat → List Value → tM → tO} {M : tM} {L : tL} {x y : Int32} {S : List Value} : rn ca C_X6_readItem 12 L (.int y :: .int x :: S) M = if ¬ x = y then rn ca C_X6_readItem 24 L S M else rn ca C_X6_readItem 15 L S M := (rn_at k_X6_readItem_12).trans rnx_ite
theorem k_X6_readItem_15 : lk 15 C_X6_readItem = some (.aload_n 0, (0, 0, 0, 0)) := by decide +kernel
theorem s_X6_readItem_15 {ca : Nat → List Value → tM → tO} {M : tM} {a1 a2 a3 a4 a5 : Option Value} {x : Nat} {S : List Value} : rn ca C_X6_readItem 15 [some (.ref x), a1, a2, a3, a4, a5] S M = rn ca C_X6_readItem 16 [some (.ref x), a1, a2, a3, a4, a5] (.ref x :: S) M := (rn_at k_X6_readItem_15).trans rfl
theorem k_X6_readItem_16 : lk 16 C_X6_readItem = some (.aload_n 0, (0, 0, 0, 0)) := by decide +kernel
theorem s_X6_readItem_16 {ca : Nat → List Value → tM → tO} {M : tM} {a1 a2 a3 a4 a5 : Option Value} {x : Nat} {S : List Value} : rn ca C_X6_readItem 16 [some (.ref x), a1, a2, a3, a4, a5] S M = rn ca C_X6_readItem 17 [some (.ref x), a1, a2, a3, a4, a5] (.ref x :: S) M := (rn_at k_X6_readItem_16).trans rfl
theorem k_X6_readItem_17 : lk 17 C_X6_readItem = some (.getfield 22, (6, 3, 0, 126)) := by decide +kernel
theorem s_X6_readItem_17 {ca : Nat → List Value → tM → tO} {M : tM} {L : tL} {b : Nat} {S : List Value} : rn ca C_X6_readItem 17 L (.ref b :: S) M = if clsO b = some 6 then rn ca C_X6_readItem 20 L (fv M b 3 :: S) M else none := (rn_at k_X6_readItem_17).trans rnx_ite
theorem k_X6_readItem_20 : lk 20 C_X6_readItem = some (.invokevirtual 58, (45, 1, 6, 556)) := by decide +kernel
theorem s_X6_readItem_20 {ca : Nat → List Value → tM → tO} {M : tM} {L : tL} {v1 : Value} {b : Nat} : rn ca C_X6_readItem 20 L [v1, .ref b] M = if clsO b = some 6 then rnk ca C_X6_readItem 23 L [] (ca m_X6_failAt [.ref b, v1] M) else none := (rn_at k_X6_readItem_20).trans rnx_ite
theorem k_X6_readItem_23 : lk 23 C_X6_readItem = some (.ireturn, (1, 0, 0, 0)) := by decide +kernel
theorem s_X6_readItem_23 {ca : Nat → List Value → tM → tO} {M : tM} {L : tL} {x : Int32} : rn ca C_X6_readItem 23 L [.int x] M = if x = iI 0 ∨ x = iI 1 then some (some (.int x), M) else none := (rn_at k_X6_readItem_23).trans rnx_ite
theorem k_X6_readItem_24 : lk 24 C_X6_readItem = some (.iload_n 3, (0, 0, 0, 0)) := by decide +kernel
theorem s_X6_readItem_24 {ca : Nat → List Value → tM → tO} {M : tM} {a0 a1 a2 a4 a5 : Option Value} {x : Int32} {S : List Value} : rn ca C_X6_readItem 24 [a0, a1, a2, some (.int x), a4, a5] S M = rn ca C_X6_readItem 25 [a0, a1, a2, some (.int x), a4, a5] (.int x :: S) M := (rn_at k_X6_readItem_24).trans rfl
theorem k_X6_readItem_25 : lk 25 C_X6_readItem = some (.invokestatic 65, (51, 1, 0, 508)) := by decide +kernel
theorem s_X6_readItem_25 {ca : Nat → List Value → tM → tO} {M : tM} {L : tL} {v1 : Value} : rn ca C_X6_readItem 25 L [v1] M = rnk ca C_X6_readItem 28 L [] (ca m_X6_textOf [v1] M) := (rn_at k_X6_readItem_25).trans rfl
theorem k_X6_readItem_28 : lk 28 C_X6_readItem = some (.astore 4, (0, 0, 0, 0)) := by decide +kernel
theorem s_X6_readItem_28 {ca : Nat → List Value → tM → tO} {M : tM} {a0 a1 a2 a3 a4 a5 : Option Value} {x : Nat} {S : List Value} : rn ca C_X6_readItem 28 [a0, a1, a2, a3, a4, a5] (.ref x :: S) M = rn ca C_X6_readItem 30 [a0, a1, a2, a3, some (.ref x), a5] S M := (rn_at k_X6_readItem_28).trans rfl
theorem k_X6_readItem_30 : lk 30 C_X6_readItem = some (.iconst 0, (0, 0, 0, 0)) := by decide +kernel
theorem s_X6_readItem_30 {ca : Nat → List Value → tM → tO} {M : tM} {L : tL} {S : List Value} : rn ca C_X6_readItem 30 L S M = rn ca C_X6_readItem 31 L (.int (iI 0) :: S) M := (rn_at k_X6_readItem_30).trans rfl
theorem k_X6_readItem_31 : lk 31 C_X6_readItem = some (.istore 5, (0, 0, 0, 0)) := by decide +kernel
theorem s_X6_readItem_31 {ca : Nat → List Value → tM → tO} {M : tM} {a0 a1 a2 a3 a4 a5 : Option Value} {x : Int32} {S : List Value} : rn ca C_X6_readItem 31 [a0, a1, a2, a3, a4, a5] (.int x :: S) M = rn ca C_X6_readItem 33 [a0, a1, a2, a3, a4, some (.int x)] S M := (rn_at k_X6_readItem_31).trans rfl
theorem k_X6_readItem_33 : lk 33 C_X6_readItem = some (.iload 5, (0, 0, 0, 0)) := by decide +kernel
theorem s_X6_readItem_33 {ca : Nat → List Value → tM → tO} {M : tM} {a0 a1 a2 a3 a4 : Option Value} {x : Int32} {S : List Value} : rn ca C_X6_readItem 33 [a0, a1, a2, a3, a4, some (.int x)] S M = rn ca C_X6_readItem 35 [a0, a1, a2, a3, a4, some (.int x)] (.int x :: S) M := (rn_at k_X6_readItem_33).trans rfl
theorem k_X6_readItem_35 : lk 35 C_X6_readItem = some (.aload 4, (0, 0, 0, 0)) := by decide +kernel
theorem s_X6_readItem_35 {ca : Nat → List Value → tM → tO} {M : tM} {a0 a1 a2 a3 a5 : Option Value} {x : Nat} {S : List Value} : rn ca C_X6_readItem 35 [a0, a1, a2, a3, some (.ref x), a5] S M = rn ca C_X6_readItem 37 [a0, a1, a2, a3, some (.ref x), a5] (.ref x :: S) M := (rn_at k_X6_readItem_35).trans rfl
theorem k_X6_readItem_37 : lk 37 C_X6_readItem = some (.invokevirtual 69, (301, 0, 90, 560)) := by decide +kernel
theorem s_X6_readItem_37 {ca : Nat → List Value → tM → tO} {M : tM} {L : tL} {r0 : Int32} {b : Nat} : rn ca C_X6_readItem 37 L [.ref b, .int r0] M = if clsO b = some 90 then rnk ca C_X6_readItem 40 L [.int r0] (ca m_J0_length_8abf5 [.ref b] M) else none := (rn_at k_X6_readItem_37).trans rnx_ite
theorem k_X6_readItem_40 : lk 40 C_X6_readItem = some (.if_icmp .ge 25, (65, 0, 0, 0)) := by decide +kernel
theorem s_X6_readItem_40 {ca : Nat → List Value → tM → tO} {M : tM} {L : tL} {x y : Int32} {S : List Value} : rn ca C_X6_readItem 40 L (.int y :: .int x :: S) M = if y ≤ x then rn ca C_X6_readItem 65 L S M else rn ca C_X6_readItem 43 L S M := (rn_at k_X6_readItem_40).trans rnx_ite
theorem k_X6_readItem_43 : lk 43 C_X6_readItem = some (.aload_n 0, (0, 0, 0, 0)) := by decide +kernel
theorem s_X6_readItem_43 {ca : Nat → List Value → tM → tO} {M : tM} {a1 a2 a3 a4 a5 : Option Value} {x : Nat} {S : List Value} : rn ca C_X6_readItem 43 [some (.ref x), a1, a2, a3, a4, a5] S M = rn ca C_X6_readItem 44 [some (.ref x), a1, a2, a3, a4, a5] (.ref x :: S) M := (rn_at k_X6_readItem_43).trans rfl
theorem k_X6_readItem_44 : lk 44 C_X6_readItem = some (.aload 4, (0, 0, 0, 0)) := by decide +kernel
theorem s_X6_readItem_44 {ca : Nat → List Value → tM → tO} {M : tM} {a0 a1 a2 a3 a5 : Option Value} {x : Nat} {S : List Value} : rn ca C_X6_readItem 44 [a0, a1, a2, a3, some (.ref x), a5] S M = rn ca C_X6_readItem 46 [a0, a1, a2, a3, some (.ref x), a5] (.ref x :: S) M := (rn_at k_X6_readItem_44).trans rfl
theorem k_X6_readItem_46 : lk 46 C_X6_readItem = some (.iload 5, (0, 0, 0, 0)) := by decide +kernel
theorem s_X6_readItem_46 {ca : Nat → List Value → tM → tO} {M : tM} {a0 a1 a2 a3 a4 : Option Value} {x : Int32} {S : List Value} : rn ca C_X6_readItem 46 [a0, a1, a2, a3, a4, some (.int x)] S M = rn ca C_X6_readItem 48 [a0, a1, a2, a3, a4, some (.int x)] (.int x :: S) M := (rn_at k_X6_readItem_46).trans rfl
theorem k_X6_readItem_48 : lk 48 C_X6_readItem = some (.invokevirtual 74, (300, 1, 90, 511)) := by decide +kernel
theorem s_X6_readItem_48 {ca : Nat → List Value → tM → tO} {M : tM} {L : tL} {v1 : Value} {r0 : Nat} {b : Nat} : rn ca C_X6_readItem 48 L [v1, .ref b, .ref r0] M = if clsO b = some 90 then rnk ca C_X6_readItem 51 L [.ref r0] (ca m_J0_charAt_5068e [.ref b, v1] M) else none := (rn_at k_X6_readItem_48).trans rnx_ite
theorem k_X6_readItem_51 : lk 51 C_X6_readItem = some (.invokevirtual 50, (48, 1, 6, 568)) := by decide +kernel
theorem s_X6_readItem_51 {ca : Nat → List Value → tM → tO} {M : tM} {L : tL} {v1 : Value} {b : Nat} : rn ca C_X6_readItem 51 L [v1, .ref b] M = if clsO b = some 6 then rnk ca C_X6_readItem 54 L [] (ca m_X6_readSign [.ref b, v1] M) else none := (rn_at k_X6_readItem_51).trans rnx_ite
theorem k_X6_readItem_54 : lk 54 C_X6_readItem = some (.ifCond .ne 5, (59, 0, 0, 0)) := by decide +kernel
theorem s_X6_readItem_54 {ca : Nat → List Value → tM → tO} {M : tM} {L : tL} {x : Int32} {S : List Value} : rn ca C_X6_readItem 54 L (.int x :: S) M = if ¬ x = iI 0 then rn ca C_X6_readItem 59 L S M else rn ca C_X6_readItem 57 L S M := (rn_at k_X6_readItem_54).trans rnx_ite
theorem k_X6_readItem_57 : lk 57 C_X6_readItem = some (.iconst 0, (0, 0, 0, 0)) := by decide +kernel
theorem s_X6_readItem_57 {ca : Nat → List Value → tM → tO} {M : tM} {L : tL} {S : List Value} : rn ca C_X6_readItem 57 L S M = rn ca C_X6_readItem 58 L (.int (iI 0) :: S) M := (rn_at k_X6_readItem_57).trans rfl
theorem k_X6_readItem_58 : lk 58 C_X6_readItem = some (.ireturn, (1, 0, 0, 0)) := by decide +kernel
theorem s_X6_readItem_58 {ca : Nat → List Value → tM → tO} {M : tM} {L : tL} {x : Int32} : rn ca C_X6_readItem 58 L [.int x] M = if x = iI 0 ∨ x = iI 1 then some (some (.int x), M) else none := (rn_at k_X6_readItem_58).trans rnx_ite
theorem k_X6_readItem_59 : lk 59 C_X6_readItem = some (.iinc 5 1, (0, 0, 0, 0)) := by decide +kernel
theorem s_X6_readItem_59 {ca : Nat → List Value → tM → tO} {M : tM} {a0 a1 a2 a3 a4 : Option Value} {x : Int32} {S : List Value} : rn ca C_X6_readItem 59 [a0, a1, a2, a3, a4, some (.int x)] S M = rn ca C_X6_readItem 62 [a0, a1, a2, a3, a4, some (.int (x + iI 1))] S M := (rn_at k_X6_readItem_59).trans rfl
theorem k_X6_readItem_62 : lk 62 C_X6_readItem = some (.goto (-29), (33, 0, 0, 0)) := by decide +kernel
theorem s_X6_readItem_62 {ca : Nat → List Value → tM → tO} {M : tM} {L : tL} {S : List Value} : rn ca C_X6_readItem 62 L S M = rn ca C_X6_readItem 33 L S M := (rn_at k_X6_readItem_62).trans rfl
theorem k_X6_readItem_65 : lk 65 C_X6_readItem = some (.iload_n 3, (0, 0, 0, 0)) := by decide +kernel
theorem s_X6_readItem_65 {ca : Nat → List Value → tM → tO} {M : tM} {a0 a1 a2 a4 a5 : Option Value} {x : Int32} {S : List Value} : rn ca C_X6_readItem 65 [a0, a1, a2, some (.int x), a4, a5] S M = rn ca C_X6_readItem 66 [a0, a1, a2, some (.int x), a4, a5] (.int x :: S) M := (rn_at k_X6_readItem_65).trans rfl
theorem k_X6_readItem_66 : lk 66 C_X6_readItem = some (.aload_n 1, (0, 0, 0, 0)) := by decide +kernel
theorem s_X6_readItem_66 {ca : Nat → List Value → tM → tO} {M : tM} {a0 a2 a3 a4 a5 : Option Value} {x : Nat} {S : List Value} : rn ca C_X6_readItem 66 [a0, some (.ref x), a2, a3, a4, a5] S M = rn ca C_X6_readItem 67 [a0, some (.ref x), a2, a3, a4, a5] (.ref x :: S) M := (rn_at k_X6_readItem_66).trans rfl
theorem k_X6_readItem_67 : lk 67 C_X6_readItem = some (.invokestatic 78, (53, 2, 0, 572)) := by decide +kernel
theorem s_X6_readItem_67 {ca : Nat → List Value → tM → tO} {M : tM} {L : tL} {v1 v2 : Value} : rn ca C_X6_readItem 67 L [v2, v1] M = rnk ca C_X6_readItem 70 L [] (ca m_X6_hasRoomFor [v1, v2] M) := (rn_at k_X6_readItem_67).trans rfl
theorem k_X6_readItem_70 : lk 70 C_X6_readItem = some (.ifCond .ne 9, (79, 0, 0, 0)) := by decide +kernel
theorem s_X6_readItem_70 {ca : Nat → List Value → tM → tO} {M : tM} {L : tL} {x : Int32} {S : List Value} : rn ca C_X6_readItem 70 L (.int x :: S) M = if ¬ x = iI 0 then rn ca C_X6_readItem 79 L S M else rn ca C_X6_readItem 73 L S M := (rn_at k_X6_readItem_70).trans rnx_ite
theorem k_X6_readItem_73 : lk 73 C_X6_readItem = some (.aload_n 0, (0, 0, 0, 0)) := by decide +kernel
theorem s_X6_readItem_73 {ca : Nat → List Value → tM → tO} {M : tM} {a1 a2 a3 a4 a5 : Option Value} {x : Nat} {S : List Value} : rn ca C_X6_readItem 73 [some (.ref x), a1, a2, a3, a4, a5] S M = rn ca C_X6_readItem 74 [some (.ref x), a1, a2, a3, a4, a5] (.ref x :: S) M := (rn_at k_X6_readItem_73).trans rfl
theorem k_X6_readItem_74 : lk 74 C_X6_readItem = some (.iload_n 2, (0, 0, 0, 0)) := by decide +kernel
theorem s_X6_readItem_74 {ca : Nat → List Value → tM → tO} {M : tM} {a0 a1 a3 a4 a5 : Option Value} {x : Int32} {S : List Value} : rn ca C_X6_readItem 74 [a0, a1, some (.int x), a3, a4, a5] S M = rn ca C_X6_readItem 75 [a0, a1, some (.int x), a3, a4, a5] (.int x :: S) M := (rn_at k_X6_readItem_74).trans rfl
theorem k_X6_readItem_75 : lk 75 C_X6_readItem = some (.invokevirtual 58, (45, 1, 6, 556)) := by decide +kernel
theorem s_X6_readItem_75 {ca : Nat → List Value → tM → tO} {M : tM} {L : tL} {v1 : Value} {b : Nat} : rn ca C_X6_readItem 75 L [v1, .ref b] M = if clsO b = some 6 then rnk ca C_X6_readItem 78 L [] (ca m_X6_failAt [.ref b, v1] M) else none := (rn_at k_X6_readItem_75).trans rnx_ite
theorem k_X6_readItem_78 : lk 78 C_X6_readItem = some (.ireturn, (1, 0, 0, 0)) := by decide +kernel
theorem s_X6_readItem_78 {ca : Nat → List Value → tM → tO} {M : tM} {L : tL} {x : Int32} : rn ca C_X6_readItem 78 L [.int x] M = if x = iI 0 ∨ x = iI 1 then some (some (.int x), M) else none := (rn_at k_X6_readItem_78).trans rnx_ite
theorem k_X6_readItem_79 : lk 79 C_X6_readItem = some (.iconst 0, (0, 0, 0, 0)) := by decide +kernel
theorem s_X6_readItem_79 {ca : Nat → List Value → tM → tO} {M : tM} {L : tL} {S : List Value} : rn ca C_X6_readItem 79 L S M = rn ca C_X6_readItem 80 L (.int (iI 0) :: S) M := (rn_at k_X6_readItem_79).trans rfl
theorem k_X6_readItem_80 : lk 80 C_X6_readItem = some (.istore 5, (0, 0, 0, 0)) := by decide +kernel
theorem s_X6_readItem_80 {ca : Nat → List Value → tM → tO} {M : tM} {a0 a1 a2 a3 a4 a5 : Option Value} {x : Int32} {S : List Value} : rn ca C_X6_readItem 80 [a0, a1, a2, a3, a4, a5] (.int x :: S) M = rn ca C_X6_readItem 82 [a0, a1, a2, a3, a4, some (.int x)] S M := (rn_at k_X6_readItem_80).trans rfl
theorem k_X6_readItem_82 : lk 82 C_X6_readItem = some (.iload 5, (0, 0, 0, 0)) := by decide +kernel
theorem s_X6_readItem_82 {ca : Nat → List Value → tM → tO} {M : tM} {a0 a1 a2 a3 a4 : Option Value} {x : Int32} {S : List Value} : rn ca C_X6_readItem 82 [a0, a1, a2, a3, a4, some (.int x)] S M = rn ca C_X6_readItem 84 [a0, a1, a2, a3, a4, some (.int x)] (.int x :: S) M := (rn_at k_X6_readItem_82).trans rfl
theorem k_X6_readItem_84 : lk 84 C_X6_readItem = some (.iload_n 3, (0, 0, 0, 0)) := by decide +kernel
theorem s_X6_readItem_84 {ca : Nat → List Value → tM → tO} {M : tM} {a0 a1 a2 a4 a5 : Option Value} {x : Int32} {S : List Value} : rn ca C_X6_readItem 84 [a0, a1, a2, some (.int x), a4, a5] S M = rn ca C_X6_readItem 85 [a0, a1, a2, some (.int x), a4, a5] (.int x :: S) M := (rn_at k_X6_readItem_84).trans rfl
theorem k_X6_readItem_85 : lk 85 C_X6_readItem = some (.invokestatic 82, (52, 1, 0, 578)) := by decide +kernel
theorem s_X6_readItem_85 {ca : Nat → List Value → tM → tO} {M : tM} {L : tL} {v1 : Value} {r0 : Int32} : rn ca C_X6_readItem 85 L [v1, .int r0] M = rnk ca C_X6_readItem 88 L [.int r0] (ca m_X6_numbersOf [v1] M) := (rn_at k_X6_readItem_85).trans rfl
theorem k_X6_readItem_88 : lk 88 C_X6_readItem = some (.if_icmp .ge 37, (125, 0, 0, 0)) := by decide +kernel
theorem s_X6_readItem_88 {ca : Nat → List Value → tM → tO} {M : tM} {L : tL} {x y : Int32} {S : List Value} : rn ca C_X6_readItem 88 L (.int y :: .int x :: S) M = if y ≤ x then rn ca C_X6_readItem 125 L S M else rn ca C_X6_readItem 91 L S M := (rn_at k_X6_readItem_88).trans rnx_ite
theorem k_X6_readItem_91 : lk 91 C_X6_readItem = some (.iload 5, (0, 0, 0, 0)) := by decide +kernel
theorem s_X6_readItem_91 {ca : Nat → List Value → tM → tO} {M : tM} {a0 a1 a2 a3 a4 : Option Value} {x : Int32} {S : List Value} : rn ca C_X6_readItem 91 [a0, a1, a2, a3, a4, some (.int x)] S M = rn ca C_X6_readItem 93 [a0, a1, a2, a3, a4, some (.int x)] (.int x :: S) M := (rn_at k_X6_readItem_91).trans rfl
theorem k_X6_readItem_93 : lk 93 C_X6_readItem = some (.iconst 4, (0, 0, 0, 0)) := by decide +kernel
theorem s_X6_readItem_93 {ca : Nat → List Value → tM → tO} {M : tM} {L : tL} {S : List Value} : rn ca C_X6_readItem 93 L S M = rn ca C_X6_readItem 94 L (.int (iI 4) :: S) M := (rn_at k_X6_readItem_93).trans rfl
theorem k_X6_readItem_94 : lk 94 C_X6_readItem = some (.if_icmp .ge 31, (125, 0, 0, 0)) := by decide +kernel
theorem s_X6_readItem_94 {ca : Nat → List Value → tM → tO} {M : tM} {L : tL} {x y : Int32} {S : List Value} : rn ca C_X6_readItem 94 L (.int y :: .int x :: S) M = if y ≤ x then rn ca C_X6_readItem 125 L S M else rn ca C_X6_readItem 97 L S M := (rn_at k_X6_readItem_94).trans rnx_ite
theorem k_X6_readItem_97 : lk 97 C_X6_readItem = some (.aload_n 0, (0, 0, 0, 0)) := by decide +kernel
theorem s_X6_readItem_97 {ca : Nat → List Value → tM → tO} {M : tM} {a1 a2 a3 a4 a5 : Option Value} {x : Nat} {S : List Value} : rn ca C_X6_readItem 97 [some (.ref x), a1, a2, a3, a4, a5] S M = rn ca C_X6_readItem 98 [some (.ref x), a1, a2, a3, a4, a5] (.ref x :: S) M := (rn_at k_X6_readItem_97).trans rfl
theorem k_X6_readItem_98 : lk 98 C_X6_readItem = some (.bipush 32, (0, 0, 0, 0)) := by decide +kernel
theorem s_X6_readItem_98 {ca : Nat → List Value → tM → tO} {M : tM} {L : tL} {S : List Value} : rn ca C_X6_readItem 98 L S M = rn ca C_X6_readItem 100 L (.int (iI 32) :: S) M := (rn_at k_X6_readItem_98).trans rfl
theorem k_X6_readItem_100 : lk 100 C_X6_readItem = some (.invokevirtual 50, (48, 1, 6, 568)) := by decide +kernel
theorem s_X6_readItem_100 {ca : Nat → List Value → tM → tO} {M : tM} {L : tL} {v1 : Value} {b : Nat} : rn ca C_X6_readItem 100 L [v1, .ref b] M = if clsO b = some 6 then rnk ca C_X6_readItem 103 L [] (ca m_X6_readSign [.ref b, v1] M) else none := (rn_at k_X6_readItem_100).trans rnx_ite
theorem k_X6_readItem_103 : lk 103 C_X6_readItem = some (.ifCond .eq 14, (117, 0, 0, 0)) := by decide +kernel
theorem s_X6_readItem_103 {ca : Nat → List Value → tM → tO} {M : tM} {L : tL} {x : Int32} {S : List Value} : rn ca C_X6_readItem 103 L (.int x :: S) M = if x = iI 0 then rn ca C_X6_readItem 117 L S M else rn ca C_X6_readItem 106 L S M := (rn_at k_X6_readItem_103).trans rnx_ite
theorem k_X6_readItem_106 : lk 106 C_X6_readItem = some (.aload_n 0, (0, 0, 0, 0)) := by decide +kernel
theorem s_X6_readItem_106 {ca : Nat → List Value → tM → tO} {M : tM} {a1 a2 a3 a4 a5 : Option Value} {x : Nat} {S : List Value} : rn ca C_X6_readItem 106 [some (.ref x), a1, a2, a3, a4, a5] S M = rn ca C_X6_readItem 107 [some (.ref x), a1, a2, a3, a4, a5] (.ref x :: S) M := (rn_at k_X6_readItem_106).trans rfl
theorem k_X6_readItem_107 : lk 107 C_X6_readItem = some (.iload_n 3, (0, 0, 0, 0)) := by decide +kernel
theorem s_X6_readItem_107 {ca : Nat → List Value → tM → tO} {M : tM} {a0 a1 a2 a4 a5 : Option Value} {x : Int32} {S : List Value} : rn ca C_X6_readItem 107 [a0, a1, a2, some (.int x), a4, a5] S M = rn ca C_X6_readItem 108 [a0, a1, a2, some (.int x), a4, a5] (.int x :: S) M := (rn_at k_X6_readItem_107).trans rfl
theorem k_X6_readItem_108 : lk 108 C_X6_readItem = some (.iload 5, (0, 0, 0, 0)) := by decide +kernel
theorem s_X6_readItem_108 {ca : Nat → List Value → tM → tO} {M : tM} {a0 a1 a2 a3 a4 : Option Value} {x : Int32} {S : List Value} : rn ca C_X6_readItem 108 [a0, a1, a2, a3, a4, some (.int x)] S M = rn ca C_X6_readItem 110 [a0, a1, a2, a3, a4, some (.int x)] (.int x :: S) M := (rn_at k_X6_readItem_108).trans rfl
theorem k_X6_readItem_110 : lk 110 C_X6_readItem = some (.aload_n 1, (0, 0, 0, 0)) := by decide +kernel
theorem s_X6_readItem_110 {ca : Nat → List Value → tM → tO} {M : tM} {a0 a2 a3 a4 a5 : Option Value} {x : Nat} {S : List Value} : rn ca C_X6_readItem 110 [a0, some (.ref x), a2, a3, a4, a5] S M = rn ca C_X6_readItem 111 [a0, some (.ref x), a2, a3, a4, a5] (.ref x :: S) M := (rn_at k_X6_readItem_110).trans rfl
theorem k_X6_readItem_111 : lk 111 C_X6_readItem = some (.invokevirtual 85, (54, 3, 6, 581)) := by decide +kernel
theorem s_X6_readItem_111 {ca : Nat → List Value → tM → tO} {M : tM} {L : tL} {v1 v2 v3 : Value} {b : Nat} : rn ca C_X6_readItem 111 L [v3, v2, v1, .ref b] M = if clsO b = some 6 then rnk ca C_X6_readItem 114 L [] (ca m_X6_readNumber [.ref b, v1, v2, v3] M) else none := (rn_at k_X6_readItem_111).trans rnx_ite
theorem k_X6_readItem_114 : lk 114 C_X6_readItem = some (.ifCond .ne 5, (119, 0, 0, 0)) := by decide +kernel
theorem s_X6_readItem_114 {ca : Nat → List Value → tM → tO} {M : tM} {L : tL} {x : Int32} {S : List Value} : rn ca C_X6_readItem 114 L (.int x :: S) M = if ¬ x = iI 0 then rn ca C_X6_readItem 119 L S M else rn ca C_X6_readItem 117 L S M := (rn_at k_X6_readItem_114).trans rnx_ite
theorem k_X6_readItem_117 : lk 117 C_X6_readItem = some (.iconst 0, (0, 0, 0, 0)) := by decide +kernel
theorem s_X6_readItem_117 {ca : Nat → List Value → tM → tO} {M : tM} {L : tL} {S : List Value} : rn ca C_X6_readItem 117 L S M = rn ca C_X6_readItem 118 L (.int (iI 0) :: S) M := (rn_at k_X6_readItem_117).trans rfl
theorem k_X6_readItem_118 : lk 118 C_X6_readItem = some (.ireturn, (1, 0, 0, 0)) := by decide +kernel
theorem s_X6_readItem_118 {ca : Nat → List Value → tM → tO} {M : tM} {L : tL} {x : Int32} : rn ca C_X6_readItem 118 L [.int x] M = if x = iI 0 ∨ x = iI 1 then some (some (.int x), M) else none := (rn_at k_X6_readItem_118).trans rnx_ite
theorem k_X6_readItem_119 : lk 119 C_X6_readItem = some (.iinc 5 1, (0, 0, 0, 0)) := by decide +kernel
theorem s_X6_readItem_119 {ca : Nat → List Value → tM → tO} {M : tM} {a0 a1 a2 a3 a4 : Option Value} {x : Int32} {S : List Value} : rn ca C_X6_readItem 119 [a0, a1, a2, a3, a4, some (.int x)] S M = rn ca C_X6_readItem 122 [a0, a1, a2, a3, a4, some (.int (x + iI 1))] S M := (rn_at k_X6_readItem_119).trans rfl
theorem k_X6_readItem_122 : lk 122 C_X6_readItem = some (.goto (-40), (82, 0, 0, 0)) := by decide +kernel
theorem s_X6_readItem_122 {ca : Nat → List Value → tM → tO} {M : tM} {L : tL} {S : List Value} : rn ca C_X6_readItem 122 L S M = rn ca C_X6_readItem 82 L S M := (rn_at k_X6_readItem_122).trans rfl
theorem k_X6_readItem_125 : lk 125 C_X6_readItem = some (.aload_n 0, (0, 0, 0, 0)) := by decide +kernel
theorem s_X6_readItem_125 {ca : Nat → List Value → tM → tO} {M : tM} {a1 a2 a3 a4 a5 : Option Value} {x : Nat} {S : List Value} : rn ca C_X6_readItem 125 [some (.ref x), a1, a2, a3, a4, a5] S M = rn ca C_X6_readItem 126 [some (.ref x), a1, a2, a3, a4, a5] (.ref x :: S) M := (rn_at k_X6_readItem_125).trans rfl
theorem k_X6_readItem_126 : lk 126 C_X6_readItem = some (.iload_n 3, (0, 0, 0, 0)) := by decide +kernel
theorem s_X6_readItem_126 {ca : Nat → List Value → tM → tO} {M : tM} {a0 a1 a2 a4 a5 : Option Value} {x : Int32} {S : List Value} : rn ca C_X6_readItem 126 [a0, a1, a2, some (.int x), a4, a5] S M = rn ca C_X6_readItem 127 [a0, a1, a2, some (.int x), a4, a5] (.int x :: S) M := (rn_at k_X6_readItem_126).trans rfl
theorem k_X6_readItem_127 : lk 127 C_X6_readItem = some (.aload_n 1, (0, 0, 0, 0)) := by decide +kernel
theorem s_X6_readItem_127 {ca : Nat → List Value → tM → tO} {M : tM} {a0 a2 a3 a4 a5 : Option Value} {x : Nat} {S : List Value} : rn ca C_X6_readItem 127 [a0, some (.ref x), a2, a3, a4, a5] S M = rn ca C_X6_readItem 128 [a0, some (.ref x), a2, a3, a4, a5] (.ref x :: S) M := (rn_at k_X6_readItem_127).trans rfl
theorem k_X6_readItem_128 : lk 128 C_X6_readItem = some (.invokevirtual 89, (58, 2, 6, 602)) := by decide +kernel
theorem s_X6_readItem_128 {ca : Nat → List Value → tM → tO} {M : tM} {L : tL} {v1 v2 : Value} {b : Nat} : rn ca C_X6_readItem 128 L [v2, v1, .ref b] M = if clsO b = some 6 then rnk ca C_X6_readItem 131 L [] (ca m_X6_tell [.ref b, v1, v2] M) else none := (rn_at k_X6_readItem_128).trans rnx_ite
theorem k_X6_readItem_131 : lk 131 C_X6_readItem = some (.iconst 1, (0, 0, 0, 0)) := by decide +kernel
theorem s_X6_readItem_131 {ca : Nat → List Value → tM → tO} {M : tM} {L : tL} {S : List Value} : rn ca C_X6_readItem 131 L S M = rn ca C_X6_readItem 132 L (.int (iI 1) :: S) M := (rn_at k_X6_readItem_131).trans rfl
theorem k_X6_readItem_132 : lk 132 C_X6_readItem = some (.ireturn, (1, 0, 0, 0)) := by decide +kernel
theorem s_X6_readItem_132 {ca : Nat → List Value → tM → tO} {M : tM} {L : tL} {x : Int32} : rn ca C_X6_readItem 132 L [.int x] M = if x = iI 0 ∨ x = iI 1 then some (some (.int x), M) else none := (rn_at k_X6_readItem_132).trans rnx_ite
theorem k_X6_wordThatBeginsHere_0 : lk 0 C_X6_wordThatBeginsHere = some (.iconst 0, (0, 0, 0, 0)) := by decide +kernel
theorem s_X6_wordThatBeginsHere_0 {ca : Nat → List Value → tM → tO} {M : tM} {L : tL} {S : List Value} : rn ca C_X6_wordThatBeginsHere 0 L S M = rn ca C_X6_wordThatBeginsHere 1 L (.int (iI 0) :: S) M := (rn_at k_X6_wordThatBeginsHere_0).trans rfl
theorem k_X6_wordThatBeginsHere_1 : lk 1 C_X6_wordThatBeginsHere = some (.istore_n 1, (0, 0, 0, 0)) := by decide +kernel
theorem s_X6_wordThatBeginsHere_1 {ca : Nat → List Value → tM → tO} {M : tM} {a0 a1 : Option Value} {x : Int32} {S : List Value} : rn ca C_X6_wordThatBeginsHere 1 [a0, a1] (.int x :: S) M = rn ca C_X6_wordThatBeginsHere 2 [a0, some (.int x)] S M := (rn_at k_X6_wordThatBeginsHere_1).trans rfl
theorem k_X6_wordThatBeginsHere_2 : lk 2 C_X6_wordThatBeginsHere = some (.iload_n 1, (0, 0, 0, 0)) := by decide +kernel
theorem s_X6_wordThatBeginsHere_2 {ca : Nat → List Value → tM → tO} {M : tM} {a0 : Option Value} {x : Int32} {S : List Value} : rn ca C_X6_wordThatBeginsHere 2 [a0, some (.int x)] S M = rn ca C_X6_wordThatBeginsHere 3 [a0, some (.int x)] (.int x :: S) M := (rn_at k_X6_wordThatBeginsHere_2).trans rfl
theorem k_X6_wordThatBeginsHere_3 : lk 3 C_X6_wordThatBeginsHere = some (.bipush 6, (0, 0, 0, 0)) := by decide +kernel
theorem s_X6_wordThatBeginsHere_3 {ca : Nat → List Value → tM → tO} {M : tM} {L : tL} {S : List Value} : rn ca C_X6_wordThatBeginsHere 3 L S M = rn ca C_X6_wordThatBeginsHere 5 L (.int (iI 6) :: S) M := (rn_at k_X6_wordThatBeginsHere_3).trans rfl
theorem k_X6_wordThatBeginsHere_5 : lk 5 C_X6_wordThatBeginsHere = some (.if_icmp .ge 26, (31, 0, 0, 0)) := by decide +kernel
theorem s_X6_wordThatBeginsHere_5 {ca : Nat → List Value → tM → tO} {M : tM} {L : tL} {x y : Int32} {S : List Value} : rn ca C_X6_wordThatBeginsHere 5 L (.int y :: .int x :: S) M = if y ≤ x then rn ca C_X6_wordThatBeginsHere 31 L S M else rn ca C_X6_wordThatBeginsHere 8 L S M := (rn_at k_X6_wordThatBeginsHere_5).trans rnx_ite
theorem k_X6_wordThatBeginsHere_8 : lk 8 C_X6_wordThatBeginsHere = some (.iload_n 1, (0, 0, 0, 0)) := by decide +kernel
theorem s_X6_wordThatBeginsHere_8 {ca : Nat → List Value → tM → tO} {M : tM} {a0 : Option Value} {x : Int32} {S : List Value} : rn ca C_X6_wordThatBeginsHere 8 [a0, some (.int x)] S M = rn ca C_X6_wordThatBeginsHere 9 [a0, some (.int x)] (.int x :: S) M := (rn_at k_X6_wordThatBeginsHere_8).trans rfl
theorem k_X6_wordThatBeginsHere_9 : lk 9 C_X6_wordThatBeginsHere = some (.invokestatic 65, (51, 1, 0, 508)) := by decide +kernel
theorem s_X6_wordThatBeginsHere_9 {ca : Nat → List Value → tM → tO} {M : tM} {L : tL} {v1 : Value} : rn ca C_X6_wordThatBeginsHere 9 L [v1] M = rnk ca C_X6_wordThatBeginsHere 12 L [] (ca m_X6_textOf [v1] M) := (rn_at k_X6_wordThatBeginsHere_9).trans rfl
theorem k_X6_wordThatBeginsHere_12 : lk 12 C_X6_wordThatBeginsHere = some (.iconst 0, (0, 0, 0, 0)) := by decide +kernel
theorem s_X6_wordThatBeginsHere_12 {ca : Nat → List Value → tM → tO} {M : tM} {L : tL} {S : List Value} : rn ca C_X6_wordThatBeginsHere 12 L S M = rn ca C_X6_wordThatBeginsHere 13 L (.int (iI 0) :: S) M := (rn_at k_X6_wordThatBeginsHere_12).trans rfl
theorem k_X6_wordThatBeginsHere_13 : lk 13 C_X6_wordThatBeginsHere = some (.invokevirtual 74, (300, 1, 90, 511)) := by decide +kernel
theorem s_X6_wordThatBeginsHere_13 {ca : Nat → List Value → tM → tO} {M : tM} {L : tL} {v1 : Value} {b : Nat} : rn ca C_X6_wordThatBeginsHere 13 L [v1, .ref b] M = if clsO b = some 90 then rnk ca C_X6_wordThatBeginsHere 16 L [] (ca m_J0_charAt_5068e [.ref b, v1] M) else none := (rn_at k_X6_wordThatBeginsHere_13).trans rnx_ite
theorem k_X6_wordThatBeginsHere_16 : lk 16 C_X6_wordThatBeginsHere = some (.aload_n 0, (0, 0, 0, 0)) := by decide +kernel
theorem s_X6_wordThatBeginsHere_16 {ca : Nat → List Value → tM → tO} {M : tM} {a1 : Option Value} {x : Nat} {S : List Value} : rn ca C_X6_wordThatBeginsHere 16 [some (.ref x), a1] S M = rn ca C_X6_wordThatBeginsHere 17 [some (.ref x), a1] (.ref x :: S) M := (rn_at k_X6_wordThatBeginsHere_16).trans rfl
theorem k_X6_wordThatBeginsHere_17 : lk 17 C_X6_wordThatBeginsHere = some (.invokevirtual 54, (46, 0, 6, 552)) := by decide +kernel
theorem s_X6_wordThatBeginsHere_17 {ca : Nat → List Value → tM → tO} {M : tM} {L : tL} {r0 : Int32} {b : Nat} : rn ca C_X6_wordThatBeginsHere 17 L [.ref b, .int r0] M = if clsO b = some 6 then rnk ca C_X6_wordThatBeginsHere 20 L [.int r0] (ca m_X6_letterHere [.ref b] M) else none := (rn_at k_X6_wordThatBeginsHere_17).trans rnx_ite
theorem k_X6_wordThatBeginsHere_20 : lk 20 C_X6_wordThatBeginsHere = some (.if_icmp .ne 5, (25, 0, 0, 0)) := by decide +kernel
theorem s_X6_wordThatBeginsHere_20 {ca : Nat → List Value → tM → tO} {M : tM} {L : tL} {x y : Int32} {S : List Value} : rn ca C_X6_wordThatBeginsHere 20 L (.int y :: .int x :: S) M = if ¬ x = y then rn ca C_X6_wordThatBeginsHere 25 L S M else rn ca C_X6_wordThatBeginsHere 23 L S M := (rn_at k_X6_wordThatBeginsHere_20).trans rnx_ite
theorem k_X6_wordThatBeginsHere_23 : lk 23 C_X6_wordThatBeginsHere = some (.iload_n 1, (0, 0, 0, 0)) := by decide +kernel
theorem s_X6_wordThatBeginsHere_23 {ca : Nat → List Value → tM → tO} {M : tM} {a0 : Option Value} {x : Int32} {S : List Value} : rn ca C_X6_wordThatBeginsHere 23 [a0, some (.int x)] S M = rn ca C_X6_wordThatBeginsHere 24 [a0, some (.int x)] (.int x :: S) M := (rn_at k_X6_wordThatBeginsHere_23).trans rfl
theorem k_X6_wordThatBeginsHere_24 : lk 24 C_X6_wordThatBeginsHere = some (.ireturn, (0, 0, 0, 0)) := by decide +kernel
theorem s_X6_wordThatBeginsHere_24 {ca : Nat → List Value → tM → tO} {M : tM} {L : tL} {x : Int32} : rn ca C_X6_wordThatBeginsHere 24 L [.int x] M = some (some (.int x), M) := (rn_at k_X6_wordThatBeginsHere_24).trans rfl
theorem k_X6_wordThatBeginsHere_25 : lk 25 C_X6_wordThatBeginsHere = some (.iinc 1 1, (0, 0, 0, 0)) := by decide +kernel
theorem s_X6_wordThatBeginsHere_25 {ca : Nat → List Value → tM → tO} {M : tM} {a0 : Option Value} {x : Int32} {S : List Value} : rn ca C_X6_wordThatBeginsHere 25 [a0, some (.int x)] S M = rn ca C_X6_wordThatBeginsHere 28 [a0, some (.int (x + iI 1))] S M := (rn_at k_X6_wordThatBeginsHere_25).trans rfl
theorem k_X6_wordThatBeginsHere_28 : lk 28 C_X6_wordThatBeginsHere = some (.goto (-26), (2, 0, 0, 0)) := by decide +kernel
theorem s_X6_wordThatBeginsHere_28 {ca : Nat → List Value → tM → tO} {M : tM} {L : tL} {S : List Value} : rn ca C_X6_wordThatBeginsHere 28 L S M = rn ca C_X6_wordThatBeginsHere 2 L S M := (rn_at k_X6_wordThatBeginsHere_28).trans rfl
theorem k_X6_wordThatBeginsHere_31 : lk 31 C_X6_wordThatBeginsHere = some (.iconst (-1), (0, 0, 0, 0)) := by decide +kernel
theorem s_X6_wordThatBeginsHere_31 {ca : Nat → List Value → tM → tO} {M : tM} {L : tL} {S : List Value} : rn ca C_X6_wordThatBeginsHere 31 L S M = rn ca C_X6_wordThatBeginsHere 32 L (.int (iI (-1)) :: S) M := (rn_at k_X6_wordThatBeginsHere_31).trans rfl
theorem k_X6_wordThatBeginsHere_32 : lk 32 C_X6_wordThatBeginsHere = some (.ireturn, (0, 0, 0, 0)) := by decide +kernel
theorem s_X6_wordThatBeginsHere_32 {ca : Nat → List Value → tM → tO} {M : tM} {L : tL} {x : Int32} : rn ca C_X6_wordThatBeginsHere 32 L [.int x] M = some (some (.int x), M) := (rn_at k_X6_wordThatBeginsHere_32).trans rfl
theorem k_X6_textOf_0 : lk 0 C_X6_textOf = some (.iload_n 0, (0, 0, 0, 0)) := by decide +kernel
theorem s_X6_textOf_0 {ca : Nat → List Value → tM → tO} {M : tM} {x : Int32} {S : List Value} : rn ca C_X6_textOf 0 [some (.int x)] S M = rn ca C_X6_textOf 1 [some (.int x)] (.int x :: S) M := (rn_at k_X6_textOf_0).trans rfl
theorem k_X6_textOf_1 : lk 1 C_X6_textOf = some (.tableswitch 50 0 4 #[35, 38, 41, 44, 47], (0, 0, 0, 0)) := by decide +kernel
theorem s_X6_textOf_1 {ca : Nat → List Value → tM → tO} {M : tM} {L : tL} {x : Int32} {S : List Value} : rn ca C_X6_textOf 1 L (.int x :: S) M = if x = iI 0 then rn ca C_X6_textOf 36 L S M else if x = iI 1 then rn ca C_X6_textOf 39 L S M else if x = iI 2 then rn ca C_X6_textOf 42 L S M else if x = iI 3 then rn ca C_X6_textOf 45 L S M else if x = iI 4 then rn ca C_X6_textOf 48 L S M else rn ca C_X6_textOf 51 L S M := by rw [rn_at k_X6_textOf_1]; simp only [ta, tsw, lsw, rnx_ite]; rfl
theorem k_X6_textOf_36 : lk 36 C_X6_textOf = some (.ldc 93, (1, 130, 0, 0)) := by decide +kernel
theorem s_X6_textOf_36 {ca : Nat → List Value → tM → tO} {M : tM} {L : tL} {S : List Value} : rn ca C_X6_textOf 36 L S M = rn ca C_X6_textOf 38 L (.ref 130 :: S) M := (rn_at k_X6_textOf_36).trans rfl
theorem k_X6_textOf_38 : lk 38 C_X6_textOf = some (.areturn, (0, 0, 0, 0)) := by decide +kernel
theorem s_X6_textOf_38 {ca : Nat → List Value → tM → tO} {M : tM} {L : tL} {x : Nat} : rn ca C_X6_textOf 38 L [.ref x] M = some (some (.ref x), M) := (rn_at k_X6_textOf_38).trans rfl
theorem k_X6_textOf_39 : lk 39 C_X6_textOf = some (.ldc 95, (1, 131, 0, 0)) := by decide +kernel
theorem s_X6_textOf_39 {ca : Nat → List Value → tM → tO} {M : tM} {L : tL} {S : List Value} : rn ca C_X6_textOf 39 L S M = rn ca C_X6_textOf 41 L (.ref 131 :: S) M := (rn_at k_X6_textOf_39).trans rfl
theorem k_X6_textOf_41 : lk 41 C_X6_textOf = some (.areturn, (0, 0, 0, 0)) := by decide +kernel
theorem s_X6_textOf_41 {ca : Nat → List Value → tM → tO} {M : tM} {L : tL} {x : Nat} : rn ca C_X6_textOf 41 L [.ref x] M = some (some (.ref x), M) := (rn_at k_X6_textOf_41).trans rfl
theorem k_X6_textOf_42 : lk 42 C_X6_textOf = some (.ldc 97, (1, 132, 0, 0)) := by decide +kernel
theorem s_X6_textOf_42 {ca : Nat → List Value → tM → tO} {M : tM} {L : tL} {S : List Value} : rn ca C_X6_textOf 42 L S M = rn ca C_X6_textOf 44 L (.ref 132 :: S) M := (rn_at k_X6_textOf_42).trans rfl
theorem k_X6_textOf_44 : lk 44 C_X6_textOf = some (.areturn, (0, 0, 0, 0)) := by decide +kernel
theorem s_X6_textOf_44 {ca : Nat → List Value → tM → tO} {M : tM} {L : tL} {x : Nat} : rn ca C_X6_textOf 44 L [.ref x] M = some (some (.ref x), M) := (rn_at k_X6_textOf_44).trans rfl
theorem k_X6_textOf_45 : lk 45 C_X6_textOf = some (.ldc 99, (1, 133, 0, 0)) := by decide +kernel
theorem s_X6_textOf_45 {ca : Nat → List Value → tM → tO} {M : tM} {L : tL} {S : List Value} : rn ca C_X6_textOf 45 L S M = rn ca C_X6_textOf 47 L (.ref 133 :: S) M := (rn_at k_X6_textOf_45).trans rfl
theorem k_X6_textOf_47 : lk 47 C_X6_textOf = some (.areturn, (0, 0, 0, 0)) := by decide +kernel
theorem s_X6_textOf_47 {ca : Nat → List Value → tM → tO} {M : tM} {L : tL} {x : Nat} : rn ca C_X6_textOf 47 L [.ref x] M = some (some (.ref x), M) := (rn_at k_X6_textOf_47).trans rfl
theorem k_X6_textOf_48 : lk 48 C_X6_textOf = some (.ldc 101, (1, 134, 0, 0)) := by decide +kernel
theorem s_X6_textOf_48 {ca : Nat → List Value → tM → tO} {M : tM} {L : tL} {S : List Value} : rn ca C_X6_textOf 48 L S M = rn ca C_X6_textOf 50 L (.ref 134 :: S) M := (rn_at k_X6_textOf_48).trans rfl
theorem k_X6_textOf_50 : lk 50 C_X6_textOf = some (.areturn, (0, 0, 0, 0)) := by decide +kernel
theorem s_X6_textOf_50 {ca : Nat → List Value → tM → tO} {M : tM} {L : tL} {x : Nat} : rn ca C_X6_textOf 50 L [.ref x] M = some (some (.ref x), M) := (rn_at k_X6_textOf_50).trans rfl
theorem k_X6_textOf_51 : lk 51 C_X6_textOf = some (.ldc 103, (1, 135, 0, 0)) := by decide +kernel
theorem s_X6_textOf_51 {ca : Nat → List Value → tM → tO} {M : tM} {L : tL} {S : List Value} : rn ca C_X6_textOf 51 L S M = rn ca C_X6_textOf 53 L (.ref 135 :: S) M := (rn_at k_X6_textOf_51).trans rfl
theorem k_X6_textOf_53 : lk 53 C_X6_textOf = some (.areturn, (0, 0, 0, 0)) := by decide +kernel
theorem s_X6_textOf_53 {ca : Nat → List Value → tM → tO} {M : tM} {L : tL} {x : Nat} : rn ca C_X6_textOf 53 L [.ref x] M = some (some (.ref x), M) := (rn_at k_X6_textOf_53).trans rfl
theorem k_X6_numbersOf_0 : lk 0 C_X6_numbersOf = some (.iload_n 0, (0, 0, 0, 0)) := by decide +kernel
theorem s_X6_numbersOf_0 {ca : Nat → List Value → tM → tO} {M : tM} {x : Int32} {S : List Value} : rn ca C_X6_numbersOf 0 [some (.int x)] S M = rn ca C_X6_numbersOf 1 [some (.int x)] (.int x :: S) M := (rn_at k_X6_numbersOf_0).trans rfl
theorem k_X6_numbersOf_1 : lk 1 C_X6_numbersOf = some (.tableswitch 31 0 2 #[27, 29, 29], (0, 0, 0, 0)) := by decide +kernel
theorem s_X6_numbersOf_1 {ca : Nat → List Value → tM → tO} {M : tM} {L : tL} {x : Int32} {S : List Value} : rn ca C_X6_numbersOf 1 L (.int x :: S) M = if x = iI 0 then rn ca C_X6_numbersOf 28 L S M else if x = iI 1 then rn ca C_X6_numbersOf 30 L S M else if x = iI 2 then rn ca C_X6_numbersOf 30 L S M else rn ca C_X6_numbersOf 32 L S M := by rw [rn_at k_X6_numbersOf_1]; simp only [ta, tsw, lsw, rnx_ite]; rfl
theorem k_X6_numbersOf_28 : lk 28 C_X6_numbersOf = some (.iconst 0, (0, 0, 0, 0)) := by decide +kernel
theorem s_X6_numbersOf_28 {ca : Nat → List Value → tM → tO} {M : tM} {L : tL} {S : List Value} : rn ca C_X6_numbersOf 28 L S M = rn ca C_X6_numbersOf 29 L (.int (iI 0) :: S) M := (rn_at k_X6_numbersOf_28).trans rfl
theorem k_X6_numbersOf_29 : lk 29 C_X6_numbersOf = some (.ireturn, (0, 0, 0, 0)) := by decide +kernel
theorem s_X6_numbersOf_29 {ca : Nat → List Value → tM → tO} {M : tM} {L : tL} {x : Int32} : rn ca C_X6_numbersOf 29 L [.int x] M = some (some (.int x), M) := (rn_at k_X6_numbersOf_29).trans rfl
theorem k_X6_numbersOf_30 : lk 30 C_X6_numbersOf = some (.iconst 4, (0, 0, 0, 0)) := by decide +kernel
theorem s_X6_numbersOf_30 {ca : Nat → List Value → tM → tO} {M : tM} {L : tL} {S : List Value} : rn ca C_X6_numbersOf 30 L S M = rn ca C_X6_numbersOf 31 L (.int (iI 4) :: S) M := (rn_at k_X6_numbersOf_30).trans rfl
theorem k_X6_numbersOf_31 : lk 31 C_X6_numbersOf = some (.ireturn, (0, 0, 0, 0)) := by decide +kernel
theorem s_X6_numbersOf_31 {ca : Nat → List Value → tM → tO} {M : tM} {L : tL} {x : Int32} : rn ca C_X6_numbersOf 31 L [.int x] M = some (some (.int x), M) := (rn_at k_X6_numbersOf_31).trans rfl
theorem k_X6_numbersOf_32 : lk 32 C_X6_numbersOf = some (.iconst 1, (0, 0, 0, 0)) := by decide +kernel
theorem s_X6_numbersOf_32 {ca : Nat → List Value → tM → tO} {M : tM} {L : tL} {S : List Value} : rn ca C_X6_numbersOf 32 L S M = rn ca C_X6_numbersOf 33 L (.int (iI 1) :: S) M := (rn_at k_X6_numbersOf_32).trans rfl
theorem k_X6_numbersOf_33 : lk 33 C_X6_numbersOf = some (.ireturn, (0, 0, 0, 0)) := by decide +kernel
theorem s_X6_numbersOf_33 {ca : Nat → List Value → tM → tO} {M : tM} {L : tL} {x : Int32} : rn ca C_X6_numbersOf 33 L [.int x] M = some (some (.int x), M) := (rn_at k_X6_numbersOf_33).trans rfl
theorem k_X6_hasRoomFor_0 : lk 0 C_X6_hasRoomFor = some (.iload_n 0, (0, 0, 0, 0)) := by decide +kernel
theorem s_X6_hasRoomFor_0 {ca : Nat → List Value → tM → tO} {M : tM} {a1 : Option Value} {x : Int32} {S : List Value} : rn ca C_X6_hasRoomFor 0 [some (.int x), a1] S M = rn ca C_X6_hasRoomFor 1 [some (.int x), a1] (.int x :: S) M := (rn_at k_X6_hasRoomFor_0).trans rfl
theorem k_X6_hasRoomFor_1 : lk 1 C_X6_hasRoomFor = some (.tableswitch 42 0 2 #[27, 32, 37], (0, 0, 0, 0)) := by decide +kernel
theorem s_X6_hasRoomFor_1 {ca : Nat → List Value → tM → tO} {M : tM} {L : tL} {x : Int32} {S : List Value} : rn ca C_X6_hasRoomFor 1 L (.int x :: S) M = if x = iI 0 then rn ca C_X6_hasRoomFor 28 L S M else if x = iI 1 then rn ca C_X6_hasRoomFor 33 L S M else if x = iI 2 then rn ca C_X6_hasRoomFor 38 L S M else rn ca C_X6_hasRoomFor 43 L S M := by rw [rn_at k_X6_hasRoomFor_1]; simp only [ta, tsw, lsw, rnx_ite]; rfl
theorem k_X6_hasRoomFor_28 : lk 28 C_X6_hasRoomFor = some (.aload_n 1, (0, 0, 0, 0)) := by decide +kernel
theorem s_X6_hasRoomFor_28 {ca : Nat → List Value → tM → tO} {M : tM} {a0 : Option Value} {x : Nat} {S : List Value} : rn ca C_X6_hasRoomFor 28 [a0, some (.ref x)] S M = rn ca C_X6_hasRoomFor 29 [a0, some (.ref x)] (.ref x :: S) M := (rn_at k_X6_hasRoomFor_28).trans rfl
theorem k_X6_hasRoomFor_29 : lk 29 C_X6_hasRoomFor = some (.invokevirtual 105, (21, 0, 4, 575)) := by decide +kernel
theorem s_X6_hasRoomFor_29 {ca : Nat → List Value → tM → tO} {M : tM} {L : tL} {b : Nat} : rn ca C_X6_hasRoomFor 29 L [.ref b] M = if clsO b = some 4 then rnk ca C_X6_hasRoomFor 32 L [] (ca m_X4_hasRoomForDesk [.ref b] M) else none := (rn_at k_X6_hasRoomFor_29).trans rnx_ite
theorem k_X6_hasRoomFor_32 : lk 32 C_X6_hasRoomFor = some (.ireturn, (1, 0, 0, 0)) := by decide +kernel
theorem s_X6_hasRoomFor_32 {ca : Nat → List Value → tM → tO} {M : tM} {L : tL} {x : Int32} : rn ca C_X6_hasRoomFor 32 L [.int x] M = if x = iI 0 ∨ x = iI 1 then some (some (.int x), M) else none := (rn_at k_X6_hasRoomFor_32).trans rnx_ite
theorem k_X6_hasRoomFor_33 : lk 33 C_X6_hasRoomFor = some (.aload_n 1, (0, 0, 0, 0)) := by decide +kernel
theorem s_X6_hasRoomFor_33 {ca : Nat → List Value → tM → tO} {M : tM} {a0 : Option Value} {x : Nat} {S : List Value} : rn ca C_X6_hasRoomFor 33 [a0, some (.ref x)] S M = rn ca C_X6_hasRoomFor 34 [a0, some (.ref x)] (.ref x :: S) M := (rn_at k_X6_hasRoomFor_33).trans rfl
theorem k_X6_hasRoomFor_34 : lk 34 C_X6_hasRoomFor = some (.invokevirtual 111, (22, 0, 4, 576)) := by decide +kernel
theorem s_X6_hasRoomFor_34 {ca : Nat → List Value → tM → tO} {M : tM} {L : tL} {b : Nat} : rn ca C_X6_hasRoomFor 34 L [.ref b] M = if clsO b = some 4 then rnk ca C_X6_hasRoomFor 37 L [] (ca m_X4_hasRoomForTube [.ref b] M) else none := (rn_at k_X6_hasRoomFor_34).trans rnx_ite
theorem k_X6_hasRoomFor_37 : lk 37 C_X6_hasRoomFor = some (.ireturn, (1, 0, 0, 0)) := by decide +kernel
theorem s_X6_hasRoomFor_37 {ca : Nat → List Value → tM → tO} {M : tM} {L : tL} {x : Int32} : rn ca C_X6_hasRoomFor 37 L [.int x] M = if x = iI 0 ∨ x = iI 1 then some (some (.int x), M) else none := (rn_at k_X6_hasRoomFor_37).trans rnx_ite
theorem k_X6_hasRoomFor_38 : lk 38 C_X6_hasRoomFor = some (.aload_n 1, (0, 0, 0, 0)) := by decide +kernel
theorem s_X6_hasRoomFor_38 {ca : Nat → List Value → tM → tO} {M : tM} {a0 : Option Value} {x : Nat} {S : List Value} : rn ca C_X6_hasRoomFor 38 [a0, some (.ref x)] S M = rn ca C_X6_hasRoomFor 39 [a0, some (.ref x)] (.ref x :: S) M := (rn_at k_X6_hasRoomFor_38).trans rfl
theorem k_X6_hasRoomFor_39 : lk 39 C_X6_hasRoomFor = some (.invokevirtual 114, (23, 0, 4, 577)) := by decide +kernel
theorem s_X6_hasRoomFor_39 {ca : Nat → List Value → tM → tO} {M : tM} {L : tL} {b : Nat} : rn ca C_X6_hasRoomFor 39 L [.ref b] M = if clsO b = some 4 then rnk ca C_X6_hasRoomFor 42 L [] (ca m_X4_hasRoomForCapsule [.ref b] M) else none := (rn_at k_X6_hasRoomFor_39).trans rnx_ite
theorem k_X6_hasRoomFor_42 : lk 42 C_X6_hasRoomFor = some (.ireturn, (1, 0, 0, 0)) := by decide +kernel
theorem s_X6_hasRoomFor_42 {ca : Nat → List Value → tM → tO} {M : tM} {L : tL} {x : Int32} : rn ca C_X6_hasRoomFor 42 L [.int x] M = if x = iI 0 ∨ x = iI 1 then some (some (.int x), M) else none := (rn_at k_X6_hasRoomFor_42).trans rnx_ite
theorem k_X6_hasRoomFor_43 : lk 43 C_X6_hasRoomFor = some (.iconst 1, (0, 0, 0, 0)) := by decide +kernel
theorem s_X6_hasRoomFor_43 {ca : Nat → List Value → tM → tO} {M : tM} {L : tL} {S : List Value} : rn ca C_X6_hasRoomFor 43 L S M = rn ca C_X6_hasRoomFor 44 L (.int (iI 1) :: S) M := (rn_at k_X6_hasRoomFor_43).trans rfl
theorem k_X6_hasRoomFor_44 : lk 44 C_X6_hasRoomFor = some (.ireturn, (1, 0, 0, 0)) := by decide +kernel
theorem s_X6_hasRoomFor_44 {ca : Nat → List Value → tM → tO} {M : tM} {L : tL} {x : Int32} : rn ca C_X6_hasRoomFor 44 L [.int x] M = if x = iI 0 ∨ x = iI 1 then some (some (.int x), M) else none := (rn_at k_X6_hasRoomFor_44).trans rnx_ite
theorem k_X6_readNumber_0 : lk 0 C_X6_readNumber = some (.aload_n 0, (0, 0, 0, 0)) := by decide +kernel
theorem s_X6_readNumber_0 {ca : Nat → List Value → tM → tO} {M : tM} {a1 a2 a3 a4 a5 : Option Value} {x : Nat} {S : List Value} : rn ca C_X6_readNumber 0 [some (.ref x), a1, a2, a3, a4, a5] S M = rn ca C_X6_readNumber 1 [some (.ref x), a1, a2, a3, a4, a5] (.ref x :: S) M := (rn_at k_X6_readNumber_0).trans rfl
theorem k_X6_readNumber_1 : lk 1 C_X6_readNumber = some (.getfield 22, (6, 3, 0, 126)) := by decide +kernel
theorem s_X6_readNumber_1 {ca : Nat → List Value → tM → tO} {M : tM} {L : tL} {b : Nat} {S : List Value} : rn ca C_X6_readNumber 1 L (.ref b :: S) M = if clsO b = some 6 then rn ca C_X6_readNumber 4 L (fv M b 3 :: S) M else none := (rn_at k_X6_readNumber_1).trans rnx_ite
theorem k_X6_readNumber_4 : lk 4 C_X6_readNumber = some (.istore 4, (0, 0, 0, 0)) := by decide +kernel
theorem s_X6_readNumber_4 {ca : Nat → List Value → tM → tO} {M : tM} {a0 a1 a2 a3 a4 a5 : Option Value} {x : Int32} {S : List Value} : rn ca C_X6_readNumber 4 [a0, a1, a2, a3, a4, a5] (.int x :: S) M = rn ca C_X6_readNumber 6 [a0, a1, a2, a3, some (.int x), a5] S M := (rn_at k_X6_readNumber_4).trans rfl
theorem k_X6_readNumber_6 : lk 6 C_X6_readNumber = some (.aload_n 0, (0, 0, 0, 0)) := by decide +kernel
theorem s_X6_readNumber_6 {ca : Nat → List Value → tM → tO} {M : tM} {a1 a2 a3 a4 a5 : Option Value} {x : Nat} {S : List Value} : rn ca C_X6_readNumber 6 [some (.ref x), a1, a2, a3, a4, a5] S M = rn ca C_X6_readNumber 7 [some (.ref x), a1, a2, a3, a4, a5] (.ref x :: S) M := (rn_at k_X6_readNumber_6).trans rfl
theorem k_X6_readNumber_7 : lk 7 C_X6_readNumber = some (.invokevirtual 117, (47, 0, 6, 585)) := by decide +kernel
theorem s_X6_readNumber_7 {ca : Nat → List Value → tM → tO} {M : tM} {L : tL} {b : Nat} : rn ca C_X6_readNumber 7 L [.ref b] M = if clsO b = some 6 then rnk ca C_X6_readNumber 10 L [] (ca m_X6_isDigitHere [.ref b] M) else none := (rn_at k_X6_readNumber_7).trans rnx_ite
theorem k_X6_readNumber_10 : lk 10 C_X6_readNumber = some (.ifCond .ne 12, (22, 0, 0, 0)) := by decide +kernel
theorem s_X6_readNumber_10 {ca : Nat → List Value → tM → tO} {M : tM} {L : tL} {x : Int32} {S : List Value} : rn ca C_X6_readNumber 10 L (.int x :: S) M = if ¬ x = iI 0 then rn ca C_X6_readNumber 22 L S M else rn ca C_X6_readNumber 13 L S M := (rn_at k_X6_readNumber_10).trans rnx_ite
theorem k_X6_readNumber_13 : lk 13 C_X6_readNumber = some (.aload_n 0, (0, 0, 0, 0)) := by decide +kernel
theorem s_X6_readNumber_13 {ca : Nat → List Value → tM → tO} {M : tM} {a1 a2 a3 a4 a5 : Option Value} {x : Nat} {S : List Value} : rn ca C_X6_readNumber 13 [some (.ref x), a1, a2, a3, a4, a5] S M = rn ca C_X6_readNumber 14 [some (.ref x), a1, a2, a3, a4, a5] (.ref x :: S) M := (rn_at k_X6_readNumber_13).trans rfl
theorem k_X6_readNumber_14 : lk 14 C_X6_readNumber = some (.aload_n 0, (0, 0, 0, 0)) := by decide +kernel
theorem s_X6_readNumber_14 {ca : Nat → List Value → tM → tO} {M : tM} {a1 a2 a3 a4 a5 : Option Value} {x : Nat} {S : List Value} : rn ca C_X6_readNumber 14 [some (.ref x), a1, a2, a3, a4, a5] S M = rn ca C_X6_readNumber 15 [some (.ref x), a1, a2, a3, a4, a5] (.ref x :: S) M := (rn_at k_X6_readNumber_14).trans rfl
theorem k_X6_readNumber_15 : lk 15 C_X6_readNumber = some (.getfield 22, (6, 3, 0, 126)) := by decide +kernel
theorem s_X6_readNumber_15 {ca : Nat → List Value → tM → tO} {M : tM} {L : tL} {b : Nat} {S : List Value} : rn ca C_X6_readNumber 15 L (.ref b :: S) M = if clsO b = some 6 then rn ca C_X6_readNumber 18 L (fv M b 3 :: S) M else none := (rn_at k_X6_readNumber_15).trans rnx_ite
theorem k_X6_readNumber_18 : lk 18 C_X6_readNumber = some (.invokevirtual 58, (45, 1, 6, 556)) := by decide +kernel
theorem s_X6_readNumber_18 {ca : Nat → List Value → tM → tO} {M : tM} {L : tL} {v1 : Value} {b : Nat} : rn ca C_X6_readNumber 18 L [v1, .ref b] M = if clsO b = some 6 then rnk ca C_X6_readNumber 21 L [] (ca m_X6_failAt [.ref b, v1] M) else none := (rn_at k_X6_readNumber_18).trans rnx_ite
theorem k_X6_readNumber_21 : lk 21 C_X6_readNumber = some (.ireturn, (1, 0, 0, 0)) := by decide +kernel
theorem s_X6_readNumber_21 {ca : Nat → List Value → tM → tO} {M : tM} {L : tL} {x : Int32} : rn ca C_X6_readNumber 21 L [.int x] M = if x = iI 0 ∨ x = iI 1 then some (some (.int x), M) else none := (rn_at k_X6_readNumber_21).trans rnx_ite
theorem k_X6_readNumber_22 : lk 22 C_X6_readNumber = some (.aload_n 0, (0, 0, 0, 0)) := by decide +kernel
theorem s_X6_readNumber_22 {ca : Nat → List Value → tM → tO} {M : tM} {a1 a2 a3 a4 a5 : Option Value} {x : Nat} {S : List Value} : rn ca C_X6_readNumber 22 [some (.ref x), a1, a2, a3, a4, a5] S M = rn ca C_X6_readNumber 23 [some (.ref x), a1, a2, a3, a4, a5] (.ref x :: S) M := (rn_at k_X6_readNumber_22).trans rfl
theorem k_X6_readNumber_23 : lk 23 C_X6_readNumber = some (.invokevirtual 54, (46, 0, 6, 552)) := by decide +kernel
theorem s_X6_readNumber_23 {ca : Nat → List Value → tM → tO} {M : tM} {L : tL} {b : Nat} : rn ca C_X6_readNumber 23 L [.ref b] M = if clsO b = some 6 then rnk ca C_X6_readNumber 26 L [] (ca m_X6_letterHere [.ref b] M) else none := (rn_at k_X6_readNumber_23).trans rnx_ite
theorem k_X6_readNumber_26 : lk 26 C_X6_readNumber = some (.bipush 48, (0, 0, 0, 0)) := by decide +kernel
theorem s_X6_readNumber_26 {ca : Nat → List Value → tM → tO} {M : tM} {L : tL} {S : List Value} : rn ca C_X6_readNumber 26 L S M = rn ca C_X6_readNumber 28 L (.int (iI 48) :: S) M := (rn_at k_X6_readNumber_26).trans rfl
theorem k_X6_readNumber_28 : lk 28 C_X6_readNumber = some (.isub, (0, 0, 0, 0)) := by decide +kernel
theorem s_X6_readNumber_28 {ca : Nat → List Value → tM → tO} {M : tM} {L : tL} {x y : Int32} {S : List Value} : rn ca C_X6_readNumber 28 L (.int y :: .int x :: S) M = rn ca C_X6_readNumber 29 L (.int (x - y) :: S) M := (rn_at k_X6_readNumber_28).trans rfl
theorem k_X6_readNumber_29 : lk 29 C_X6_readNumber = some (.istore 5, (0, 0, 0, 0)) := by decide +kernel
theorem s_X6_readNumber_29 {ca : Nat → List Value → tM → tO} {M : tM} {a0 a1 a2 a3 a4 a5 : Option Value} {x : Int32} {S : List Value} : rn ca C_X6_readNumber 29 [a0, a1, a2, a3, a4, a5] (.int x :: S) M = rn ca C_X6_readNumber 31 [a0, a1, a2, a3, a4, some (.int x)] S M := (rn_at k_X6_readNumber_29).trans rfl
theorem k_X6_readNumber_31 : lk 31 C_X6_readNumber = some (.aload_n 0, (0, 0, 0, 0)) := by decide +kernel
theorem s_X6_readNumber_31 {ca : Nat → List Value → tM → tO} {M : tM} {a1 a2 a3 a4 a5 : Option Value} {x : Nat} {S : List Value} : rn ca C_X6_readNumber 31 [some (.ref x), a1, a2, a3, a4, a5] S M = rn ca C_X6_readNumber 32 [some (.ref x), a1, a2, a3, a4, a5] (.ref x :: S) M := (rn_at k_X6_readNumber_31).trans rfl
theorem k_X6_readNumber_32 : lk 32 C_X6_readNumber = some (.dup, (0, 0, 0, 0)) := by decide +kernel
theorem s_X6_readNumber_32 {ca : Nat → List Value → tM → tO} {M : tM} {L : tL} {x : Nat} {S : List Value} : rn ca C_X6_readNumber 32 L (.ref x :: S) M = rn ca C_X6_readNumber 33 L (.ref x :: .ref x :: S) M := (rn_at k_X6_readNumber_32).trans rfl
theorem s_X6_readNumber_32b {ca : Nat → List Value → tM → tO} {M : tM} {L : tL} {x : Int32} {S : List Value} : rn ca C_X6_readNumber 32 L (.int x :: S) M = rn ca C_X6_readNumber 33 L (.int x :: .int x :: S) M := (rn_at k_X6_readNumber_32).trans rfl
theorem k_X6_readNumber_33 : lk 33 C_X6_readNumber = some (.getfield 22, (6, 3, 0, 126)) := by decide +kernel
theorem s_X6_readNumber_33 {ca : Nat → List Value → tM → tO} {M : tM} {L : tL} {b : Nat} {S : List Value} : rn ca C_X6_readNumber 33 L (.ref b :: S) M = if clsO b = some 6 then rn ca C_X6_readNumber 36 L (fv M b 3 :: S) M else none := (rn_at k_X6_readNumber_33).trans rnx_ite
theorem k_X6_readNumber_36 : lk 36 C_X6_readNumber = some (.iconst 1, (0, 0, 0, 0)) := by decide +kernel
theorem s_X6_readNumber_36 {ca : Nat → List Value → tM → tO} {M : tM} {L : tL} {S : List Value} : rn ca C_X6_readNumber 36 L S M = rn ca C_X6_readNumber 37 L (.int (iI 1) :: S) M := (rn_at k_X6_readNumber_36).trans rfl
theorem k_X6_readNumber_37 : lk 37 C_X6_readNumber = some (.iadd, (0, 0, 0, 0)) := by decide +kernel
theorem s_X6_readNumber_37 {ca : Nat → List Value → tM → tO} {M : tM} {L : tL} {x y : Int32} {S : List Value} : rn ca C_X6_readNumber 37 L (.int y :: .int x :: S) M = rn ca C_X6_readNumber 38 L (.int (x + y) :: S) M := (rn_at k_X6_readNumber_37).trans rfl
theorem k_X6_readNumber_38 : lk 38 C_X6_readNumber = some (.putfield 22, (6, 3, 0, 126)) := by decide +kernel
theorem s_X6_readNumber_38 {ca : Nat → List Value → tM → tO} {M : tM} {L : tL} {b : Nat} {v : Int32} {S : List Value} : rn ca C_X6_readNumber 38 L (.int v :: .ref b :: S) M = if clsO b = some 6 then rn ca C_X6_readNumber 41 L S (sI M b 3 v) else none := (rn_at k_X6_readNumber_38).trans rnx_ite
theorem k_X6_readNumber_41 : lk 41 C_X6_readNumber = some (.aload_n 0, (0, 0, 0, 0)) := by decide +kernel
theorem s_X6_readNumber_41 {ca : Nat → List Value → tM → tO} {M : tM} {a1 a2 a3 a4 a5 : Option Value} {x : Nat} {S : List Value} : rn ca C_X6_readNumber 41 [some (.ref x), a1, a2, a3, a4, a5] S M = rn ca C_X6_readNumber 42 [some (.ref x), a1, a2, a3, a4, a5] (.ref x :: S) M := (rn_at k_X6_readNumber_41).trans rfl
theorem k_X6_readNumber_42 : lk 42 C_X6_readNumber = some (.invokevirtual 117, (47, 0, 6, 585)) := by decide +kernel
theorem s_X6_readNumber_42 {ca : Nat → List Value → tM → tO} {M : tM} {L : tL} {b : Nat} : rn ca C_X6_readNumber 42 L [.ref b] M = if clsO b = some 6 then rnk ca C_X6_readNumber 45 L [] (ca m_X6_isDigitHere [.ref b] M) else none := (rn_at k_X6_readNumber_42).trans rnx_ite
theorem k_X6_readNumber_45 : lk 45 C_X6_readNumber = some (.ifCond .eq 28, (73, 0, 0, 0)) := by decide +kernel
theorem s_X6_readNumber_45 {ca : Nat → List Value → tM → tO} {M : tM} {L : tL} {x : Int32} {S : List Value} : rn ca C_X6_readNumber 45 L (.int x :: S) M = if x = iI 0 then rn ca C_X6_readNumber 73 L S M else rn ca C_X6_readNumber 48 L S M := (rn_at k_X6_readNumber_45).trans rnx_ite
theorem k_X6_readNumber_48 : lk 48 C_X6_readNumber = some (.iload 5, (0, 0, 0, 0)) := by decide +kernel
theorem s_X6_readNumber_48 {ca : Nat → List Value → tM → tO} {M : tM} {a0 a1 a2 a3 a4 : Option Value} {x : Int32} {S : List Value} : rn ca C_X6_readNumber 48 [a0, a1, a2, a3, a4, some (.int x)] S M = rn ca C_X6_readNumber 50 [a0, a1, a2, a3, a4, some (.int x)] (.int x :: S) M := (rn_at k_X6_readNumber_48).trans rfl
theorem k_X6_readNumber_50 : lk 50 C_X6_readNumber = some (.bipush 10, (0, 0, 0, 0)) := by decide +kernel
theorem s_X6_readNumber_50 {ca : Nat → List Value → tM → tO} {M : tM} {L : tL} {S : List Value} : rn ca C_X6_readNumber 50 L S M = rn ca C_X6_readNumber 52 L (.int (iI 10) :: S) M := (rn_at k_X6_readNumber_50).trans rfl
theorem k_X6_readNumber_52 : lk 52 C_X6_readNumber = some (.imul, (0, 0, 0, 0)) := by decide +kernel
theorem s_X6_readNumber_52 {ca : Nat → List Value → tM → tO} {M : tM} {L : tL} {x y : Int32} {S : List Value} : rn ca C_X6_readNumber 52 L (.int y :: .int x :: S) M = rn ca C_X6_readNumber 53 L (.int (x * y) :: S) M := (rn_at k_X6_readNumber_52).trans rfl
theorem k_X6_readNumber_53 : lk 53 C_X6_readNumber = some (.aload_n 0, (0, 0, 0, 0)) := by decide +kernel
theorem s_X6_readNumber_53 {ca : Nat → List Value → tM → tO} {M : tM} {a1 a2 a3 a4 a5 : Option Value} {x : Nat} {S : List Value} : rn ca C_X6_readNumber 53 [some (.ref x), a1, a2, a3, a4, a5] S M = rn ca C_X6_readNumber 54 [some (.ref x), a1, a2, a3, a4, a5] (.ref x :: S) M := (rn_at k_X6_readNumber_53).trans rfl
theorem k_X6_readNumber_54 : lk 54 C_X6_readNumber = some (.invokevirtual 54, (46, 0, 6, 552)) := by decide +kernel
theorem s_X6_readNumber_54 {ca : Nat → List Value → tM → tO} {M : tM} {L : tL} {r0 : Int32} {b : Nat} : rn ca C_X6_readNumber 54 L [.ref b, .int r0] M = if clsO b = some 6 then rnk ca C_X6_readNumber 57 L [.int r0] (ca m_X6_letterHere [.ref b] M) else none := (rn_at k_X6_readNumber_54).trans rnx_ite
theorem k_X6_readNumber_57 : lk 57 C_X6_readNumber = some (.iadd, (0, 0, 0, 0)) := by decide +kernel
theorem s_X6_readNumber_57 {ca : Nat → List Value → tM → tO} {M : tM} {L : tL} {x y : Int32} {S : List Value} : rn ca C_X6_readNumber 57 L (.int y :: .int x :: S) M = rn ca C_X6_readNumber 58 L (.int (x + y) :: S) M := (rn_at k_X6_readNumber_57).trans rfl
theorem k_X6_readNumber_58 : lk 58 C_X6_readNumber = some (.bipush 48, (0, 0, 0, 0)) := by decide +kernel
theorem s_X6_readNumber_58 {ca : Nat → List Value → tM → tO} {M : tM} {L : tL} {S : List Value} : rn ca C_X6_readNumber 58 L S M = rn ca C_X6_readNumber 60 L (.int (iI 48) :: S) M := (rn_at k_X6_readNumber_58).trans rfl
theorem k_X6_readNumber_60 : lk 60 C_X6_readNumber = some (.isub, (0, 0, 0, 0)) := by decide +kernel
theorem s_X6_readNumber_60 {ca : Nat → List Value → tM → tO} {M : tM} {L : tL} {x y : Int32} {S : List Value} : rn ca C_X6_readNumber 60 L (.int y :: .int x :: S) M = rn ca C_X6_readNumber 61 L (.int (x - y) :: S) M := (rn_at k_X6_readNumber_60).trans rfl
theorem k_X6_readNumber_61 : lk 61 C_X6_readNumber = some (.istore 5, (0, 0, 0, 0)) := by decide +kernel
theorem s_X6_readNumber_61 {ca : Nat → List Value → tM → tO} {M : tM} {a0 a1 a2 a3 a4 a5 : Option Value} {x : Int32} {S : List Value} : rn ca C_X6_readNumber 61 [a0, a1, a2, a3, a4, a5] (.int x :: S) M = rn ca C_X6_readNumber 63 [a0, a1, a2, a3, a4, some (.int x)] S M := (rn_at k_X6_readNumber_61).trans rfl
theorem k_X6_readNumber_63 : lk 63 C_X6_readNumber = some (.aload_n 0, (0, 0, 0, 0)) := by decide +kernel
theorem s_X6_readNumber_63 {ca : Nat → List Value → tM → tO} {M : tM} {a1 a2 a3 a4 a5 : Option Value} {x : Nat} {S : List Value} : rn ca C_X6_readNumber 63 [some (.ref x), a1, a2, a3, a4, a5] S M = rn ca C_X6_readNumber 64 [some (.ref x), a1, a2, a3, a4, a5] (.ref x :: S) M := (rn_at k_X6_readNumber_63).trans rfl
theorem k_X6_readNumber_64 : lk 64 C_X6_readNumber = some (.dup, (0, 0, 0, 0)) := by decide +kernel
theorem s_X6_readNumber_64 {ca : Nat → List Value → tM → tO} {M : tM} {L : tL} {x : Nat} {S : List Value} : rn ca C_X6_readNumber 64 L (.ref x :: S) M = rn ca C_X6_readNumber 65 L (.ref x :: .ref x :: S) M := (rn_at k_X6_readNumber_64).trans rfl
theorem s_X6_readNumber_64b {ca : Nat → List Value → tM → tO} {M : tM} {L : tL} {x : Int32} {S : List Value} : rn ca C_X6_readNumber 64 L (.int x :: S) M = rn ca C_X6_readNumber 65 L (.int x :: .int x :: S) M := (rn_at k_X6_readNumber_64).trans rfl
theorem k_X6_readNumber_65 : lk 65 C_X6_readNumber = some (.getfield 22, (6, 3, 0, 126)) := by decide +kernel
theorem s_X6_readNumber_65 {ca : Nat → List Value → tM → tO} {M : tM} {L : tL} {b : Nat} {S : List Value} : rn ca C_X6_readNumber 65 L (.ref b :: S) M = if clsO b = some 6 then rn ca C_X6_readNumber 68 L (fv M b 3 :: S) M else none := (rn_at k_X6_readNumber_65).trans rnx_ite
theorem k_X6_readNumber_68 : lk 68 C_X6_readNumber = some (.iconst 1, (0, 0, 0, 0)) := by decide +kernel
theorem s_X6_readNumber_68 {ca : Nat → List Value → tM → tO} {M : tM} {L : tL} {S : List Value} : rn ca C_X6_readNumber 68 L S M = rn ca C_X6_readNumber 69 L (.int (iI 1) :: S) M := (rn_at k_X6_readNumber_68).trans rfl
theorem k_X6_readNumber_69 : lk 69 C_X6_readNumber = some (.iadd, (0, 0, 0, 0)) := by decide +kernel
theorem s_X6_readNumber_69 {ca : Nat → List Value → tM → tO} {M : tM} {L : tL} {x y : Int32} {S : List Value} : rn ca C_X6_readNumber 69 L (.int y :: .int x :: S) M = rn ca C_X6_readNumber 70 L (.int (x + y) :: S) M := (rn_at k_X6_readNumber_69).trans rfl
theorem k_X6_readNumber_70 : lk 70 C_X6_readNumber = some (.putfield 22, (6, 3, 0, 126)) := by decide +kernel
theorem s_X6_readNumber_70 {ca : Nat → List Value → tM → tO} {M : tM} {L : tL} {b : Nat} {v : Int32} {S : List Value} : rn ca C_X6_readNumber 70 L (.int v :: .ref b :: S) M = if clsO b = some 6 then rn ca C_X6_readNumber 73 L S (sI M b 3 v) else none := (rn_at k_X6_readNumber_70).trans rnx_ite
theorem k_X6_readNumber_73 : lk 73 C_X6_readNumber = some (.aload_n 0, (0, 0, 0, 0)) := by decide +kernel
theorem s_X6_readNumber_73 {ca : Nat → List Value → tM → tO} {M : tM} {a1 a2 a3 a4 a5 : Option Value} {x : Nat} {S : List Value} : rn ca C_X6_readNumber 73 [some (.ref x), a1, a2, a3, a4, a5] S M = rn ca C_X6_readNumber 74 [some (.ref x), a1, a2, a3, a4, a5] (.ref x :: S) M := (rn_at k_X6_readNumber_73).trans rfl
theorem k_X6_readNumber_74 : lk 74 C_X6_readNumber = some (.iload_n 1, (0, 0, 0, 0)) := by decide +kernel
theorem s_X6_readNumber_74 {ca : Nat → List Value → tM → tO} {M : tM} {a0 a2 a3 a4 a5 : Option Value} {x : Int32} {S : List Value} : rn ca C_X6_readNumber 74 [a0, some (.int x), a2, a3, a4, a5] S M = rn ca C_X6_readNumber 75 [a0, some (.int x), a2, a3, a4, a5] (.int x :: S) M := (rn_at k_X6_readNumber_74).trans rfl
theorem k_X6_readNumber_75 : lk 75 C_X6_readNumber = some (.iload_n 2, (0, 0, 0, 0)) := by decide +kernel
theorem s_X6_readNumber_75 {ca : Nat → List Value → tM → tO} {M : tM} {a0 a1 a3 a4 a5 : Option Value} {x : Int32} {S : List Value} : rn ca C_X6_readNumber 75 [a0, a1, some (.int x), a3, a4, a5] S M = rn ca C_X6_readNumber 76 [a0, a1, some (.int x), a3, a4, a5] (.int x :: S) M := (rn_at k_X6_readNumber_75).trans rfl
theorem k_X6_readNumber_76 : lk 76 C_X6_readNumber = some (.iload 5, (0, 0, 0, 0)) := by decide +kernel
theorem s_X6_readNumber_76 {ca : Nat → List Value → tM → tO} {M : tM} {a0 a1 a2 a3 a4 : Option Value} {x : Int32} {S : List Value} : rn ca C_X6_readNumber 76 [a0, a1, a2, a3, a4, some (.int x)] S M = rn ca C_X6_readNumber 78 [a0, a1, a2, a3, a4, some (.int x)] (.int x :: S) M := (rn_at k_X6_readNumber_76).trans rfl
theorem k_X6_readNumber_78 : lk 78 C_X6_readNumber = some (.aload_n 3, (0, 0, 0, 0)) := by decide +kernel
theorem s_X6_readNumber_78 {ca : Nat → List Value → tM → tO} {M : tM} {a0 a1 a2 a4 a5 : Option Value} {x : Nat} {S : List Value} : rn ca C_X6_readNumber 78 [a0, a1, a2, some (.ref x), a4, a5] S M = rn ca C_X6_readNumber 79 [a0, a1, a2, some (.ref x), a4, a5] (.ref x :: S) M := (rn_at k_X6_readNumber_78).trans rfl
theorem k_X6_readNumber_79 : lk 79 C_X6_readNumber = some (.invokevirtual 120, (55, 4, 6, 589)) := by decide +kernel
theorem s_X6_readNumber_79 {ca : Nat → List Value → tM → tO} {M : tM} {L : tL} {v1 v2 v3 v4 : Value} {b : Nat} : rn ca C_X6_readNumber 79 L [v4, v3, v2, v1, .ref b] M = if clsO b = some 6 then rnk ca C_X6_readNumber 82 L [] (ca m_X6_mayStand [.ref b, v1, v2, v3, v4] M) else none := (rn_at k_X6_readNumber_79).trans rnx_ite
theorem k_X6_readNumber_82 : lk 82 C_X6_readNumber = some (.ifCond .ne 10, (92, 0, 0, 0)) := by decide +kernel
theorem s_X6_readNumber_82 {ca : Nat → List Value → tM → tO} {M : tM} {L : tL} {x : Int32} {S : List Value} : rn ca C_X6_readNumber 82 L (.int x :: S) M = if ¬ x = iI 0 then rn ca C_X6_readNumber 92 L S M else rn ca C_X6_readNumber 85 L S M := (rn_at k_X6_readNumber_82).trans rnx_ite
theorem k_X6_readNumber_85 : lk 85 C_X6_readNumber = some (.aload_n 0, (0, 0, 0, 0)) := by decide +kernel
theorem s_X6_readNumber_85 {ca : Nat → List Value → tM → tO} {M : tM} {a1 a2 a3 a4 a5 : Option Value} {x : Nat} {S : List Value} : rn ca C_X6_readNumber 85 [some (.ref x), a1, a2, a3, a4, a5] S M = rn ca C_X6_readNumber 86 [some (.ref x), a1, a2, a3, a4, a5] (.ref x :: S) M := (rn_at k_X6_readNumber_85).trans rfl
theorem k_X6_readNumber_86 : lk 86 C_X6_readNumber = some (.iload 4, (0, 0, 0, 0)) := by decide +kernel
theorem s_X6_readNumber_86 {ca : Nat → List Value → tM → tO} {M : tM} {a0 a1 a2 a3 a5 : Option Value} {x : Int32} {S : List Value} : rn ca C_X6_readNumber 86 [a0, a1, a2, a3, some (.int x), a5] S M = rn ca C_X6_readNumber 88 [a0, a1, a2, a3, some (.int x), a5] (.int x :: S) M := (rn_at k_X6_readNumber_86).trans rfl
theorem k_X6_readNumber_88 : lk 88 C_X6_readNumber = some (.invokevirtual 58, (45, 1, 6, 556)) := by decide +kernel
theorem s_X6_readNumber_88 {ca : Nat → List Value → tM → tO} {M : tM} {L : tL} {v1 : Value} {b : Nat} : rn ca C_X6_readNumber 88 L [v1, .ref b] M = if clsO b = some 6 then rnk ca C_X6_readNumber 91 L [] (ca m_X6_failAt [.ref b, v1] M) else none := (rn_at k_X6_readNumber_88).trans rnx_ite
theorem k_X6_readNumber_91 : lk 91 C_X6_readNumber = some (.ireturn, (1, 0, 0, 0)) := by decide +kernel
theorem s_X6_readNumber_91 {ca : Nat → List Value → tM → tO} {M : tM} {L : tL} {x : Int32} : rn ca C_X6_readNumber 91 L [.int x] M = if x = iI 0 ∨ x = iI 1 then some (some (.int x), M) else none := (rn_at k_X6_readNumber_91).trans rnx_ite
theorem k_X6_readNumber_92 : lk 92 C_X6_readNumber = some (.aload_n 0, (0, 0, 0, 0)) := by decide +kernel
theorem s_X6_readNumber_92 {ca : Nat → List Value → tM → tO} {M : tM} {a1 a2 a3 a4 a5 : Option Value} {x : Nat} {S : List Value} : rn ca C_X6_readNumber 92 [some (.ref x), a1, a2, a3, a4, a5] S M = rn ca C_X6_readNumber 93 [some (.ref x), a1, a2, a3, a4, a5] (.ref x :: S) M := (rn_at k_X6_readNumber_92).trans rfl
theorem k_X6_readNumber_93 : lk 93 C_X6_readNumber = some (.getfield 15, (6, 1, 0, 124)) := by decide +kernel
theorem s_X6_readNumber_93 {ca : Nat → List Value → tM → tO} {M : tM} {L : tL} {b : Nat} {S : List Value} : rn ca C_X6_readNumber 93 L (.ref b :: S) M = if clsO b = some 6 then rn ca C_X6_readNumber 96 L (fv M b 1 :: S) M else none := (rn_at k_X6_readNumber_93).trans rnx_ite
theorem k_X6_readNumber_96 : lk 96 C_X6_readNumber = some (.iload_n 2, (0, 0, 0, 0)) := by decide +kernel
theorem s_X6_readNumber_96 {ca : Nat → List Value → tM → tO} {M : tM} {a0 a1 a3 a4 a5 : Option Value} {x : Int32} {S : List Value} : rn ca C_X6_readNumber 96 [a0, a1, some (.int x), a3, a4, a5] S M = rn ca C_X6_readNumber 97 [a0, a1, some (.int x), a3, a4, a5] (.int x :: S) M := (rn_at k_X6_readNumber_96).trans rfl
theorem k_X6_readNumber_97 : lk 97 C_X6_readNumber = some (.iload 5, (0, 0, 0, 0)) := by decide +kernel
theorem s_X6_readNumber_97 {ca : Nat → List Value → tM → tO} {M : tM} {a0 a1 a2 a3 a4 : Option Value} {x : Int32} {S : List Value} : rn ca C_X6_readNumber 97 [a0, a1, a2, a3, a4, some (.int x)] S M = rn ca C_X6_readNumber 99 [a0, a1, a2, a3, a4, some (.int x)] (.int x :: S) M := (rn_at k_X6_readNumber_97).trans rfl
theorem k_X6_readNumber_99 : lk 99 C_X6_readNumber = some (.iastore, (0, 0, 0, 0)) := by decide +kernel
theorem s_X6_readNumber_99 {ca : Nat → List Value → tM → tO} {M : tM} {L : tL} {a : Nat} {i x : Int32} {S : List Value} : rn ca C_X6_readNumber 99 L (.int x :: .int i :: .ref a :: S) M = if akind a = 0 ∧ inb i (alen M a) then rn ca C_X6_readNumber 100 L S (sI M a i.toInt.toNat x) else none := (rn_at k_X6_readNumber_99).trans rnx_ite
theorem k_X6_readNumber_100 : lk 100 C_X6_readNumber = some (.iconst 1, (0, 0, 0, 0)) := by decide +kernel
theorem s_X6_readNumber_100 {ca : Nat → List Value → tM → tO} {M : tM} {L : tL} {S : List Value} : rn ca C_X6_readNumber 100 L S M = rn ca C_X6_readNumber 101 L (.int (iI 1) :: S) M := (rn_at k_X6_readNumber_100).trans rfl
theorem k_X6_readNumber_101 : lk 101 C_X6_readNumber = some (.ireturn, (1, 0, 0, 0)) := by decide +kernel
theorem s_X6_readNumber_101 {ca : Nat → List Value → tM → tO} {M : tM} {L : tL} {x : Int32} : rn ca C_X6_readNumber 101 L [.int x] M = if x = iI 0 ∨ x = iI 1 then some (some (.int x), M) else none := (rn_at k_X6_readNumber_101).trans rnx_ite
theorem k_X6_mayStand_0 : lk 0 C_X6_mayStand = some (.iload_n 1, (0, 0, 0, 0)) := by decide +kernel
theorem s_X6_mayStand_0 {ca : Nat → List Value → tM → tO} {M : tM} {a0 a2 a3 a4 : Option Value} {x : Int32} {S : List Value} : rn ca C_X6_mayStand 0 [a0, some (.int x), a2, a3, a4] S M = rn ca C_X6_mayStand 1 [a0, some (.int x), a2, a3, a4] (.int x :: S) M := (rn_at k_X6_mayStand_0).trans rfl
theorem k_X6_mayStand_1 : lk 1 C_X6_mayStand = some (.tableswitch 57 1 5 #[35, 44, 57, 57, 52], (0, 0, 0, 0)) := by decide +kernel
theorem s_X6_mayStand_1 {ca : Nat → List Value → tM → tO} {M : tM} {L : tL} {x : Int32} {S : List Value} : rn ca C_X6_mayStand 1 L (.int x :: S) M = if x = iI 1 then rn ca C_X6_mayStand 36 L S M else if x = iI 2 then rn ca C_X6_mayStand 45 L S M else if x = iI 3 then rn ca C_X6_mayStand 58 L S M else if x = iI 4 then rn ca C_X6_mayStand 58 L S M else if x = iI 5 then rn ca C_X6_mayStand 53 L S M else rn ca C_X6_mayStand 58 L S M := by rw [rn_at k_X6_mayStand_1]; simp only [ta, tsw, lsw, rnx_ite]; rfl
theorem k_X6_mayStand_36 : lk 36 C_X6_mayStand = some (.aload_n 0, (0, 0, 0, 0)) := by decide +kernel
theorem s_X6_mayStand_36 {ca : Nat → List Value → tM → tO} {M : tM} {a1 a2 a3 a4 : Option Value} {x : Nat} {S : List Value} : rn ca C_X6_mayStand 36 [some (.ref x), a1, a2, a3, a4] S M = rn ca C_X6_mayStand 37 [some (.ref x), a1, a2, a3, a4] (.ref x :: S) M := (rn_at k_X6_mayStand_36).trans rfl
theorem k_X6_mayStand_37 : lk 37 C_X6_mayStand = some (.iload_n 2, (0, 0, 0, 0)) := by decide +kernel
theorem s_X6_mayStand_37 {ca : Nat → List Value → tM → tO} {M : tM} {a0 a1 a3 a4 : Option Value} {x : Int32} {S : List Value} : rn ca C_X6_mayStand 37 [a0, a1, some (.int x), a3, a4] S M = rn ca C_X6_mayStand 38 [a0, a1, some (.int x), a3, a4] (.int x :: S) M := (rn_at k_X6_mayStand_37).trans rfl
theorem k_X6_mayStand_38 : lk 38 C_X6_mayStand = some (.iload_n 3, (0, 0, 0, 0)) := by decide +kernel
theorem s_X6_mayStand_38 {ca : Nat → List Value → tM → tO} {M : tM} {a0 a1 a2 a4 : Option Value} {x : Int32} {S : List Value} : rn ca C_X6_mayStand 38 [a0, a1, a2, some (.int x), a4] S M = rn ca C_X6_mayStand 39 [a0, a1, a2, some (.int x), a4] (.int x :: S) M := (rn_at k_X6_mayStand_38).trans rfl
theorem k_X6_mayStand_39 : lk 39 C_X6_mayStand = some (.aload 4, (0, 0, 0, 0)) := by decide +kernel
theorem s_X6_mayStand_39 {ca : Nat → List Value → tM → tO} {M : tM} {a0 a1 a2 a3 : Option Value} {x : Nat} {S : List Value} : rn ca C_X6_mayStand 39 [a0, a1, a2, a3, some (.ref x)] S M = rn ca C_X6_mayStand 41 [a0, a1, a2, a3, some (.ref x)] (.ref x :: S) M := (rn_at k_X6_mayStand_39).trans rfl
theorem k_X6_mayStand_41 : lk 41 C_X6_mayStand = some (.invokevirtual 124, (56, 3, 6, 593)) := by decide +kernel
theorem s_X6_mayStand_41 {ca : Nat → List Value → tM → tO} {M : tM} {L : tL} {v1 v2 v3 : Value} {b : Nat} : rn ca C_X6_mayStand 41 L [v3, v2, v1, .ref b] M = if clsO b = some 6 then rnk ca C_X6_mayStand 44 L [] (ca m_X6_mayStandInTube [.ref b, v1, v2, v3] M) else none := (rn_at k_X6_mayStand_41).trans rnx_ite
theorem k_X6_mayStand_44 : lk 44 C_X6_mayStand = some (.ireturn, (1, 0, 0, 0)) := by decide +kernel
theorem s_X6_mayStand_44 {ca : Nat → List Value → tM → tO} {M : tM} {L : tL} {x : Int32} : rn ca C_X6_mayStand 44 L [.int x] M = if x = iI 0 ∨ x = iI 1 then some (some (.int x), M) else none := (rn_at k_X6_mayStand_44).trans rnx_ite
theorem k_X6_mayStand_45 : lk 45 C_X6_mayStand = some (.iload_n 2, (0, 0, 0, 0)) := by decide +kernel
theorem s_X6_mayStand_45 {ca : Nat → List Value → tM → tO} {M : tM} {a0 a1 a3 a4 : Option Value} {x : Int32} {S : List Value} : rn ca C_X6_mayStand 45 [a0, a1, some (.int x), a3, a4] S M = rn ca C_X6_mayStand 46 [a0, a1, some (.int x), a3, a4] (.int x :: S) M := (rn_at k_X6_mayStand_45).trans rfl
theorem k_X6_mayStand_46 : lk 46 C_X6_mayStand = some (.iload_n 3, (0, 0, 0, 0)) := by decide +kernel
theorem s_X6_mayStand_46 {ca : Nat → List Value → tM → tO} {M : tM} {a0 a1 a2 a4 : Option Value} {x : Int32} {S : List Value} : rn ca C_X6_mayStand 46 [a0, a1, a2, some (.int x), a4] S M = rn ca C_X6_mayStand 47 [a0, a1, a2, some (.int x), a4] (.int x :: S) M := (rn_at k_X6_mayStand_46).trans rfl
theorem k_X6_mayStand_47 : lk 47 C_X6_mayStand = some (.aload 4, (0, 0, 0, 0)) := by decide +kernel
theorem s_X6_mayStand_47 {ca : Nat → List Value → tM → tO} {M : tM} {a0 a1 a2 a3 : Option Value} {x : Nat} {S : List Value} : rn ca C_X6_mayStand 47 [a0, a1, a2, a3, some (.ref x)] S M = rn ca C_X6_mayStand 49 [a0, a1, a2, a3, some (.ref x)] (.ref x :: S) M := (rn_at k_X6_mayStand_47).trans rfl
theorem k_X6_mayStand_49 : lk 49 C_X6_mayStand = some (.invokestatic 127, (57, 3, 0, 598)) := by decide +kernel
theorem s_X6_mayStand_49 {ca : Nat → List Value → tM → tO} {M : tM} {L : tL} {v1 v2 v3 : Value} : rn ca C_X6_mayStand 49 L [v3, v2, v1] M = rnk ca C_X6_mayStand 52 L [] (ca m_X6_mayStandInCapsule [v1, v2, v3] M) := (rn_at k_X6_mayStand_49).trans rfl
theorem k_X6_mayStand_52 : lk 52 C_X6_mayStand = some (.ireturn, (1, 0, 0, 0)) := by decide +kernel
theorem s_X6_mayStand_52 {ca : Nat → List Value → tM → tO} {M : tM} {L : tL} {x : Int32} : rn ca C_X6_mayStand 52 L [.int x] M = if x = iI 0 ∨ x = iI 1 then some (some (.int x), M) else none := (rn_at k_X6_mayStand_52).trans rnx_ite
theorem k_X6_mayStand_53 : lk 53 C_X6_mayStand = some (.iload_n 3, (0, 0, 0, 0)) := by decide +kernel
theorem s_X6_mayStand_53 {ca : Nat → List Value → tM → tO} {M : tM} {a0 a1 a2 a4 : Option Value} {x : Int32} {S : List Value} : rn ca C_X6_mayStand 53 [a0, a1, a2, some (.int x), a4] S M = rn ca C_X6_mayStand 54 [a0, a1, a2, some (.int x), a4] (.int x :: S) M := (rn_at k_X6_mayStand_53).trans rfl
theorem k_X6_mayStand_54 : lk 54 C_X6_mayStand = some (.invokestatic 130, (140, 1, 0, 100010)) := by decide +kernel
theorem s_X6_mayStand_54 {ca : Nat → List Value → tM → tO} {M : tM} {L : tL} {v1 : Value} : rn ca C_X6_mayStand 54 L [v1] M = rnk ca C_X6_mayStand 57 L [] (ca m_X10_isOneToNine [v1] M) := (rn_at k_X6_mayStand_54).trans rfl
theorem k_X6_mayStand_57 : lk 57 C_X6_mayStand = some (.ireturn, (1, 0, 0, 0)) := by decide +kernel
theorem s_X6_mayStand_57 {ca : Nat → List Value → tM → tO} {M : tM} {L : tL} {x : Int32} : rn ca C_X6_mayStand 57 L [.int x] M = if x = iI 0 ∨ x = iI 1 then some (some (.int x), M) else none := (rn_at k_X6_mayStand_57).trans rnx_ite
theorem k_X6_mayStand_58 : lk 58 C_X6_mayStand = some (.aload 4, (0, 0, 0, 0)) := by decide +kernel
theorem s_X6_mayStand_58 {ca : Nat → List Value → tM → tO} {M : tM} {a0 a1 a2 a3 : Option Value} {x : Nat} {S : List Value} : rn ca C_X6_mayStand 58 [a0, a1, a2, a3, some (.ref x)] S M = rn ca C_X6_mayStand 60 [a0, a1, a2, a3, some (.ref x)] (.ref x :: S) M := (rn_at k_X6_mayStand_58).trans rfl
theorem k_X6_mayStand_60 : lk 60 C_X6_mayStand = some (.iload_n 3, (0, 0, 0, 0)) := by decide +kernel
theorem s_X6_mayStand_60 {ca : Nat → List Value → tM → tO} {M : tM} {a0 a1 a2 a4 : Option Value} {x : Int32} {S : List Value} : rn ca C_X6_mayStand 60 [a0, a1, a2, some (.int x), a4] S M = rn ca C_X6_mayStand 61 [a0, a1, a2, some (.int x), a4] (.int x :: S) M := (rn_at k_X6_mayStand_60).trans rfl
theorem k_X6_mayStand_61 : lk 61 C_X6_mayStand = some (.invokevirtual 133, (19, 1, 4, 601)) := by decide +kernel
theorem s_X6_mayStand_61 {ca : Nat → List Value → tM → tO} {M : tM} {L : tL} {v1 : Value} {b : Nat} : rn ca C_X6_mayStand 61 L [v1, .ref b] M = if clsO b = some 4 then rnk ca C_X6_mayStand 64 L [] (ca m_X4_hasTube [.ref b, v1] M) else none := (rn_at k_X6_mayStand_61).trans rnx_ite
theorem k_X6_mayStand_64 : lk 64 C_X6_mayStand = some (.ireturn, (1, 0, 0, 0)) := by decide +kernel
theorem s_X6_mayStand_64 {ca : Nat → List Value → tM → tO} {M : tM} {L : tL} {x : Int32} : rn ca C_X6_mayStand 64 L [.int x] M = if x = iI 0 ∨ x = iI 1 then some (some (.int x), M) else none := (rn_at k_X6_mayStand_64).trans rnx_ite
theorem k_X6_mayStandInTube_0 : lk 0 C_X6_mayStandInTube = some (.iload_n 1, (0, 0, 0, 0)) := by decide +kernel
theorem s_X6_mayStandInTube_0 {ca : Nat → List Value → tM → tO} {M : tM} {a0 a2 a3 : Option Value} {x : Int32} {S : List Value} : rn ca C_X6_mayStandInTube 0 [a0, some (.int x), a2, a3] S M = rn ca C_X6_mayStandInTube 1 [a0, some (.int x), a2, a3] (.int x :: S) M := (rn_at k_X6_mayStandInTube_0).trans rfl
theorem k_X6_mayStandInTube_1 : lk 1 C_X6_mayStandInTube = some (.lookupswitch 57 #[(0, 27), (1, 33)], (0, 0, 0, 0)) := by decide +kernel
theorem s_X6_mayStandInTube_1 {ca : Nat → List Value → tM → tO} {M : tM} {L : tL} {x : Int32} {S : List Value} : rn ca C_X6_mayStandInTube 1 L (.int x :: S) M = if x = iI 0 then rn ca C_X6_mayStandInTube 28 L S M else if x = iI 1 then rn ca C_X6_mayStandInTube 34 L S M else rn ca C_X6_mayStandInTube 58 L S M := by rw [rn_at k_X6_mayStandInTube_1]; simp only [ta, tsw, lsw, rnx_ite]; rfl
theorem k_X6_mayStandInTube_28 : lk 28 C_X6_mayStandInTube = some (.aload_n 3, (0, 0, 0, 0)) := by decide +kernel
theorem s_X6_mayStandInTube_28 {ca : Nat → List Value → tM → tO} {M : tM} {a0 a1 a2 : Option Value} {x : Nat} {S : List Value} : rn ca C_X6_mayStandInTube 28 [a0, a1, a2, some (.ref x)] S M = rn ca C_X6_mayStandInTube 29 [a0, a1, a2, some (.ref x)] (.ref x :: S) M := (rn_at k_X6_mayStandInTube_28).trans rfl
theorem k_X6_mayStandInTube_29 : lk 29 C_X6_mayStandInTube = some (.iload_n 2, (0, 0, 0, 0)) := by decide +kernel
theorem s_X6_mayStandInTube_29 {ca : Nat → List Value → tM → tO} {M : tM} {a0 a1 a3 : Option Value} {x : Int32} {S : List Value} : rn ca C_X6_mayStandInTube 29 [a0, a1, some (.int x), a3] S M = rn ca C_X6_mayStandInTube 30 [a0, a1, some (.int x), a3] (.int x :: S) M := (rn_at k_X6_mayStandInTube_29).trans rfl
theorem k_X6_mayStandInTube_30 : lk 30 C_X6_mayStandInTube = some (.invokevirtual 136, (18, 1, 4, 597)) := by decide +kernel
theorem s_X6_mayStandInTube_30 {ca : Nat → List Value → tM → tO} {M : tM} {L : tL} {v1 : Value} {b : Nat} : rn ca C_X6_mayStandInTube 30 L [v1, .ref b] M = if clsO b = some 4 then rnk ca C_X6_mayStandInTube 33 L [] (ca m_X4_hasDesk [.ref b, v1] M) else none := (rn_at k_X6_mayStandInTube_30).trans rnx_ite
theorem k_X6_mayStandInTube_33 : lk 33 C_X6_mayStandInTube = some (.ireturn, (1, 0, 0, 0)) := by decide +kernel
theorem s_X6_mayStandInTube_33 {ca : Nat → List Value → tM → tO} {M : tM} {L : tL} {x : Int32} : rn ca C_X6_mayStandInTube 33 L [.int x] M = if x = iI 0 ∨ x = iI 1 then some (some (.int x), M) else none := (rn_at k_X6_mayStandInTube_33).trans rnx_ite
theorem k_X6_mayStandInTube_34 : lk 34 C_X6_mayStandInTube = some (.aload_n 3, (0, 0, 0, 0)) := by decide +kernel
theorem s_X6_mayStandInTube_34 {ca : Nat → List Value → tM → tO} {M : tM} {a0 a1 a2 : Option Value} {x : Nat} {S : List Value} : rn ca C_X6_mayStandInTube 34 [a0, a1, a2, some (.ref x)] S M = rn ca C_X6_mayStandInTube 35 [a0, a1, a2, some (.ref x)] (.ref x :: S) M := (rn_at k_X6_mayStandInTube_34).trans rfl
theorem k_X6_mayStandInTube_35 : lk 35 C_X6_mayStandInTube = some (.iload_n 2, (0, 0, 0, 0)) := by decide +kernel
theorem s_X6_mayStandInTube_35 {ca : Nat → List Value → tM → tO} {M : tM} {a0 a1 a3 : Option Value} {x : Int32} {S : List Value} : rn ca C_X6_mayStandInTube 35 [a0, a1, some (.int x), a3] S M = rn ca C_X6_mayStandInTube 36 [a0, a1, some (.int x), a3] (.int x :: S) M := (rn_at k_X6_mayStandInTube_35).trans rfl
theorem k_X6_mayStandInTube_36 : lk 36 C_X6_mayStandInTube = some (.invokevirtual 136, (18, 1, 4, 597)) := by decide +kernel
theorem s_X6_mayStandInTube_36 {ca : Nat → List Value → tM → tO} {M : tM} {L : tL} {v1 : Value} {b : Nat} : rn ca C_X6_mayStandInTube 36 L [v1, .ref b] M = if clsO b = some 4 then rnk ca C_X6_mayStandInTube 39 L [] (ca m_X4_hasDesk [.ref b, v1] M) else none := (rn_at k_X6_mayStandInTube_36).trans rnx_ite
theorem k_X6_mayStandInTube_39 : lk 39 C_X6_mayStandInTube = some (.ifCond .eq 17, (56, 0, 0, 0)) := by decide +kernel
theorem s_X6_mayStandInTube_39 {ca : Nat → List Value → tM → tO} {M : tM} {L : tL} {x : Int32} {S : List Value} : rn ca C_X6_mayStandInTube 39 L (.int x :: S) M = if x = iI 0 then rn ca C_X6_mayStandInTube 56 L S M else rn ca C_X6_mayStandInTube 42 L S M := (rn_at k_X6_mayStandInTube_39).trans rnx_ite
theorem k_X6_mayStandInTube_42 : lk 42 C_X6_mayStandInTube = some (.iload_n 2, (0, 0, 0, 0)) := by decide +kernel
theorem s_X6_mayStandInTube_42 {ca : Nat → List Value → tM → tO} {M : tM} {a0 a1 a3 : Option Value} {x : Int32} {S : List Value} : rn ca C_X6_mayStandInTube 42 [a0, a1, some (.int x), a3] S M = rn ca C_X6_mayStandInTube 43 [a0, a1, some (.int x), a3] (.int x :: S) M := (rn_at k_X6_mayStandInTube_42).trans rfl
theorem k_X6_mayStandInTube_43 : lk 43 C_X6_mayStandInTube = some (.aload_n 0, (0, 0, 0, 0)) := by decide +kernel
theorem s_X6_mayStandInTube_43 {ca : Nat → List Value → tM → tO} {M : tM} {a1 a2 a3 : Option Value} {x : Nat} {S : List Value} : rn ca C_X6_mayStandInTube 43 [some (.ref x), a1, a2, a3] S M = rn ca C_X6_mayStandInTube 44 [some (.ref x), a1, a2, a3] (.ref x :: S) M := (rn_at k_X6_mayStandInTube_43).trans rfl
theorem k_X6_mayStandInTube_44 : lk 44 C_X6_mayStandInTube = some (.getfield 15, (6, 1, 0, 124)) := by decide +kernel
theorem s_X6_mayStandInTube_44 {ca : Nat → List Value → tM → tO} {M : tM} {L : tL} {b : Nat} {S : List Value} : rn ca C_X6_mayStandInTube 44 L (.ref b :: S) M = if clsO b = some 6 then rn ca C_X6_mayStandInTube 47 L (fv M b 1 :: S) M else none := (rn_at k_X6_mayStandInTube_44).trans rnx_ite
theorem k_X6_mayStandInTube_47 : lk 47 C_X6_mayStandInTube = some (.iconst 0, (0, 0, 0, 0)) := by decide +kernel
theorem s_X6_mayStandInTube_47 {ca : Nat → List Value → tM → tO} {M : tM} {L : tL} {S : List Value} : rn ca C_X6_mayStandInTube 47 L S M = rn ca C_X6_mayStandInTube 48 L (.int (iI 0) :: S) M := (rn_at k_X6_mayStandInTube_47).trans rfl
theorem k_X6_mayStandInTube_48 : lk 48 C_X6_mayStandInTube = some (.iaload, (0, 0, 0, 0)) := by decide +kernel
theorem s_X6_mayStandInTube_48 {ca : Nat → List Value → tM → tO} {M : tM} {L : tL} {a : Nat} {i : Int32} {S : List Value} : rn ca C_X6_mayStandInTube 48 L (.int i :: .ref a :: S) M = if (akind a = 0 ∨ akind a = 6 ∨ akind a = 7) ∧ inb i (alen M a) then rn ca C_X6_mayStandInTube 49 L (.int (M.1 a i.toInt.toNat) :: S) M else none := (rn_at k_X6_mayStandInTube_48).trans rnx_ite
theorem k_X6_mayStandInTube_49 : lk 49 C_X6_mayStandInTube = some (.if_icmp .eq 7, (56, 0, 0, 0)) := by decide +kernel
theorem s_X6_mayStandInTube_49 {ca : Nat → List Value → tM → tO} {M : tM} {L : tL} {x y : Int32} {S : List Value} : rn ca C_X6_mayStandInTube 49 L (.int y :: .int x :: S) M = if x = y then rn ca C_X6_mayStandInTube 56 L S M else rn ca C_X6_mayStandInTube 52 L S M := (rn_at k_X6_mayStandInTube_49).trans rnx_ite
theorem k_X6_mayStandInTube_52 : lk 52 C_X6_mayStandInTube = some (.iconst 1, (0, 0, 0, 0)) := by decide +kernel
theorem s_X6_mayStandInTube_52 {ca : Nat → List Value → tM → tO} {M : tM} {L : tL} {S : List Value} : rn ca C_X6_mayStandInTube 52 L S M = rn ca C_X6_mayStandInTube 53 L (.int (iI 1) :: S) M := (rn_at k_X6_mayStandInTube_52).trans rfl
theorem k_X6_mayStandInTube_53 : lk 53 C_X6_mayStandInTube = some (.goto 4, (57, 0, 0, 0)) := by decide +kernel
theorem s_X6_mayStandInTube_53 {ca : Nat → List Value → tM → tO} {M : tM} {L : tL} {S : List Value} : rn ca C_X6_mayStandInTube 53 L S M = rn ca C_X6_mayStandInTube 57 L S M := (rn_at k_X6_mayStandInTube_53).trans rfl
theorem k_X6_mayStandInTube_56 : lk 56 C_X6_mayStandInTube = some (.iconst 0, (0, 0, 0, 0)) := by decide +kernel
theorem s_X6_mayStandInTube_56 {ca : Nat → List Value → tM → tO} {M : tM} {L : tL} {S : List Value} : rn ca C_X6_mayStandInTube 56 L S M = rn ca C_X6_mayStandInTube 57 L (.int (iI 0) :: S) M := (rn_at k_X6_mayStandInTube_56).trans rfl
theorem k_X6_mayStandInTube_57 : lk 57 C_X6_mayStandInTube = some (.ireturn, (1, 0, 0, 0)) := by decide +kernel
theorem s_X6_mayStandInTube_57 {ca : Nat → List Value → tM → tO} {M : tM} {L : tL} {x : Int32} : rn ca C_X6_mayStandInTube 57 L [.int x] M = if x = iI 0 ∨ x = iI 1 then some (some (.int x), M) else none := (rn_at k_X6_mayStandInTube_57).trans rnx_ite
theorem k_X6_mayStandInTube_58 : lk 58 C_X6_mayStandInTube = some (.iload_n 2, (0, 0, 0, 0)) := by decide +kernel
theorem s_X6_mayStandInTube_58 {ca : Nat → List Value → tM → tO} {M : tM} {a0 a1 a3 : Option Value} {x : Int32} {S : List Value} : rn ca C_X6_mayStandInTube 58 [a0, a1, some (.int x), a3] S M = rn ca C_X6_mayStandInTube 59 [a0, a1, some (.int x), a3] (.int x :: S) M := (rn_at k_X6_mayStandInTube_58).trans rfl
theorem k_X6_mayStandInTube_59 : lk 59 C_X6_mayStandInTube = some (.invokestatic 130, (140, 1, 0, 100010)) := by decide +kernel
theorem s_X6_mayStandInTube_59 {ca : Nat → List Value → tM → tO} {M : tM} {L : tL} {v1 : Value} : rn ca C_X6_mayStandInTube 59 L [v1] M = rnk ca C_X6_mayStandInTube 62 L [] (ca m_X10_isOneToNine [v1] M) := (rn_at k_X6_mayStandInTube_59).trans rfl
theorem k_X6_mayStandInTube_62 : lk 62 C_X6_mayStandInTube = some (.ireturn, (1, 0, 0, 0)) := by decide +kernel
theorem s_X6_mayStandInTube_62 {ca : Nat → List Value → tM → tO} {M : tM} {L : tL} {x : Int32} : rn ca C_X6_mayStandInTube 62 L [.int x] M = if x = iI 0 ∨ x = iI 1 then some (some (.int x), M) else none := (rn_at k_X6_mayStandInTube_62).trans rnx_ite
theorem k_X6_mayStandInCapsule_0 : lk 0 C_X6_mayStandInCapsule = some (.iload_n 0, (0, 0, 0, 0)) := by decide +kernel
theorem s_X6_mayStandInCapsule_0 {ca : Nat → List Value → tM → tO} {M : tM} {a1 a2 : Option Value} {x : Int32} {S : List Value} : rn ca C_X6_mayStandInCapsule 0 [some (.int x), a1, a2] S M = rn ca C_X6_mayStandInCapsule 1 [some (.int x), a1, a2] (.int x :: S) M := (rn_at k_X6_mayStandInCapsule_0).trans rfl
theorem k_X6_mayStandInCapsule_1 : lk 1 C_X6_mayStandInCapsule = some (.tableswitch 56 0 2 #[27, 39, 51], (0, 0, 0, 0)) := by decide +kernel
theorem s_X6_mayStandInCapsule_1 {ca : Nat → List Value → tM → tO} {M : tM} {L : tL} {x : Int32} {S : List Value} : rn ca C_X6_mayStandInCapsule 1 L (.int x :: S) M = if x = iI 0 then rn ca C_X6_mayStandInCapsule 28 L S M else if x = iI 1 then rn ca C_X6_mayStandInCapsule 40 L S M else if x = iI 2 then rn ca C_X6_mayStandInCapsule 52 L S M else rn ca C_X6_mayStandInCapsule 57 L S M := by rw [rn_at k_X6_mayStandInCapsule_1]; simp only [ta, tsw, lsw, rnx_ite]; rfl
theorem k_X6_mayStandInCapsule_28 : lk 28 C_X6_mayStandInCapsule = some (.iload_n 1, (0, 0, 0, 0)) := by decide +kernel
theorem s_X6_mayStandInCapsule_28 {ca : Nat → List Value → tM → tO} {M : tM} {a0 a2 : Option Value} {x : Int32} {S : List Value} : rn ca C_X6_mayStandInCapsule 28 [a0, some (.int x), a2] S M = rn ca C_X6_mayStandInCapsule 29 [a0, some (.int x), a2] (.int x :: S) M := (rn_at k_X6_mayStandInCapsule_28).trans rfl
theorem k_X6_mayStandInCapsule_29 : lk 29 C_X6_mayStandInCapsule = some (.bipush 7, (0, 0, 0, 0)) := by decide +kernel
theorem s_X6_mayStandInCapsule_29 {ca : Nat → List Value → tM → tO} {M : tM} {L : tL} {S : List Value} : rn ca C_X6_mayStandInCapsule 29 L S M = rn ca C_X6_mayStandInCapsule 31 L (.int (iI 7) :: S) M := (rn_at k_X6_mayStandInCapsule_29).trans rfl
theorem k_X6_mayStandInCapsule_31 : lk 31 C_X6_mayStandInCapsule = some (.if_icmp .ge 7, (38, 0, 0, 0)) := by decide +kernel
theorem s_X6_mayStandInCapsule_31 {ca : Nat → List Value → tM → tO} {M : tM} {L : tL} {x y : Int32} {S : List Value} : rn ca C_X6_mayStandInCapsule 31 L (.int y :: .int x :: S) M = if y ≤ x then rn ca C_X6_mayStandInCapsule 38 L S M else rn ca C_X6_mayStandInCapsule 34 L S M := (rn_at k_X6_mayStandInCapsule_31).trans rnx_ite
theorem k_X6_mayStandInCapsule_34 : lk 34 C_X6_mayStandInCapsule = some (.iconst 1, (0, 0, 0, 0)) := by decide +kernel
theorem s_X6_mayStandInCapsule_34 {ca : Nat → List Value → tM → tO} {M : tM} {L : tL} {S : List Value} : rn ca C_X6_mayStandInCapsule 34 L S M = rn ca C_X6_mayStandInCapsule 35 L (.int (iI 1) :: S) M := (rn_at k_X6_mayStandInCapsule_34).trans rfl
theorem k_X6_mayStandInCapsule_35 : lk 35 C_X6_mayStandInCapsule = some (.goto 4, (39, 0, 0, 0)) := by decide +kernel
theorem s_X6_mayStandInCapsule_35 {ca : Nat → List Value → tM → tO} {M : tM} {L : tL} {S : List Value} : rn ca C_X6_mayStandInCapsule 35 L S M = rn ca C_X6_mayStandInCapsule 39 L S M := (rn_at k_X6_mayStandInCapsule_35).trans rfl
theorem k_X6_mayStandInCapsule_38 : lk 38 C_X6_mayStandInCapsule = some (.iconst 0, (0, 0, 0, 0)) := by decide +kernel
theorem s_X6_mayStandInCapsule_38 {ca : Nat → List Value → tM → tO} {M : tM} {L : tL} {S : List Value} : rn ca C_X6_mayStandInCapsule 38 L S M = rn ca C_X6_mayStandInCapsule 39 L (.int (iI 0) :: S) M := (rn_at k_X6_mayStandInCapsule_38).trans rfl
theorem k_X6_mayStandInCapsule_39 : lk 39 C_X6_mayStandInCapsule = some (.ireturn, (1, 0, 0, 0)) := by decide +kernel
theorem s_X6_mayStandInCapsule_39 {ca : Nat → List Value → tM → tO} {M : tM} {L : tL} {x : Int32} : rn ca C_X6_mayStandInCapsule 39 L [.int x] M = if x = iI 0 ∨ x = iI 1 then some (some (.int x), M) else none := (rn_at k_X6_mayStandInCapsule_39).trans rnx_ite
theorem k_X6_mayStandInCapsule_40 : lk 40 C_X6_mayStandInCapsule = some (.iload_n 1, (0, 0, 0, 0)) := by decide +kernel
theorem s_X6_mayStandInCapsule_40 {ca : Nat → List Value → tM → tO} {M : tM} {a0 a2 : Option Value} {x : Int32} {S : List Value} : rn ca C_X6_mayStandInCapsule 40 [a0, some (.int x), a2] S M = rn ca C_X6_mayStandInCapsule 41 [a0, some (.int x), a2] (.int x :: S) M := (rn_at k_X6_mayStandInCapsule_40).trans rfl
theorem k_X6_mayStandInCapsule_41 : lk 41 C_X6_mayStandInCapsule = some (.bipush 9, (0, 0, 0, 0)) := by decide +kernel
theorem s_X6_mayStandInCapsule_41 {ca : Nat → List Value → tM → tO} {M : tM} {L : tL} {S : List Value} : rn ca C_X6_mayStandInCapsule 41 L S M = rn ca C_X6_mayStandInCapsule 43 L (.int (iI 9) :: S) M := (rn_at k_X6_mayStandInCapsule_41).trans rfl
theorem k_X6_mayStandInCapsule_43 : lk 43 C_X6_mayStandInCapsule = some (.if_icmp .gt 7, (50, 0, 0, 0)) := by decide +kernel
theorem s_X6_mayStandInCapsule_43 {ca : Nat → List Value → tM → tO} {M : tM} {L : tL} {x y : Int32} {S : List Value} : rn ca C_X6_mayStandInCapsule 43 L (.int y :: .int x :: S) M = if y < x then rn ca C_X6_mayStandInCapsule 50 L S M else rn ca C_X6_mayStandInCapsule 46 L S M := (rn_at k_X6_mayStandInCapsule_43).trans rnx_ite
theorem k_X6_mayStandInCapsule_46 : lk 46 C_X6_mayStandInCapsule = some (.iconst 1, (0, 0, 0, 0)) := by decide +kernel
theorem s_X6_mayStandInCapsule_46 {ca : Nat → List Value → tM → tO} {M : tM} {L : tL} {S : List Value} : rn ca C_X6_mayStandInCapsule 46 L S M = rn ca C_X6_mayStandInCapsule 47 L (.int (iI 1) :: S) M := (rn_at k_X6_mayStandInCapsule_46).trans rfl
theorem k_X6_mayStandInCapsule_47 : lk 47 C_X6_mayStandInCapsule = some (.goto 4, (51, 0, 0, 0)) := by decide +kernel
theorem s_X6_mayStandInCapsule_47 {ca : Nat → List Value → tM → tO} {M : tM} {L : tL} {S : List Value} : rn ca C_X6_mayStandInCapsule 47 L S M = rn ca C_X6_mayStandInCapsule 51 L S M := (rn_at k_X6_mayStandInCapsule_47).trans rfl
theorem k_X6_mayStandInCapsule_50 : lk 50 C_X6_mayStandInCapsule = some (.iconst 0, (0, 0, 0, 0)) := by decide +kernel
theorem s_X6_mayStandInCapsule_50 {ca : Nat → List Value → tM → tO} {M : tM} {L : tL} {S : List Value} : rn ca C_X6_mayStandInCapsule 50 L S M = rn ca C_X6_mayStandInCapsule 51 L (.int (iI 0) :: S) M := (rn_at k_X6_mayStandInCapsule_50).trans rfl
theorem k_X6_mayStandInCapsule_51 : lk 51 C_X6_mayStandInCapsule = some (.ireturn, (1, 0, 0, 0)) := by decide +kernel
theorem s_X6_mayStandInCapsule_51 {ca : Nat → List Value → tM → tO} {M : tM} {L : tL} {x : Int32} : rn ca C_X6_mayStandInCapsule 51 L [.int x] M = if x = iI 0 ∨ x = iI 1 then some (some (.int x), M) else none := (rn_at k_X6_mayStandInCapsule_51).trans rnx_ite
theorem k_X6_mayStandInCapsule_52 : lk 52 C_X6_mayStandInCapsule = some (.iload_n 1, (0, 0, 0, 0)) := by decide +kernel
theorem s_X6_mayStandInCapsule_52 {ca : Nat → List Value → tM → tO} {M : tM} {a0 a2 : Option Value} {x : Int32} {S : List Value} : rn ca C_X6_mayStandInCapsule 52 [a0, some (.int x), a2] S M = rn ca C_X6_mayStandInCapsule 53 [a0, some (.int x), a2] (.int x :: S) M := (rn_at k_X6_mayStandInCapsule_52).trans rfl
theorem k_X6_mayStandInCapsule_53 : lk 53 C_X6_mayStandInCapsule = some (.invokestatic 130, (140, 1, 0, 100010)) := by decide +kernel
theorem s_X6_mayStandInCapsule_53 {ca : Nat → List Value → tM → tO} {M : tM} {L : tL} {v1 : Value} : rn ca C_X6_mayStandInCapsule 53 L [v1] M = rnk ca C_X6_mayStandInCapsule 56 L [] (ca m_X10_isOneToNine [v1] M) := (rn_at k_X6_mayStandInCapsule_53).trans rfl
theorem k_X6_mayStandInCapsule_56 : lk 56 C_X6_mayStandInCapsule = some (.ireturn, (1, 0, 0, 0)) := by decide +kernel
theorem s_X6_mayStandInCapsule_56 {ca : Nat → List Value → tM → tO} {M : tM} {L : tL} {x : Int32} : rn ca C_X6_mayStandInCapsule 56 L [.int x] M = if x = iI 0 ∨ x = iI 1 then some (some (.int x), M) else none := (rn_at k_X6_mayStandInCapsule_56).trans rnx_ite
theorem k_X6_mayStandInCapsule_57 : lk 57 C_X6_mayStandInCapsule = some (.aload_n 2, (0, 0, 0, 0)) := by decide +kernel
theorem s_X6_mayStandInCapsule_57 {ca : Nat → List Value → tM → tO} {M : tM} {a0 a1 : Option Value} {x : Nat} {S : List Value} : rn ca C_X6_mayStandInCapsule 57 [a0, a1, some (.ref x)] S M = rn ca C_X6_mayStandInCapsule 58 [a0, a1, some (.ref x)] (.ref x :: S) M := (rn_at k_X6_mayStandInCapsule_57).trans rfl
theorem k_X6_mayStandInCapsule_58 : lk 58 C_X6_mayStandInCapsule = some (.iload_n 1, (0, 0, 0, 0)) := by decide +kernel
theorem s_X6_mayStandInCapsule_58 {ca : Nat → List Value → tM → tO} {M : tM} {a0 a2 : Option Value} {x : Int32} {S : List Value} : rn ca C_X6_mayStandInCapsule 58 [a0, some (.int x), a2] S M = rn ca C_X6_mayStandInCapsule 59 [a0, some (.int x), a2] (.int x :: S) M := (rn_at k_X6_mayStandInCapsule_58).trans rfl
theorem k_X6_mayStandInCapsule_59 : lk 59 C_X6_mayStandInCapsule = some (.invokevirtual 136, (18, 1, 4, 597)) := by decide +kernel
theorem s_X6_mayStandInCapsule_59 {ca : Nat → List Value → tM → tO} {M : tM} {L : tL} {v1 : Value} {b : Nat} : rn ca C_X6_mayStandInCapsule 59 L [v1, .ref b] M = if clsO b = some 4 then rnk ca C_X6_mayStandInCapsule 62 L [] (ca m_X4_hasDesk [.ref b, v1] M) else none := (rn_at k_X6_mayStandInCapsule_59).trans rnx_ite
theorem k_X6_mayStandInCapsule_62 : lk 62 C_X6_mayStandInCapsule = some (.ireturn, (1, 0, 0, 0)) := by decide +kernel
theorem s_X6_mayStandInCapsule_62 {ca : Nat → List Value → tM → tO} {M : tM} {L : tL} {x : Int32} : rn ca C_X6_mayStandInCapsule 62 L [.int x] M = if x = iI 0 ∨ x = iI 1 then some (some (.int x), M) else none := (rn_at k_X6_mayStandInCapsule_62).trans rnx_ite
theorem k_X6_tell_0 : lk 0 C_X6_tell = some (.iload_n 1, (0, 0, 0, 0)) := by decide +kernel
theorem s_X6_tell_0 {ca : Nat → List Value → tM → tO} {M : tM} {a0 a2 : Option Value} {x : Int32} {S : List Value} : rn ca C_X6_tell 0 [a0, some (.int x), a2] S M = rn ca C_X6_tell 1 [a0, some (.int x), a2] (.int x :: S) M := (rn_at k_X6_tell_0).trans rfl
theorem k_X6_tell_1 : lk 1 C_X6_tell = some (.tableswitch 121 0 5 #[39, 46, 77, 121, 121, 108], (0, 0, 0, 0)) := by decide +kernel
theorem s_X6_tell_1 {ca : Nat → List Value → tM → tO} {M : tM} {L : tL} {x : Int32} {S : List Value} : rn ca C_X6_tell 1 L (.int x :: S) M = if x = iI 0 then rn ca C_X6_tell 40 L S M else if x = iI 1 then rn ca C_X6_tell 47 L S M else if x = iI 2 then rn ca C_X6_tell 78 L S M else if x = iI 3 then rn ca C_X6_tell 122 L S M else if x = iI 4 then rn ca C_X6_tell 122 L S M else if x = iI 5 then rn ca C_X6_tell 109 L S M else rn ca C_X6_tell 122 L S M := by rw [rn_at k_X6_tell_1]; simp only [ta, tsw, lsw, rnx_ite]; rfl
theorem k_X6_tell_40 : lk 40 C_X6_tell = some (.aload_n 2, (0, 0, 0, 0)) := by decide +kernel
theorem s_X6_tell_40 {ca : Nat → List Value → tM → tO} {M : tM} {a0 a1 : Option Value} {x : Nat} {S : List Value} : rn ca C_X6_tell 40 [a0, a1, some (.ref x)] S M = rn ca C_X6_tell 41 [a0, a1, some (.ref x)] (.ref x :: S) M := (rn_at k_X6_tell_40).trans rfl
theorem k_X6_tell_41 : lk 41 C_X6_tell = some (.invokevirtual 139, (24, 0, 4, 606)) := by decide +kernel
theorem s_X6_tell_41 {ca : Nat → List Value → tM → tO} {M : tM} {L : tL} {b : Nat} : rn ca C_X6_tell 41 L [.ref b] M = if clsO b = some 4 then rnk ca C_X6_tell 44 L [] (ca m_X4_addDesk [.ref b] M) else none := (rn_at k_X6_tell_41).trans rnx_ite
theorem k_X6_tell_44 : lk 44 C_X6_tell = some (.goto 98, (142, 0, 0, 0)) := by decide +kernel
theorem s_X6_tell_44 {ca : Nat → List Value → tM → tO} {M : tM} {L : tL} {S : List Value} : rn ca C_X6_tell 44 L S M = rn ca C_X6_tell 142 L S M := (rn_at k_X6_tell_44).trans rfl
theorem k_X6_tell_47 : lk 47 C_X6_tell = some (.aload_n 2, (0, 0, 0, 0)) := by decide +kernel
theorem s_X6_tell_47 {ca : Nat → List Value → tM → tO} {M : tM} {a0 a1 : Option Value} {x : Nat} {S : List Value} : rn ca C_X6_tell 47 [a0, a1, some (.ref x)] S M = rn ca C_X6_tell 48 [a0, a1, some (.ref x)] (.ref x :: S) M := (rn_at k_X6_tell_47).trans rfl
theorem k_X6_tell_48 : lk 48 C_X6_tell = some (.aload_n 0, (0, 0, 0, 0)) := by decide +kernel
theorem s_X6_tell_48 {ca : Nat → List Value → tM → tO} {M : tM} {a1 a2 : Option Value} {x : Nat} {S : List Value} : rn ca C_X6_tell 48 [some (.ref x), a1, a2] S M = rn ca C_X6_tell 49 [some (.ref x), a1, a2] (.ref x :: S) M := (rn_at k_X6_tell_48).trans rfl
theorem k_X6_tell_49 : lk 49 C_X6_tell = some (.getfield 15, (6, 1, 0, 124)) := by decide +kernel
theorem s_X6_tell_49 {ca : Nat → List Value → tM → tO} {M : tM} {L : tL} {b : Nat} {S : List Value} : rn ca C_X6_tell 49 L (.ref b :: S) M = if clsO b = some 6 then rn ca C_X6_tell 52 L (fv M b 1 :: S) M else none := (rn_at k_X6_tell_49).trans rnx_ite
theorem k_X6_tell_52 : lk 52 C_X6_tell = some (.iconst 0, (0, 0, 0, 0)) := by decide +kernel
theorem s_X6_tell_52 {ca : Nat → List Value → tM → tO} {M : tM} {L : tL} {S : List Value} : rn ca C_X6_tell 52 L S M = rn ca C_X6_tell 53 L (.int (iI 0) :: S) M := (rn_at k_X6_tell_52).trans rfl
theorem k_X6_tell_53 : lk 53 C_X6_tell = some (.iaload, (0, 0, 0, 0)) := by decide +kernel
theorem s_X6_tell_53 {ca : Nat → List Value → tM → tO} {M : tM} {L : tL} {a : Nat} {i : Int32} {S : List Value} : rn ca C_X6_tell 53 L (.int i :: .ref a :: S) M = if (akind a = 0 ∨ akind a = 6 ∨ akind a = 7) ∧ inb i (alen M a) then rn ca C_X6_tell 54 L (.int (M.1 a i.toInt.toNat) :: S) M else none := (rn_at k_X6_tell_53).trans rnx_ite
theorem k_X6_tell_54 : lk 54 C_X6_tell = some (.aload_n 0, (0, 0, 0, 0)) := by decide +kernel
theorem s_X6_tell_54 {ca : Nat → List Value → tM → tO} {M : tM} {a1 a2 : Option Value} {x : Nat} {S : List Value} : rn ca C_X6_tell 54 [some (.ref x), a1, a2] S M = rn ca C_X6_tell 55 [some (.ref x), a1, a2] (.ref x :: S) M := (rn_at k_X6_tell_54).trans rfl
theorem k_X6_tell_55 : lk 55 C_X6_tell = some (.getfield 15, (6, 1, 0, 124)) := by decide +kernel
theorem s_X6_tell_55 {ca : Nat → List Value → tM → tO} {M : tM} {L : tL} {b : Nat} {S : List Value} : rn ca C_X6_tell 55 L (.ref b :: S) M = if clsO b = some 6 then rn ca C_X6_tell 58 L (fv M b 1 :: S) M else none := (rn_at k_X6_tell_55).trans rnx_ite
theorem k_X6_tell_58 : lk 58 C_X6_tell = some (.iconst 1, (0, 0, 0, 0)) := by decide +kernel
theorem s_X6_tell_58 {ca : Nat → List Value → tM → tO} {M : tM} {L : tL} {S : List Value} : rn ca C_X6_tell 58 L S M = rn ca C_X6_tell 59 L (.int (iI 1) :: S) M := (rn_at k_X6_tell_58).trans rfl
theorem k_X6_tell_59 : lk 59 C_X6_tell = some (.iaload, (0, 0, 0, 0)) := by decide +kernel
theorem s_X6_tell_59 {ca : Nat → List Value → tM → tO} {M : tM} {L : tL} {a : Nat} {i : Int32} {S : List Value} : rn ca C_X6_tell 59 L (.int i :: .ref a :: S) M = if (akind a = 0 ∨ akind a = 6 ∨ akind a = 7) ∧ inb i (alen M a) then rn ca C_X6_tell 60 L (.int (M.1 a i.toInt.toNat) :: S) M else none := (rn_at k_X6_tell_59).trans rnx_ite
theorem k_X6_tell_60 : lk 60 C_X6_tell = some (.aload_n 0, (0, 0, 0, 0)) := by decide +kernel
theorem s_X6_tell_60 {ca : Nat → List Value → tM → tO} {M : tM} {a1 a2 : Option Value} {x : Nat} {S : List Value} : rn ca C_X6_tell 60 [some (.ref x), a1, a2] S M = rn ca C_X6_tell 61 [some (.ref x), a1, a2] (.ref x :: S) M := (rn_at k_X6_tell_60).trans rfl
theorem k_X6_tell_61 : lk 61 C_X6_tell = some (.getfield 15, (6, 1, 0, 124)) := by decide +kernel
theorem s_X6_tell_61 {ca : Nat → List Value → tM → tO} {M : tM} {L : tL} {b : Nat} {S : List Value} : rn ca C_X6_tell 61 L (.ref b :: S) M = if clsO b = some 6 then rn ca C_X6_tell 64 L (fv M b 1 :: S) M else none := (rn_at k_X6_tell_61).trans rnx_ite
theorem k_X6_tell_64 : lk 64 C_X6_tell = some (.iconst 2, (0, 0, 0, 0)) := by decide +kernel
theorem s_X6_tell_64 {ca : Nat → List Value → tM → tO} {M : tM} {L : tL} {S : List Value} : rn ca C_X6_tell 64 L S M = rn ca C_X6_tell 65 L (.int (iI 2) :: S) M := (rn_at k_X6_tell_64).trans rfl
theorem k_X6_tell_65 : lk 65 C_X6_tell = some (.iaload, (0, 0, 0, 0)) := by decide +kernel
theorem s_X6_tell_65 {ca : Nat → List Value → tM → tO} {M : tM} {L : tL} {a : Nat} {i : Int32} {S : List Value} : rn ca C_X6_tell 65 L (.int i :: .ref a :: S) M = if (akind a = 0 ∨ akind a = 6 ∨ akind a = 7) ∧ inb i (alen M a) then rn ca C_X6_tell 66 L (.int (M.1 a i.toInt.toNat) :: S) M else none := (rn_at k_X6_tell_65).trans rnx_ite
theorem k_X6_tell_66 : lk 66 C_X6_tell = some (.aload_n 0, (0, 0, 0, 0)) := by decide +kernel
theorem s_X6_tell_66 {ca : Nat → List Value → tM → tO} {M : tM} {a1 a2 : Option Value} {x : Nat} {S : List Value} : rn ca C_X6_tell 66 [some (.ref x), a1, a2] S M = rn ca C_X6_tell 67 [some (.ref x), a1, a2] (.ref x :: S) M := (rn_at k_X6_tell_66).trans rfl
theorem k_X6_tell_67 : lk 67 C_X6_tell = some (.getfield 15, (6, 1, 0, 124)) := by decide +kernel
theorem s_X6_tell_67 {ca : Nat → List Value → tM → tO} {M : tM} {L : tL} {b : Nat} {S : List Value} : rn ca C_X6_tell 67 L (.ref b :: S) M = if clsO b = some 6 then rn ca C_X6_tell 70 L (fv M b 1 :: S) M else none := (rn_at k_X6_tell_67).trans rnx_ite
theorem k_X6_tell_70 : lk 70 C_X6_tell = some (.iconst 3, (0, 0, 0, 0)) := by decide +kernel
theorem s_X6_tell_70 {ca : Nat → List Value → tM → tO} {M : tM} {L : tL} {S : List Value} : rn ca C_X6_tell 70 L S M = rn ca C_X6_tell 71 L (.int (iI 3) :: S) M := (rn_at k_X6_tell_70).trans rfl
theorem k_X6_tell_71 : lk 71 C_X6_tell = some (.iaload, (0, 0, 0, 0)) := by decide +kernel
theorem s_X6_tell_71 {ca : Nat → List Value → tM → tO} {M : tM} {L : tL} {a : Nat} {i : Int32} {S : List Value} : rn ca C_X6_tell 71 L (.int i :: .ref a :: S) M = if (akind a = 0 ∨ akind a = 6 ∨ akind a = 7) ∧ inb i (alen M a) then rn ca C_X6_tell 72 L (.int (M.1 a i.toInt.toNat) :: S) M else none := (rn_at k_X6_tell_71).trans rnx_ite
theorem k_X6_tell_72 : lk 72 C_X6_tell = some (.invokevirtual 142, (25, 4, 4, 607)) := by decide +kernel
theorem s_X6_tell_72 {ca : Nat → List Value → tM → tO} {M : tM} {L : tL} {v1 v2 v3 v4 : Value} {b : Nat} : rn ca C_X6_tell 72 L [v4, v3, v2, v1, .ref b] M = if clsO b = some 4 then rnk ca C_X6_tell 75 L [] (ca m_X4_addTube [.ref b, v1, v2, v3, v4] M) else none := (rn_at k_X6_tell_72).trans rnx_ite
theorem k_X6_tell_75 : lk 75 C_X6_tell = some (.goto 67, (142, 0, 0, 0)) := by decide +kernel
theorem s_X6_tell_75 {ca : Nat → List Value → tM → tO} {M : tM} {L : tL} {S : List Value} : rn ca C_X6_tell 75 L S M = rn ca C_X6_tell 142 L S M := (rn_at k_X6_tell_75).trans rfl
theorem k_X6_tell_78 : lk 78 C_X6_tell = some (.aload_n 2, (0, 0, 0, 0)) := by decide +kernel
theorem s_X6_tell_78 {ca : Nat → List Value → tM → tO} {M : tM} {a0 a1 : Option Value} {x : Nat} {S : List Value} : rn ca C_X6_tell 78 [a0, a1, some (.ref x)] S M = rn ca C_X6_tell 79 [a0, a1, some (.ref x)] (.ref x :: S) M := (rn_at k_X6_tell_78).trans rfl
theorem k_X6_tell_79 : lk 79 C_X6_tell = some (.aload_n 0, (0, 0, 0, 0)) := by decide +kernel
theorem s_X6_tell_79 {ca : Nat → List Value → tM → tO} {M : tM} {a1 a2 : Option Value} {x : Nat} {S : List Value} : rn ca C_X6_tell 79 [some (.ref x), a1, a2] S M = rn ca C_X6_tell 80 [some (.ref x), a1, a2] (.ref x :: S) M := (rn_at k_X6_tell_79).trans rfl
theorem k_X6_tell_80 : lk 80 C_X6_tell = some (.getfield 15, (6, 1, 0, 124)) := by decide +kernel
theorem s_X6_tell_80 {ca : Nat → List Value → tM → tO} {M : tM} {L : tL} {b : Nat} {S : List Value} : rn ca C_X6_tell 80 L (.ref b :: S) M = if clsO b = some 6 then rn ca C_X6_tell 83 L (fv M b 1 :: S) M else none := (rn_at k_X6_tell_80).trans rnx_ite
theorem k_X6_tell_83 : lk 83 C_X6_tell = some (.iconst 0, (0, 0, 0, 0)) := by decide +kernel
theorem s_X6_tell_83 {ca : Nat → List Value → tM → tO} {M : tM} {L : tL} {S : List Value} : rn ca C_X6_tell 83 L S M = rn ca C_X6_tell 84 L (.int (iI 0) :: S) M := (rn_at k_X6_tell_83).trans rfl
theorem k_X6_tell_84 : lk 84 C_X6_tell = some (.iaload, (0, 0, 0, 0)) := by decide +kernel
theorem s_X6_tell_84 {ca : Nat → List Value → tM → tO} {M : tM} {L : tL} {a : Nat} {i : Int32} {S : List Value} : rn ca C_X6_tell 84 L (.int i :: .ref a :: S) M = if (akind a = 0 ∨ akind a = 6 ∨ akind a = 7) ∧ inb i (alen M a) then rn ca C_X6_tell 85 L (.int (M.1 a i.toInt.toNat) :: S) M else none := (rn_at k_X6_tell_84).trans rnx_ite
theorem k_X6_tell_85 : lk 85 C_X6_tell = some (.aload_n 0, (0, 0, 0, 0)) := by decide +kernel
theorem s_X6_tell_85 {ca : Nat → List Value → tM → tO} {M : tM} {a1 a2 : Option Value} {x : Nat} {S : List Value} : rn ca C_X6_tell 85 [some (.ref x), a1, a2] S M = rn ca C_X6_tell 86 [some (.ref x), a1, a2] (.ref x :: S) M := (rn_at k_X6_tell_85).trans rfl
theorem k_X6_tell_86 : lk 86 C_X6_tell = some (.getfield 15, (6, 1, 0, 124)) := by decide +kernel
theorem s_X6_tell_86 {ca : Nat → List Value → tM → tO} {M : tM} {L : tL} {b : Nat} {S : List Value} : rn ca C_X6_tell 86 L (.ref b :: S) M = if clsO b = some 6 then rn ca C_X6_tell 89 L (fv M b 1 :: S) M else none := (rn_at k_X6_tell_86).trans rnx_ite
theorem k_X6_tell_89 : lk 89 C_X6_tell = some (.iconst 1, (0, 0, 0, 0)) := by decide +kernel
theorem s_X6_tell_89 {ca : Nat → List Value → tM → tO} {M : tM} {L : tL} {S : List Value} : rn ca C_X6_tell 89 L S M = rn ca C_X6_tell 90 L (.int (iI 1) :: S) M := (rn_at k_X6_tell_89).trans rfl
theorem k_X6_tell_90 : lk 90 C_X6_tell = some (.iaload, (0, 0, 0, 0)) := by decide +kernel
theorem s_X6_tell_90 {ca : Nat → List Value → tM → tO} {M : tM} {L : tL} {a : Nat} {i : Int32} {S : List Value} : rn ca C_X6_tell 90 L (.int i :: .ref a :: S) M = if (akind a = 0 ∨ akind a = 6 ∨ akind a = 7) ∧ inb i (alen M a) then rn ca C_X6_tell 91 L (.int (M.1 a i.toInt.toNat) :: S) M else none := (rn_at k_X6_tell_90).trans rnx_ite
theorem k_X6_tell_91 : lk 91 C_X6_tell = some (.aload_n 0, (0, 0, 0, 0)) := by decide +kernel
theorem s_X6_tell_91 {ca : Nat → List Value → tM → tO} {M : tM} {a1 a2 : Option Value} {x : Nat} {S : List Value} : rn ca C_X6_tell 91 [some (.ref x), a1, a2] S M = rn ca C_X6_tell 92 [some (.ref x), a1, a2] (.ref x :: S) M := (rn_at k_X6_tell_91).trans rfl
theorem k_X6_tell_92 : lk 92 C_X6_tell = some (.getfield 15, (6, 1, 0, 124)) := by decide +kernel
theorem s_X6_tell_92 {ca : Nat → List Value → tM → tO} {M : tM} {L : tL} {b : Nat} {S : List Value} : rn ca C_X6_tell 92 L (.ref b :: S) M = if clsO b = some 6 then rn ca C_X6_tell 95 L (fv M b 1 :: S) M else none := (rn_at k_X6_tell_92).trans rnx_ite
theorem k_X6_tell_95 : lk 95 C_X6_tell = some (.iconst 2, (0, 0, 0, 0)) := by decide +kernel
theorem s_X6_tell_95 {ca : Nat → List Value → tM → tO} {M : tM} {L : tL} {S : List Value} : rn ca C_X6_tell 95 L S M = rn ca C_X6_tell 96 L (.int (iI 2) :: S) M := (rn_at k_X6_tell_95).trans rfl
theorem k_X6_tell_96 : lk 96 C_X6_tell = some (.iaload, (0, 0, 0, 0)) := by decide +kernel
theorem s_X6_tell_96 {ca : Nat → List Value → tM → tO} {M : tM} {L : tL} {a : Nat} {i : Int32} {S : List Value} : rn ca C_X6_tell 96 L (.int i :: .ref a :: S) M = if (akind a = 0 ∨ akind a = 6 ∨ akind a = 7) ∧ inb i (alen M a) then rn ca C_X6_tell 97 L (.int (M.1 a i.toInt.toNat) :: S) M else none := (rn_at k_X6_tell_96).trans rnx_ite
theorem k_X6_tell_97 : lk 97 C_X6_tell = some (.aload_n 0, (0, 0, 0, 0)) := by decide +kernel
theorem s_X6_tell_97 {ca : Nat → List Value → tM → tO} {M : tM} {a1 a2 : Option Value} {x : Nat} {S : List Value} : rn ca C_X6_tell 97 [some (.ref x), a1, a2] S M = rn ca C_X6_tell 98 [some (.ref x), a1, a2] (.ref x :: S) M := (rn_at k_X6_tell_97).trans rfl
theorem k_X6_tell_98 : lk 98 C_X6_tell = some (.getfield 15, (6, 1, 0, 124)) := by decide +kernel
theorem s_X6_tell_98 {ca : Nat → List Value → tM → tO} {M : tM} {L : tL} {b : Nat} {S : List Value} : rn ca C_X6_tell 98 L (.ref b :: S) M = if clsO b = some 6 then rn ca C_X6_tell 101 L (fv M b 1 :: S) M else none := (rn_at k_X6_tell_98).trans rnx_ite
theorem k_X6_tell_101 : lk 101 C_X6_tell = some (.iconst 3, (0, 0, 0, 0)) := by decide +kernel
theorem s_X6_tell_101 {ca : Nat → List Value → tM → tO} {M : tM} {L : tL} {S : List Value} : rn ca C_X6_tell 101 L S M = rn ca C_X6_tell 102 L (.int (iI 3) :: S) M := (rn_at k_X6_tell_101).trans rfl
theorem k_X6_tell_102 : lk 102 C_X6_tell = some (.iaload, (0, 0, 0, 0)) := by decide +kernel
theorem s_X6_tell_102 {ca : Nat → List Value → tM → tO} {M : tM} {L : tL} {a : Nat} {i : Int32} {S : List Value} : rn ca C_X6_tell 102 L (.int i :: .ref a :: S) M = if (akind a = 0 ∨ akind a = 6 ∨ akind a = 7) ∧ inb i (alen M a) then rn ca C_X6_tell 103 L (.int (M.1 a i.toInt.toNat) :: S) M else none := (rn_at k_X6_tell_102).trans rnx_ite
theorem k_X6_tell_103 : lk 103 C_X6_tell = some (.invokevirtual 146, (26, 4, 4, 608)) := by decide +kernel
theorem s_X6_tell_103 {ca : Nat → List Value → tM → tO} {M : tM} {L : tL} {v1 v2 v3 v4 : Value} {b : Nat} : rn ca C_X6_tell 103 L [v4, v3, v2, v1, .ref b] M = if clsO b = some 4 then rnk ca C_X6_tell 106 L [] (ca m_X4_addCapsule [.ref b, v1, v2, v3, v4] M) else none := (rn_at k_X6_tell_103).trans rnx_ite
theorem k_X6_tell_106 : lk 106 C_X6_tell = some (.goto 36, (142, 0, 0, 0)) := by decide +kernel
theorem s_X6_tell_106 {ca : Nat → List Value → tM → tO} {M : tM} {L : tL} {S : List Value} : rn ca C_X6_tell 106 L S M = rn ca C_X6_tell 142 L S M := (rn_at k_X6_tell_106).trans rfl
theorem k_X6_tell_109 : lk 109 C_X6_tell = some (.aload_n 2, (0, 0, 0, 0)) := by decide +kernel
theorem s_X6_tell_109 {ca : Nat → List Value → tM → tO} {M : tM} {a0 a1 : Option Value} {x : Nat} {S : List Value} : rn ca C_X6_tell 109 [a0, a1, some (.ref x)] S M = rn ca C_X6_tell 110 [a0, a1, some (.ref x)] (.ref x :: S) M := (rn_at k_X6_tell_109).trans rfl
theorem k_X6_tell_110 : lk 110 C_X6_tell = some (.aload_n 0, (0, 0, 0, 0)) := by decide +kernel
theorem s_X6_tell_110 {ca : Nat → List Value → tM → tO} {M : tM} {a1 a2 : Option Value} {x : Nat} {S : List Value} : rn ca C_X6_tell 110 [some (.ref x), a1, a2] S M = rn ca C_X6_tell 111 [some (.ref x), a1, a2] (.ref x :: S) M := (rn_at k_X6_tell_110).trans rfl
theorem k_X6_tell_111 : lk 111 C_X6_tell = some (.getfield 15, (6, 1, 0, 124)) := by decide +kernel
theorem s_X6_tell_111 {ca : Nat → List Value → tM → tO} {M : tM} {L : tL} {b : Nat} {S : List Value} : rn ca C_X6_tell 111 L (.ref b :: S) M = if clsO b = some 6 then rn ca C_X6_tell 114 L (fv M b 1 :: S) M else none := (rn_at k_X6_tell_111).trans rnx_ite
theorem k_X6_tell_114 : lk 114 C_X6_tell = some (.iconst 0, (0, 0, 0, 0)) := by decide +kernel
theorem s_X6_tell_114 {ca : Nat → List Value → tM → tO} {M : tM} {L : tL} {S : List Value} : rn ca C_X6_tell 114 L S M = rn ca C_X6_tell 115 L (.int (iI 0) :: S) M := (rn_at k_X6_tell_114).trans rfl
theorem k_X6_tell_115 : lk 115 C_X6_tell = some (.iaload, (0, 0, 0, 0)) := by decide +kernel
theorem s_X6_tell_115 {ca : Nat → List Value → tM → tO} {M : tM} {L : tL} {a : Nat} {i : Int32} {S : List Value} : rn ca C_X6_tell 115 L (.int i :: .ref a :: S) M = if (akind a = 0 ∨ akind a = 6 ∨ akind a = 7) ∧ inb i (alen M a) then rn ca C_X6_tell 116 L (.int (M.1 a i.toInt.toNat) :: S) M else none := (rn_at k_X6_tell_115).trans rnx_ite
theorem k_X6_tell_116 : lk 116 C_X6_tell = some (.putfield 149, (4, 13, 0, 100035)) := by decide +kernel
theorem s_X6_tell_116 {ca : Nat → List Value → tM → tO} {M : tM} {L : tL} {b : Nat} {v : Int32} {S : List Value} : rn ca C_X6_tell 116 L (.int v :: .ref b :: S) M = if clsO b = some 4 then rn ca C_X6_tell 119 L S (sI M b 13 v) else none := (rn_at k_X6_tell_116).trans rnx_ite
theorem k_X6_tell_119 : lk 119 C_X6_tell = some (.goto 23, (142, 0, 0, 0)) := by decide +kernel
theorem s_X6_tell_119 {ca : Nat → List Value → tM → tO} {M : tM} {L : tL} {S : List Value} : rn ca C_X6_tell 119 L S M = rn ca C_X6_tell 142 L S M := (rn_at k_X6_tell_119).trans rfl
theorem k_X6_tell_122 : lk 122 C_X6_tell = some (.aload_n 2, (0, 0, 0, 0)) := by decide +kernel
theorem s_X6_tell_122 {ca : Nat → List Value → tM → tO} {M : tM} {a0 a1 : Option Value} {x : Nat} {S : List Value} : rn ca C_X6_tell 122 [a0, a1, some (.ref x)] S M = rn ca C_X6_tell 123 [a0, a1, some (.ref x)] (.ref x :: S) M := (rn_at k_X6_tell_122).trans rfl
theorem k_X6_tell_123 : lk 123 C_X6_tell = some (.aload_n 0, (0, 0, 0, 0)) := by decide +kernel
theorem s_X6_tell_123 {ca : Nat → List Value → tM → tO} {M : tM} {a1 a2 : Option Value} {x : Nat} {S : List Value} : rn ca C_X6_tell 123 [some (.ref x), a1, a2] S M = rn ca C_X6_tell 124 [some (.ref x), a1, a2] (.ref x :: S) M := (rn_at k_X6_tell_123).trans rfl
theorem k_X6_tell_124 : lk 124 C_X6_tell = some (.getfield 15, (6, 1, 0, 124)) := by decide +kernel
theorem s_X6_tell_124 {ca : Nat → List Value → tM → tO} {M : tM} {L : tL} {b : Nat} {S : List Value} : rn ca C_X6_tell 124 L (.ref b :: S) M = if clsO b = some 6 then rn ca C_X6_tell 127 L (fv M b 1 :: S) M else none := (rn_at k_X6_tell_124).trans rnx_ite
theorem k_X6_tell_127 : lk 127 C_X6_tell = some (.iconst 0, (0, 0, 0, 0)) := by decide +kernel
theorem s_X6_tell_127 {ca : Nat → List Value → tM → tO} {M : tM} {L : tL} {S : List Value} : rn ca C_X6_tell 127 L S M = rn ca C_X6_tell 128 L (.int (iI 0) :: S) M := (rn_at k_X6_tell_127).trans rfl
theorem k_X6_tell_128 : lk 128 C_X6_tell = some (.iaload, (0, 0, 0, 0)) := by decide +kernel
theorem s_X6_tell_128 {ca : Nat → List Value → tM → tO} {M : tM} {L : tL} {a : Nat} {i : Int32} {S : List Value} : rn ca C_X6_tell 128 L (.int i :: .ref a :: S) M = if (akind a = 0 ∨ akind a = 6 ∨ akind a = 7) ∧ inb i (alen M a) then rn ca C_X6_tell 129 L (.int (M.1 a i.toInt.toNat) :: S) M else none := (rn_at k_X6_tell_128).trans rnx_ite
theorem k_X6_tell_129 : lk 129 C_X6_tell = some (.iload_n 1, (0, 0, 0, 0)) := by decide +kernel
theorem s_X6_tell_129 {ca : Nat → List Value → tM → tO} {M : tM} {a0 a2 : Option Value} {x : Int32} {S : List Value} : rn ca C_X6_tell 129 [a0, some (.int x), a2] S M = rn ca C_X6_tell 130 [a0, some (.int x), a2] (.int x :: S) M := (rn_at k_X6_tell_129).trans rfl
theorem k_X6_tell_130 : lk 130 C_X6_tell = some (.iconst 3, (0, 0, 0, 0)) := by decide +kernel
theorem s_X6_tell_130 {ca : Nat → List Value → tM → tO} {M : tM} {L : tL} {S : List Value} : rn ca C_X6_tell 130 L S M = rn ca C_X6_tell 131 L (.int (iI 3) :: S) M := (rn_at k_X6_tell_130).trans rfl
theorem k_X6_tell_131 : lk 131 C_X6_tell = some (.if_icmp .ne 7, (138, 0, 0, 0)) := by decide +kernel
theorem s_X6_tell_131 {ca : Nat → List Value → tM → tO} {M : tM} {L : tL} {x y : Int32} {S : List Value} : rn ca C_X6_tell 131 L (.int y :: .int x :: S) M = if ¬ x = y then rn ca C_X6_tell 138 L S M else rn ca C_X6_tell 134 L S M := (rn_at k_X6_tell_131).trans rnx_ite
theorem k_X6_tell_134 : lk 134 C_X6_tell = some (.iconst 1, (0, 0, 0, 0)) := by decide +kernel
theorem s_X6_tell_134 {ca : Nat → List Value → tM → tO} {M : tM} {L : tL} {S : List Value} : rn ca C_X6_tell 134 L S M = rn ca C_X6_tell 135 L (.int (iI 1) :: S) M := (rn_at k_X6_tell_134).trans rfl
theorem k_X6_tell_135 : lk 135 C_X6_tell = some (.goto 4, (139, 0, 0, 0)) := by decide +kernel
theorem s_X6_tell_135 {ca : Nat → List Value → tM → tO} {M : tM} {L : tL} {S : List Value} : rn ca C_X6_tell 135 L S M = rn ca C_X6_tell 139 L S M := (rn_at k_X6_tell_135).trans rfl
theorem k_X6_tell_138 : lk 138 C_X6_tell = some (.iconst 0, (0, 0, 0, 0)) := by decide +kernel
theorem s_X6_tell_138 {ca : Nat → List Value → tM → tO} {M : tM} {L : tL} {S : List Value} : rn ca C_X6_tell 138 L S M = rn ca C_X6_tell 139 L (.int (iI 0) :: S) M := (rn_at k_X6_tell_138).trans rfl
theorem k_X6_tell_139 : lk 139 C_X6_tell = some (.invokevirtual 151, (28, 2, 4, 609)) := by decide +kernel
theorem s_X6_tell_139 {ca : Nat → List Value → tM → tO} {M : tM} {L : tL} {v1 v2 : Value} {b : Nat} : rn ca C_X6_tell 139 L [v2, v1, .ref b] M = if clsO b = some 4 then rnk ca C_X6_tell 142 L [] (ca m_X4_putShut [.ref b, v1, v2] M) else none := (rn_at k_X6_tell_139).trans rnx_ite
theorem k_X6_tell_142 : lk 142 C_X6_tell = some (.return_, (0, 0, 0, 0)) := by decide +kernel
theorem s_X6_tell_142 {ca : Nat → List Value → tM → tO} {M : tM} {L : tL} : rn ca C_X6_tell 142 L [] M = some (none, M) := (rn_at k_X6_tell_142).trans rfl
theorem k_X7_leastMinutes_0 : lk 0 C_X7_leastMinutes = some (.iconst 0, (0, 0, 0, 0)) := by decide +kernel
theorem s_X7_leastMinutes_0 {ca : Nat → List Value → tM → tO} {M : tM} {L : tL} {S : List Value} : rn ca C_X7_leastMinutes 0 L S M = rn ca C_X7_leastMinutes 1 L (.int (iI 0) :: S) M := (rn_at k_X7_leastMinutes_0).trans rfl
theorem k_X7_leastMinutes_1 : lk 1 C_X7_leastMinutes = some (.istore 5, (0, 0, 0, 0)) := by decide +kernel
theorem s_X7_leastMinutes_1 {ca : Nat → List Value → tM → tO} {M : tM} {a0 a1 a2 a3 a4 a5 a6 : Option Value} {x : Int32} {S : List Value} : rn ca C_X7_leastMinutes 1 [a0, a1, a2, a3, a4, a5, a6] (.int x :: S) M = rn ca C_X7_leastMinutes 3 [a0, a1, a2, a3, a4, some (.int x), a6] S M := (rn_at k_X7_leastMinutes_1).trans rfl
theorem k_X7_leastMinutes_3 : lk 3 C_X7_leastMinutes = some (.iload 5, (0, 0, 0, 0)) := by decide +kernel
theorem s_X7_leastMinutes_3 {ca : Nat → List Value → tM → tO} {M : tM} {a0 a1 a2 a3 a4 a6 : Option Value} {x : Int32} {S : List Value} : rn ca C_X7_leastMinutes 3 [a0, a1, a2, a3, a4, some (.int x), a6] S M = rn ca C_X7_leastMinutes 5 [a0, a1, a2, a3, a4, some (.int x), a6] (.int x :: S) M := (rn_at k_X7_leastMinutes_3).trans rfl
theorem k_X7_leastMinutes_5 : lk 5 C_X7_leastMinutes = some (.iload_n 3, (0, 0, 0, 0)) := by decide +kernel
theorem s_X7_leastMinutes_5 {ca : Nat → List Value → tM → tO} {M : tM} {a0 a1 a2 a4 a5 a6 : Option Value} {x : Int32} {S : List Value} : rn ca C_X7_leastMinutes 5 [a0, a1, a2, some (.int x), a4, a5, a6] S M = rn ca C_X7_leastMinutes 6 [a0, a1, a2, some (.int x), a4, a5, a6] (.int x :: S) M := (rn_at k_X7_leastMinutes_5).trans rfl
theorem k_X7_leastMinutes_6 : lk 6 C_X7_leastMinutes = some (.if_icmp .gt 89, (95, 0, 0, 0)) := by decide +kernel
theorem s_X7_leastMinutes_6 {ca : Nat → List Value → tM → tO} {M : tM} {L : tL} {x y : Int32} {S : List Value} : rn ca C_X7_leastMinutes 6 L (.int y :: .int x :: S) M = if y < x then rn ca C_X7_leastMinutes 95 L S M else rn ca C_X7_leastMinutes 9 L S M := (rn_at k_X7_leastMinutes_6).trans rnx_ite
theorem k_X7_leastMinutes_9 : lk 9 C_X7_leastMinutes = some (.iload 5, (0, 0, 0, 0)) := by decide +kernel
theorem s_X7_leastMinutes_9 {ca : Nat → List Value → tM → tO} {M : tM} {a0 a1 a2 a3 a4 a6 : Option Value} {x : Int32} {S : List Value} : rn ca C_X7_leastMinutes 9 [a0, a1, a2, a3, a4, some (.int x), a6] S M = rn ca C_X7_leastMinutes 11 [a0, a1, a2, a3, a4, some (.int x), a6] (.int x :: S) M := (rn_at k_X7_leastMinutes_9).trans rfl
theorem k_X7_leastMinutes_11 : lk 11 C_X7_leastMinutes = some (.sipush 256, (0, 0, 0, 0)) := by decide +kernel
theorem s_X7_leastMinutes_11 {ca : Nat → List Value → tM → tO} {M : tM} {L : tL} {S : List Value} : rn ca C_X7_leastMinutes 11 L S M = rn ca C_X7_leastMinutes 14 L (.int (iI 256) :: S) M := (rn_at k_X7_leastMinutes_11).trans rfl
theorem k_X7_leastMinutes_14 : lk 14 C_X7_leastMinutes = some (.if_icmp .ge 81, (95, 0, 0, 0)) := by decide +kernel
theorem s_X7_leastMinutes_14 {ca : Nat → List Value → tM → tO} {M : tM} {L : tL} {x y : Int32} {S : List Value} : rn ca C_X7_leastMinutes 14 L (.int y :: .int x :: S) M = if y ≤ x then rn ca C_X7_leastMinutes 95 L S M else rn ca C_X7_leastMinutes 17 L S M := (rn_at k_X7_leastMinutes_14).trans rnx_ite
theorem k_X7_leastMinutes_17 : lk 17 C_X7_leastMinutes = some (.iload 5, (0, 0, 0, 0)) := by decide +kernel
theorem s_X7_leastMinutes_17 {ca : Nat → List Value → tM → tO} {M : tM} {a0 a1 a2 a3 a4 a6 : Option Value} {x : Int32} {S : List Value} : rn ca C_X7_leastMinutes 17 [a0, a1, a2, a3, a4, some (.int x), a6] S M = rn ca C_X7_leastMinutes 19 [a0, a1, a2, a3, a4, some (.int x), a6] (.int x :: S) M := (rn_at k_X7_leastMinutes_17).trans rfl
theorem k_X7_leastMinutes_19 : lk 19 C_X7_leastMinutes = some (.iload_n 3, (0, 0, 0, 0)) := by decide +kernel
theorem s_X7_leastMinutes_19 {ca : Nat → List Value → tM → tO} {M : tM} {a0 a1 a2 a4 a5 a6 : Option Value} {x : Int32} {S : List Value} : rn ca C_X7_leastMinutes 19 [a0, a1, a2, some (.int x), a4, a5, a6] S M = rn ca C_X7_leastMinutes 20 [a0, a1, a2, some (.int x), a4, a5, a6] (.int x :: S) M := (rn_at k_X7_leastMinutes_19).trans rfl
theorem k_X7_leastMinutes_20 : lk 20 C_X7_leastMinutes = some (.iconst (-1), (0, 0, 0, 0)) := by decide +kernel
theorem s_X7_leastMinutes_20 {ca : Nat → List Value → tM → tO} {M : tM} {L : tL} {S : List Value} : rn ca C_X7_leastMinutes 20 L S M = rn ca C_X7_leastMinutes 21 L (.int (iI (-1)) :: S) M := (rn_at k_X7_leastMinutes_20).trans rfl
theorem k_X7_leastMinutes_21 : lk 21 C_X7_leastMinutes = some (.ixor, (0, 0, 0, 0)) := by decide +kernel
theorem s_X7_leastMinutes_21 {ca : Nat → List Value → tM → tO} {M : tM} {L : tL} {x y : Int32} {S : List Value} : rn ca C_X7_leastMinutes 21 L (.int y :: .int x :: S) M = rn ca C_X7_leastMinutes 22 L (.int (x ^^^ y) :: S) M := (rn_at k_X7_leastMinutes_21).trans rfl
theorem k_X7_leastMinutes_22 : lk 22 C_X7_leastMinutes = some (.iand, (0, 0, 0, 0)) := by decide +kernel
theorem s_X7_leastMinutes_22 {ca : Nat → List Value → tM → tO} {M : tM} {L : tL} {x y : Int32} {S : List Value} : rn ca C_X7_leastMinutes 22 L (.int y :: .int x :: S) M = rn ca C_X7_leastMinutes 23 L (.int (x &&& y) :: S) M := (rn_at k_X7_leastMinutes_22).trans rfl
theorem k_X7_leastMinutes_23 : lk 23 C_X7_leastMinutes = some (.ifCond .eq 6, (29, 0, 0, 0)) := by decide +kernel
theorem s_X7_leastMinutes_23 {ca : Nat → List Value → tM → tO} {M : tM} {L : tL} {x : Int32} {S : List Value} : rn ca C_X7_leastMinutes 23 L (.int x :: S) M = if x = iI 0 then rn ca C_X7_leastMinutes 29 L S M else rn ca C_X7_leastMinutes 26 L S M := (rn_at k_X7_leastMinutes_23).trans rnx_ite
theorem k_X7_leastMinutes_26 : lk 26 C_X7_leastMinutes = some (.goto 63, (89, 0, 0, 0)) := by decide +kernel
theorem s_X7_leastMinutes_26 {ca : Nat → List Value → tM → tO} {M : tM} {L : tL} {S : List Value} : rn ca C_X7_leastMinutes 26 L S M = rn ca C_X7_leastMinutes 89 L S M := (rn_at k_X7_leastMinutes_26).trans rfl
theorem k_X7_leastMinutes_29 : lk 29 C_X7_leastMinutes = some (.iconst 0, (0, 0, 0, 0)) := by decide +kernel
theorem s_X7_leastMinutes_29 {ca : Nat → List Value → tM → tO} {M : tM} {L : tL} {S : List Value} : rn ca C_X7_leastMinutes 29 L S M = rn ca C_X7_leastMinutes 30 L (.int (iI 0) :: S) M := (rn_at k_X7_leastMinutes_29).trans rfl
theorem k_X7_leastMinutes_30 : lk 30 C_X7_leastMinutes = some (.istore 6, (0, 0, 0, 0)) := by decide +kernel
theorem s_X7_leastMinutes_30 {ca : Nat → List Value → tM → tO} {M : tM} {a0 a1 a2 a3 a4 a5 a6 : Option Value} {x : Int32} {S : List Value} : rn ca C_X7_leastMinutes 30 [a0, a1, a2, a3, a4, a5, a6] (.int x :: S) M = rn ca C_X7_leastMinutes 32 [a0, a1, a2, a3, a4, a5, some (.int x)] S M := (rn_at k_X7_leastMinutes_30).trans rfl
theorem k_X7_leastMinutes_32 : lk 32 C_X7_leastMinutes = some (.iload 6, (0, 0, 0, 0)) := by decide +kernel
theorem s_X7_leastMinutes_32 {ca : Nat → List Value → tM → tO} {M : tM} {a0 a1 a2 a3 a4 a5 : Option Value} {x : Int32} {S : List Value} : rn ca C_X7_leastMinutes 32 [a0, a1, a2, a3, a4, a5, some (.int x)] S M = rn ca C_X7_leastMinutes 34 [a0, a1, a2, a3, a4, a5, some (.int x)] (.int x :: S) M := (rn_at k_X7_leastMinutes_32).trans rfl
theorem k_X7_leastMinutes_34 : lk 34 C_X7_leastMinutes = some (.bipush 8, (0, 0, 0, 0)) := by decide +kernel
theorem s_X7_leastMinutes_34 {ca : Nat → List Value → tM → tO} {M : tM} {L : tL} {S : List Value} : rn ca C_X7_leastMinutes 34 L S M = rn ca C_X7_leastMinutes 36 L (.int (iI 8) :: S) M := (rn_at k_X7_leastMinutes_34).trans rfl
theorem k_X7_leastMinutes_36 : lk 36 C_X7_leastMinutes = some (.if_icmp .ge 53, (89, 0, 0, 0)) := by decide +kernel
theorem s_X7_leastMinutes_36 {ca : Nat → List Value → tM → tO} {M : tM} {L : tL} {x y : Int32} {S : List Value} : rn ca C_X7_leastMinutes 36 L (.int y :: .int x :: S) M = if y ≤ x then rn ca C_X7_leastMinutes 89 L S M else rn ca C_X7_leastMinutes 39 L S M := (rn_at k_X7_leastMinutes_36).trans rnx_ite
theorem k_X7_leastMinutes_39 : lk 39 C_X7_leastMinutes = some (.iload 6, (0, 0, 0, 0)) := by decide +kernel
theorem s_X7_leastMinutes_39 {ca : Nat → List Value → tM → tO} {M : tM} {a0 a1 a2 a3 a4 a5 : Option Value} {x : Int32} {S : List Value} : rn ca C_X7_leastMinutes 39 [a0, a1, a2, a3, a4, a5, some (.int x)] S M = rn ca C_X7_leastMinutes 41 [a0, a1, a2, a3, a4, a5, some (.int x)] (.int x :: S) M := (rn_at k_X7_leastMinutes_39).trans rfl
theorem k_X7_leastMinutes_41 : lk 41 C_X7_leastMinutes = some (.iload_n 2, (0, 0, 0, 0)) := by decide +kernel
theorem s_X7_leastMinutes_41 {ca : Nat → List Value → tM → tO} {M : tM} {a0 a1 a3 a4 a5 a6 : Option Value} {x : Int32} {S : List Value} : rn ca C_X7_leastMinutes 41 [a0, a1, some (.int x), a3, a4, a5, a6] S M = rn ca C_X7_leastMinutes 42 [a0, a1, some (.int x), a3, a4, a5, a6] (.int x :: S) M := (rn_at k_X7_leastMinutes_41).trans rfl
theorem k_X7_leastMinutes_42 : lk 42 C_X7_leastMinutes = some (.if_icmp .eq 17, (59, 0, 0, 0)) := by decide +kernel
theorem s_X7_leastMinutes_42 {ca : Nat → List Value → tM → tO} {M : tM} {L : tL} {x y : Int32} {S : List Value} : rn ca C_X7_leastMinutes 42 L (.int y :: .int x :: S) M = if x = y then rn ca C_X7_leastMinutes 59 L S M else rn ca C_X7_leastMinutes 45 L S M := (rn_at k_X7_leastMinutes_42).trans rnx_ite
theorem k_X7_leastMinutes_45 : lk 45 C_X7_leastMinutes = some (.iload_n 3, (0, 0, 0, 0)) := by decide +kernel
theorem s_X7_leastMinutes_45 {ca : Nat → List Value → tM → tO} {M : tM} {a0 a1 a2 a4 a5 a6 : Option Value} {x : Int32} {S : List Value} : rn ca C_X7_leastMinutes 45 [a0, a1, a2, some (.int x), a4, a5, a6] S M = rn ca C_X7_leastMinutes 46 [a0, a1, a2, some (.int x), a4, a5, a6] (.int x :: S) M := (rn_at k_X7_leastMinutes_45).trans rfl
theorem k_X7_leastMinutes_46 : lk 46 C_X7_leastMinutes = some (.iload 5, (0, 0, 0, 0)) := by decide +kernel
theorem s_X7_leastMinutes_46 {ca : Nat → List Value → tM → tO} {M : tM} {a0 a1 a2 a3 a4 a6 : Option Value} {x : Int32} {S : List Value} : rn ca C_X7_leastMinutes 46 [a0, a1, a2, a3, a4, some (.int x), a6] S M = rn ca C_X7_leastMinutes 48 [a0, a1, a2, a3, a4, some (.int x), a6] (.int x :: S) M := (rn_at k_X7_leastMinutes_46).trans rfl
theorem k_X7_leastMinutes_48 : lk 48 C_X7_leastMinutes = some (.iconst (-1), (0, 0, 0, 0)) := by decide +kernel
theorem s_X7_leastMinutes_48 {ca : Nat → List Value → tM → tO} {M : tM} {L : tL} {S : List Value} : rn ca C_X7_leastMinutes 48 L S M = rn ca C_X7_leastMinutes 49 L (.int (iI (-1)) :: S) M := (rn_at k_X7_leastMinutes_48).trans rfl
theorem k_X7_leastMinutes_49 : lk 49 C_X7_leastMinutes = some (.ixor, (0, 0, 0, 0)) := by decide +kernel
theorem s_X7_leastMinutes_49 {ca : Nat → List Value → tM → tO} {M : tM} {L : tL} {x y : Int32} {S : List Value} : rn ca C_X7_leastMinutes 49 L (.int y :: .int x :: S) M = rn ca C_X7_leastMinutes 50 L (.int (x ^^^ y) :: S) M := (rn_at k_X7_leastMinutes_49).trans rfl
theorem k_X7_leastMinutes_50 : lk 50 C_X7_leastMinutes = some (.iand, (0, 0, 0, 0)) := by decide +kernel
theorem s_X7_leastMinutes_50 {ca : Nat → List Value → tM → tO} {M : tM} {L : tL} {x y : Int32} {S : List Value} : rn ca C_X7_leastMinutes 50 L (.int y :: .int x :: S) M = rn ca C_X7_leastMinutes 51 L (.int (x &&& y) :: S) M := (rn_at k_X7_leastMinutes_50).trans rfl
theorem k_X7_leastMinutes_51 : lk 51 C_X7_leastMinutes = some (.iconst 1, (0, 0, 0, 0)) := by decide +kernel
theorem s_X7_leastMinutes_51 {ca : Nat → List Value → tM → tO} {M : tM} {L : tL} {S : List Value} : rn ca C_X7_leastMinutes 51 L S M = rn ca C_X7_leastMinutes 52 L (.int (iI 1) :: S) M := (rn_at k_X7_leastMinutes_51).trans rfl
theorem k_X7_leastMinutes_52 : lk 52 C_X7_leastMinutes = some (.iload 6, (0, 0, 0, 0)) := by decide +kernel
theorem s_X7_leastMinutes_52 {ca : Nat → List Value → tM → tO} {M : tM} {a0 a1 a2 a3 a4 a5 : Option Value} {x : Int32} {S : List Value} : rn ca C_X7_leastMinutes 52 [a0, a1, a2, a3, a4, a5, some (.int x)] S M = rn ca C_X7_leastMinutes 54 [a0, a1, a2, a3, a4, a5, some (.int x)] (.int x :: S) M := (rn_at k_X7_leastMinutes_52).trans rfl
theorem k_X7_leastMinutes_54 : lk 54 C_X7_leastMinutes = some (.ishl, (0, 0, 0, 0)) := by decide +kernel
theorem s_X7_leastMinutes_54 {ca : Nat → List Value → tM → tO} {M : tM} {L : tL} {x y : Int32} {S : List Value} : rn ca C_X7_leastMinutes 54 L (.int y :: .int x :: S) M = rn ca C_X7_leastMinutes 55 L (.int (x <<< (y &&& 31)) :: S) M := (rn_at k_X7_leastMinutes_54).trans rfl
theorem k_X7_leastMinutes_55 : lk 55 C_X7_leastMinutes = some (.iand, (0, 0, 0, 0)) := by decide +kernel
theorem s_X7_leastMinutes_55 {ca : Nat → List Value → tM → tO} {M : tM} {L : tL} {x y : Int32} {S : List Value} : rn ca C_X7_leastMinutes 55 L (.int y :: .int x :: S) M = rn ca C_X7_leastMinutes 56 L (.int (x &&& y) :: S) M := (rn_at k_X7_leastMinutes_55).trans rfl
theorem k_X7_leastMinutes_56 : lk 56 C_X7_leastMinutes = some (.ifCond .eq 27, (83, 0, 0, 0)) := by decide +kernel
theorem s_X7_leastMinutes_56 {ca : Nat → List Value → tM → tO} {M : tM} {L : tL} {x : Int32} {S : List Value} : rn ca C_X7_leastMinutes 56 L (.int x :: S) M = if x = iI 0 then rn ca C_X7_leastMinutes 83 L S M else rn ca C_X7_leastMinutes 59 L S M := (rn_at k_X7_leastMinutes_56).trans rnx_ite
theorem k_X7_leastMinutes_59 : lk 59 C_X7_leastMinutes = some (.aload_n 0, (0, 0, 0, 0)) := by decide +kernel
theorem s_X7_leastMinutes_59 {ca : Nat → List Value → tM → tO} {M : tM} {a1 a2 a3 a4 a5 a6 : Option Value} {x : Nat} {S : List Value} : rn ca C_X7_leastMinutes 59 [some (.ref x), a1, a2, a3, a4, a5, a6] S M = rn ca C_X7_leastMinutes 60 [some (.ref x), a1, a2, a3, a4, a5, a6] (.ref x :: S) M := (rn_at k_X7_leastMinutes_59).trans rfl
theorem k_X7_leastMinutes_60 : lk 60 C_X7_leastMinutes = some (.getfield 9, (7, 0, 0, 100)) := by decide +kernel
theorem s_X7_leastMinutes_60 {ca : Nat → List Value → tM → tO} {M : tM} {L : tL} {b : Nat} {S : List Value} : rn ca C_X7_leastMinutes 60 L (.ref b :: S) M = if clsO b = some 7 then rn ca C_X7_leastMinutes 63 L (fv M b 0 :: S) M else none := (rn_at k_X7_leastMinutes_60).trans rnx_ite
theorem k_X7_leastMinutes_63 : lk 63 C_X7_leastMinutes = some (.iload 5, (0, 0, 0, 0)) := by decide +kernel
theorem s_X7_leastMinutes_63 {ca : Nat → List Value → tM → tO} {M : tM} {a0 a1 a2 a3 a4 a6 : Option Value} {x : Int32} {S : List Value} : rn ca C_X7_leastMinutes 63 [a0, a1, a2, a3, a4, some (.int x), a6] S M = rn ca C_X7_leastMinutes 65 [a0, a1, a2, a3, a4, some (.int x), a6] (.int x :: S) M := (rn_at k_X7_leastMinutes_63).trans rfl
theorem k_X7_leastMinutes_65 : lk 65 C_X7_leastMinutes = some (.bipush 8, (0, 0, 0, 0)) := by decide +kernel
theorem s_X7_leastMinutes_65 {ca : Nat → List Value → tM → tO} {M : tM} {L : tL} {S : List Value} : rn ca C_X7_leastMinutes 65 L S M = rn ca C_X7_leastMinutes 67 L (.int (iI 8) :: S) M := (rn_at k_X7_leastMinutes_65).trans rfl
theorem k_X7_leastMinutes_67 : lk 67 C_X7_leastMinutes = some (.imul, (0, 0, 0, 0)) := by decide +kernel
theorem s_X7_leastMinutes_67 {ca : Nat → List Value → tM → tO} {M : tM} {L : tL} {x y : Int32} {S : List Value} : rn ca C_X7_leastMinutes 67 L (.int y :: .int x :: S) M = rn ca C_X7_leastMinutes 68 L (.int (x * y) :: S) M := (rn_at k_X7_leastMinutes_67).trans rfl
theorem k_X7_leastMinutes_68 : lk 68 C_X7_leastMinutes = some (.iload 6, (0, 0, 0, 0)) := by decide +kernel
theorem s_X7_leastMinutes_68 {ca : Nat → List Value → tM → tO} {M : tM} {a0 a1 a2 a3 a4 a5 : Option Value} {x : Int32} {S : List Value} : rn ca C_X7_leastMinutes 68 [a0, a1, a2, a3, a4, a5, some (.int x)] S M = rn ca C_X7_leastMinutes 70 [a0, a1, a2, a3, a4, a5, some (.int x)] (.int x :: S) M := (rn_at k_X7_leastMinutes_68).trans rfl
theorem k_X7_leastMinutes_70 : lk 70 C_X7_leastMinutes = some (.iadd, (0, 0, 0, 0)) := by decide +kernel
theorem s_X7_leastMinutes_70 {ca : Nat → List Value → tM → tO} {M : tM} {L : tL} {x y : Int32} {S : List Value} : rn ca C_X7_leastMinutes 70 L (.int y :: .int x :: S) M = rn ca C_X7_leastMinutes 71 L (.int (x + y) :: S) M := (rn_at k_X7_leastMinutes_70).trans rfl
theorem k_X7_leastMinutes_71 : lk 71 C_X7_leastMinutes = some (.aload_n 0, (0, 0, 0, 0)) := by decide +kernel
theorem s_X7_leastMinutes_71 {ca : Nat → List Value → tM → tO} {M : tM} {a1 a2 a3 a4 a5 a6 : Option Value} {x : Nat} {S : List Value} : rn ca C_X7_leastMinutes 71 [some (.ref x), a1, a2, a3, a4, a5, a6] S M = rn ca C_X7_leastMinutes 72 [some (.ref x), a1, a2, a3, a4, a5, a6] (.ref x :: S) M := (rn_at k_X7_leastMinutes_71).trans rfl
theorem k_X7_leastMinutes_72 : lk 72 C_X7_leastMinutes = some (.aload_n 1, (0, 0, 0, 0)) := by decide +kernel
theorem s_X7_leastMinutes_72 {ca : Nat → List Value → tM → tO} {M : tM} {a0 a2 a3 a4 a5 a6 : Option Value} {x : Nat} {S : List Value} : rn ca C_X7_leastMinutes 72 [a0, some (.ref x), a2, a3, a4, a5, a6] S M = rn ca C_X7_leastMinutes 73 [a0, some (.ref x), a2, a3, a4, a5, a6] (.ref x :: S) M := (rn_at k_X7_leastMinutes_72).trans rfl
theorem k_X7_leastMinutes_73 : lk 73 C_X7_leastMinutes = some (.iload 5, (0, 0, 0, 0)) := by decide +kernel
theorem s_X7_leastMinutes_73 {ca : Nat → List Value → tM → tO} {M : tM} {a0 a1 a2 a3 a4 a6 : Option Value} {x : Int32} {S : List Value} : rn ca C_X7_leastMinutes 73 [a0, a1, a2, a3, a4, some (.int x), a6] S M = rn ca C_X7_leastMinutes 75 [a0, a1, a2, a3, a4, some (.int x), a6] (.int x :: S) M := (rn_at k_X7_leastMinutes_73).trans rfl
theorem k_X7_leastMinutes_75 : lk 75 C_X7_leastMinutes = some (.iload 6, (0, 0, 0, 0)) := by decide +kernel
theorem s_X7_leastMinutes_75 {ca : Nat → List Value → tM → tO} {M : tM} {a0 a1 a2 a3 a4 a5 : Option Value} {x : Int32} {S : List Value} : rn ca C_X7_leastMinutes 75 [a0, a1, a2, a3, a4, a5, some (.int x)] S M = rn ca C_X7_leastMinutes 77 [a0, a1, a2, a3, a4, a5, some (.int x)] (.int x :: S) M := (rn_at k_X7_leastMinutes_75).trans rfl
theorem k_X7_leastMinutes_77 : lk 77 C_X7_leastMinutes = some (.iload 4, (0, 0, 0, 0)) := by decide +kernel
theorem s_X7_leastMinutes_77 {ca : Nat → List Value → tM → tO} {M : tM} {a0 a1 a2 a3 a5 a6 : Option Value} {x : Int32} {S : List Value} : rn ca C_X7_leastMinutes 77 [a0, a1, a2, a3, some (.int x), a5, a6] S M = rn ca C_X7_leastMinutes 79 [a0, a1, a2, a3, some (.int x), a5, a6] (.int x :: S) M := (rn_at k_X7_leastMinutes_77).trans rfl
theorem k_X7_leastMinutes_79 : lk 79 C_X7_leastMinutes = some (.invokevirtual 15, (61, 4, 7, 833)) := by decide +kernel
theorem s_X7_leastMinutes_79 {ca : Nat → List Value → tM → tO} {M : tM} {L : tL} {v1 v2 v3 v4 : Value} {r0 : Int32} {r1 : Nat} {b : Nat} : rn ca C_X7_leastMinutes 79 L [v4, v3, v2, v1, .ref b, .int r0, .ref r1] M = if clsO b = some 7 then rnk ca C_X7_leastMinutes 82 L [.int r0, .ref r1] (ca m_X7_leastFrom [.ref b, v1, v2, v3, v4] M) else none := (rn_at k_X7_leastMinutes_79).trans rnx_ite
theorem k_X7_leastMinutes_82 : lk 82 C_X7_leastMinutes = some (.iastore, (0, 0, 0, 0)) := by decide +kernel
theorem s_X7_leastMinutes_82 {ca : Nat → List Value → tM → tO} {M : tM} {L : tL} {a : Nat} {i x : Int32} {S : List Value} : rn ca C_X7_leastMinutes 82 L (.int x :: .int i :: .ref a :: S) M = if akind a = 0 ∧ inb i (alen M a) then rn ca C_X7_leastMinutes 83 L S (sI M a i.toInt.toNat x) else none := (rn_at k_X7_leastMinutes_82).trans rnx_ite
theorem k_X7_leastMinutes_83 : lk 83 C_X7_leastMinutes = some (.iinc 6 1, (0, 0, 0, 0)) := by decide +kernel
theorem s_X7_leastMinutes_83 {ca : Nat → List Value → tM → tO} {M : tM} {a0 a1 a2 a3 a4 a5 : Option Value} {x : Int32} {S : List Value} : rn ca C_X7_leastMinutes 83 [a0, a1, a2, a3, a4, a5, some (.int x)] S M = rn ca C_X7_leastMinutes 86 [a0, a1, a2, a3, a4, a5, some (.int (x + iI 1))] S M := (rn_at k_X7_leastMinutes_83).trans rfl
theorem k_X7_leastMinutes_86 : lk 86 C_X7_leastMinutes = some (.goto (-54), (32, 0, 0, 0)) := by decide +kernel
theorem s_X7_leastMinutes_86 {ca : Nat → List Value → tM → tO} {M : tM} {L : tL} {S : List Value} : rn ca C_X7_leastMinutes 86 L S M = rn ca C_X7_leastMinutes 32 L S M := (rn_at k_X7_leastMinutes_86).trans rfl
theorem k_X7_leastMinutes_89 : lk 89 C_X7_leastMinutes = some (.iinc 5 1, (0, 0, 0, 0)) := by decide +kernel
theorem s_X7_leastMinutes_89 {ca : Nat → List Value → tM → tO} {M : tM} {a0 a1 a2 a3 a4 a6 : Option Value} {x : Int32} {S : List Value} : rn ca C_X7_leastMinutes 89 [a0, a1, a2, a3, a4, some (.int x), a6] S M = rn ca C_X7_leastMinutes 92 [a0, a1, a2, a3, a4, some (.int (x + iI 1)), a6] S M := (rn_at k_X7_leastMinutes_89).trans rfl
theorem k_X7_leastMinutes_92 : lk 92 C_X7_leastMinutes = some (.goto (-89), (3, 0, 0, 0)) := by decide +kernel
theorem s_X7_leastMinutes_92 {ca : Nat → List Value → tM → tO} {M : tM} {L : tL} {S : List Value} : rn ca C_X7_leastMinutes 92 L S M = rn ca C_X7_leastMinutes 3 L S M := (rn_at k_X7_leastMinutes_92).trans rfl
theorem k_X7_leastMinutes_95 : lk 95 C_X7_leastMinutes = some (.aload_n 0, (0, 0, 0, 0)) := by decide +kernel
theorem s_X7_leastMinutes_95 {ca : Nat → List Value → tM → tO} {M : tM} {a1 a2 a3 a4 a5 a6 : Option Value} {x : Nat} {S : List Value} : rn ca C_X7_leastMinutes 95 [some (.ref x), a1, a2, a3, a4, a5, a6] S M = rn ca C_X7_leastMinutes 96 [some (.ref x), a1, a2, a3, a4, a5, a6] (.ref x :: S) M := (rn_at k_X7_leastMinutes_95).trans rfl
theorem k_X7_leastMinutes_96 : lk 96 C_X7_leastMinutes = some (.iload_n 3, (0, 0, 0, 0)) := by decide +kernel
theorem s_X7_leastMinutes_96 {ca : Nat → List Value → tM → tO} {M : tM} {a0 a1 a2 a4 a5 a6 : Option Value} {x : Int32} {S : List Value} : rn ca C_X7_leastMinutes 96 [a0, a1, a2, some (.int x), a4, a5, a6] S M = rn ca C_X7_leastMinutes 97 [a0, a1, a2, some (.int x), a4, a5, a6] (.int x :: S) M := (rn_at k_X7_leastMinutes_96).trans rfl
theorem k_X7_leastMinutes_97 : lk 97 C_X7_leastMinutes = some (.iload_n 2, (0, 0, 0, 0)) := by decide +kernel
theorem s_X7_leastMinutes_97 {ca : Nat → List Value → tM → tO} {M : tM} {a0 a1 a3 a4 a5 a6 : Option Value} {x : Int32} {S : List Value} : rn ca C_X7_leastMinutes 97 [a0, a1, some (.int x), a3, a4, a5, a6] S M = rn ca C_X7_leastMinutes 98 [a0, a1, some (.int x), a3, a4, a5, a6] (.int x :: S) M := (rn_at k_X7_leastMinutes_97).trans rfl
theorem k_X7_leastMinutes_98 : lk 98 C_X7_leastMinutes = some (.invokevirtual 19, (60, 2, 7, 843)) := by decide +kernel
theorem s_X7_leastMinutes_98 {ca : Nat → List Value → tM → tO} {M : tM} {L : tL} {v1 v2 : Value} {b : Nat} : rn ca C_X7_leastMinutes 98 L [v2, v1, .ref b] M = if clsO b = some 7 then rnk ca C_X7_leastMinutes 101 L [] (ca m_X7_bestOf [.ref b, v1, v2] M) else none := (rn_at k_X7_leastMinutes_98).trans rnx_ite
theorem k_X7_leastMinutes_101 : lk 101 C_X7_leastMinutes = some (.ireturn, (0, 0, 0, 0)) := by decide +kernel
theorem s_X7_leastMinutes_101 {ca : Nat → List Value → tM → tO} {M : tM} {L : tL} {x : Int32} : rn ca C_X7_leastMinutes 101 L [.int x] M = some (some (.int x), M) := (rn_at k_X7_leastMinutes_101).trans rfl
theorem k_X7_bestOf_0 : lk 0 C_X7_bestOf = some (.iload_n 1, (0, 0, 0, 0)) := by decide +kernel
theorem s_X7_bestOf_0 {ca : Nat → List Value → tM → tO} {M : tM} {a0 a2 a3 : Option Value} {x : Int32} {S : List Value} : rn ca C_X7_bestOf 0 [a0, some (.int x), a2, a3] S M = rn ca C_X7_bestOf 1 [a0, some (.int x), a2, a3] (.int x :: S) M := (rn_at k_X7_bestOf_0).trans rfl
theorem k_X7_bestOf_1 : lk 1 C_X7_bestOf = some (.bipush 8, (0, 0, 0, 0)) := by decide +kernel
theorem s_X7_bestOf_1 {ca : Nat → List Value → tM → tO} {M : tM} {L : tL} {S : List Value} : rn ca C_X7_bestOf 1 L S M = rn ca C_X7_bestOf 3 L (.int (iI 8) :: S) M := (rn_at k_X7_bestOf_1).trans rfl
theorem k_X7_bestOf_3 : lk 3 C_X7_bestOf = some (.imul, (0, 0, 0, 0)) := by decide +kernel
theorem s_X7_bestOf_3 {ca : Nat → List Value → tM → tO} {M : tM} {L : tL} {x y : Int32} {S : List Value} : rn ca C_X7_bestOf 3 L (.int y :: .int x :: S) M = rn ca C_X7_bestOf 4 L (.int (x * y) :: S) M := (rn_at k_X7_bestOf_3).trans rfl
theorem k_X7_bestOf_4 : lk 4 C_X7_bestOf = some (.iload_n 2, (0, 0, 0, 0)) := by decide +kernel
theorem s_X7_bestOf_4 {ca : Nat → List Value → tM → tO} {M : tM} {a0 a1 a3 : Option Value} {x : Int32} {S : List Value} : rn ca C_X7_bestOf 4 [a0, a1, some (.int x), a3] S M = rn ca C_X7_bestOf 5 [a0, a1, some (.int x), a3] (.int x :: S) M := (rn_at k_X7_bestOf_4).trans rfl
theorem k_X7_bestOf_5 : lk 5 C_X7_bestOf = some (.iadd, (0, 0, 0, 0)) := by decide +kernel
theorem s_X7_bestOf_5 {ca : Nat → List Value → tM → tO} {M : tM} {L : tL} {x y : Int32} {S : List Value} : rn ca C_X7_bestOf 5 L (.int y :: .int x :: S) M = rn ca C_X7_bestOf 6 L (.int (x + y) :: S) M := (rn_at k_X7_bestOf_5).trans rfl
theorem k_X7_bestOf_6 : lk 6 C_X7_bestOf = some (.istore_n 3, (0, 0, 0, 0)) := by decide +kernel
theorem s_X7_bestOf_6 {ca : Nat → List Value → tM → tO} {M : tM} {a0 a1 a2 a3 : Option Value} {x : Int32} {S : List Value} : rn ca C_X7_bestOf 6 [a0, a1, a2, a3] (.int x :: S) M = rn ca C_X7_bestOf 7 [a0, a1, a2, some (.int x)] S M := (rn_at k_X7_bestOf_6).trans rfl
theorem k_X7_bestOf_7 : lk 7 C_X7_bestOf = some (.iload_n 3, (0, 0, 0, 0)) := by decide +kernel
theorem s_X7_bestOf_7 {ca : Nat → List Value → tM → tO} {M : tM} {a0 a1 a2 : Option Value} {x : Int32} {S : List Value} : rn ca C_X7_bestOf 7 [a0, a1, a2, some (.int x)] S M = rn ca C_X7_bestOf 8 [a0, a1, a2, some (.int x)] (.int x :: S) M := (rn_at k_X7_bestOf_7).trans rfl
theorem k_X7_bestOf_8 : lk 8 C_X7_bestOf = some (.ifCond .lt 21, (29, 0, 0, 0)) := by decide +kernel
theorem s_X7_bestOf_8 {ca : Nat → List Value → tM → tO} {M : tM} {L : tL} {x : Int32} {S : List Value} : rn ca C_X7_bestOf 8 L (.int x :: S) M = if x < iI 0 then rn ca C_X7_bestOf 29 L S M else rn ca C_X7_bestOf 11 L S M := (rn_at k_X7_bestOf_8).trans rnx_ite
theorem k_X7_bestOf_11 : lk 11 C_X7_bestOf = some (.iload_n 3, (0, 0, 0, 0)) := by decide +kernel
theorem s_X7_bestOf_11 {ca : Nat → List Value → tM → tO} {M : tM} {a0 a1 a2 : Option Value} {x : Int32} {S : List Value} : rn ca C_X7_bestOf 11 [a0, a1, a2, some (.int x)] S M = rn ca C_X7_bestOf 12 [a0, a1, a2, some (.int x)] (.int x :: S) M := (rn_at k_X7_bestOf_11).trans rfl
theorem k_X7_bestOf_12 : lk 12 C_X7_bestOf = some (.aload_n 0, (0, 0, 0, 0)) := by decide +kernel
theorem s_X7_bestOf_12 {ca : Nat → List Value → tM → tO} {M : tM} {a1 a2 a3 : Option Value} {x : Nat} {S : List Value} : rn ca C_X7_bestOf 12 [some (.ref x), a1, a2, a3] S M = rn ca C_X7_bestOf 13 [some (.ref x), a1, a2, a3] (.ref x :: S) M := (rn_at k_X7_bestOf_12).trans rfl
theorem k_X7_bestOf_13 : lk 13 C_X7_bestOf = some (.getfield 9, (7, 0, 0, 100)) := by decide +kernel
theorem s_X7_bestOf_13 {ca : Nat → List Value → tM → tO} {M : tM} {L : tL} {b : Nat} {S : List Value} : rn ca C_X7_bestOf 13 L (.ref b :: S) M = if clsO b = some 7 then rn ca C_X7_bestOf 16 L (fv M b 0 :: S) M else none := (rn_at k_X7_bestOf_13).trans rnx_ite
theorem k_X7_bestOf_16 : lk 16 C_X7_bestOf = some (.arraylength, (0, 0, 0, 0)) := by decide +kernel
theorem s_X7_bestOf_16 {ca : Nat → List Value → tM → tO} {M : tM} {L : tL} {a : Nat} {S : List Value} : rn ca C_X7_bestOf 16 L (.ref a :: S) M = if akind a < 9 then rn ca C_X7_bestOf 17 L (.int (iI (alen M a : Int)) :: S) M else none := (rn_at k_X7_bestOf_16).trans rnx_ite
theorem k_X7_bestOf_17 : lk 17 C_X7_bestOf = some (.if_icmp .ge 12, (29, 0, 0, 0)) := by decide +kernel
theorem s_X7_bestOf_17 {ca : Nat → List Value → tM → tO} {M : tM} {L : tL} {x y : Int32} {S : List Value} : rn ca C_X7_bestOf 17 L (.int y :: .int x :: S) M = if y ≤ x then rn ca C_X7_bestOf 29 L S M else rn ca C_X7_bestOf 20 L S M := (rn_at k_X7_bestOf_17).trans rnx_ite
theorem k_X7_bestOf_20 : lk 20 C_X7_bestOf = some (.aload_n 0, (0, 0, 0, 0)) := by decide +kernel
theorem s_X7_bestOf_20 {ca : Nat → List Value → tM → tO} {M : tM} {a1 a2 a3 : Option Value} {x : Nat} {S : List Value} : rn ca C_X7_bestOf 20 [some (.ref x), a1, a2, a3] S M = rn ca C_X7_bestOf 21 [some (.ref x), a1, a2, a3] (.ref x :: S) M := (rn_at k_X7_bestOf_20).trans rfl
theorem k_X7_bestOf_21 : lk 21 C_X7_bestOf = some (.getfield 9, (7, 0, 0, 100)) := by decide +kernel
theorem s_X7_bestOf_21 {ca : Nat → List Value → tM → tO} {M : tM} {L : tL} {b : Nat} {S : List Value} : rn ca C_X7_bestOf 21 L (.ref b :: S) M = if clsO b = some 7 then rn ca C_X7_bestOf 24 L (fv M b 0 :: S) M else none := (rn_at k_X7_bestOf_21).trans rnx_ite
theorem k_X7_bestOf_24 : lk 24 C_X7_bestOf = some (.iload_n 3, (0, 0, 0, 0)) := by decide +kernel
theorem s_X7_bestOf_24 {ca : Nat → List Value → tM → tO} {M : tM} {a0 a1 a2 : Option Value} {x : Int32} {S : List Value} : rn ca C_X7_bestOf 24 [a0, a1, a2, some (.int x)] S M = rn ca C_X7_bestOf 25 [a0, a1, a2, some (.int x)] (.int x :: S) M := (rn_at k_X7_bestOf_24).trans rfl
theorem k_X7_bestOf_25 : lk 25 C_X7_bestOf = some (.iaload, (0, 0, 0, 0)) := by decide +kernel
theorem s_X7_bestOf_25 {ca : Nat → List Value → tM → tO} {M : tM} {L : tL} {a : Nat} {i : Int32} {S : List Value} : rn ca C_X7_bestOf 25 L (.int i :: .ref a :: S) M = if (akind a = 0 ∨ akind a = 6 ∨ akind a = 7) ∧ inb i (alen M a) then rn ca C_X7_bestOf 26 L (.int (M.1 a i.toInt.toNat) :: S) M else none := (rn_at k_X7_bestOf_25).trans rnx_ite
theorem k_X7_bestOf_26 : lk 26 C_X7_bestOf = some (.goto 6, (32, 0, 0, 0)) := by decide +kernel
theorem s_X7_bestOf_26 {ca : Nat → List Value → tM → tO} {M : tM} {L : tL} {S : List Value} : rn ca C_X7_bestOf 26 L S M = rn ca C_X7_bestOf 32 L S M := (rn_at k_X7_bestOf_26).trans rfl
theorem k_X7_bestOf_29 : lk 29 C_X7_bestOf = some (.sipush 9999, (0, 0, 0, 0)) := by decide +kernel
theorem s_X7_bestOf_29 {ca : Nat → List Value → tM → tO} {M : tM} {L : tL} {S : List Value} : rn ca C_X7_bestOf 29 L S M = rn ca C_X7_bestOf 32 L (.int (iI 9999) :: S) M := (rn_at k_X7_bestOf_29).trans rfl
theorem k_X7_bestOf_32 : lk 32 C_X7_bestOf = some (.ireturn, (0, 0, 0, 0)) := by decide +kernel
theorem s_X7_bestOf_32 {ca : Nat → List Value → tM → tO} {M : tM} {L : tL} {x : Int32} : rn ca C_X7_bestOf 32 L [.int x] M = some (some (.int x), M) := (rn_at k_X7_bestOf_32).trans rfl
theorem k_X7_leastFrom_0 : lk 0 C_X7_leastFrom = some (.iload_n 2, (0, 0, 0, 0)) := by decide +kernel
theorem s_X7_leastFrom_0 {ca : Nat → List Value → tM → tO} {M : tM} {a0 a1 a3 a4 a5 a6 : Option Value} {x : Int32} {S : List Value} : rn ca C_X7_leastFrom 0 [a0, a1, some (.int x), a3, a4, a5, a6] S M = rn ca C_X7_leastFrom 1 [a0, a1, some (.int x), a3, a4, a5, a6] (.int x :: S) M := (rn_at k_X7_leastFrom_0).trans rfl
theorem k_X7_leastFrom_1 : lk 1 C_X7_leastFrom = some (.ifCond .ne 5, (6, 0, 0, 0)) := by decide +kernel
theorem s_X7_leastFrom_1 {ca : Nat → List Value → tM → tO} {M : tM} {L : tL} {x : Int32} {S : List Value} : rn ca C_X7_leastFrom 1 L (.int x :: S) M = if ¬ x = iI 0 then rn ca C_X7_leastFrom 6 L S M else rn ca C_X7_leastFrom 4 L S M := (rn_at k_X7_leastFrom_1).trans rnx_ite
theorem k_X7_leastFrom_4 : lk 4 C_X7_leastFrom = some (.iconst 0, (0, 0, 0, 0)) := by decide +kernel
theorem s_X7_leastFrom_4 {ca : Nat → List Value → tM → tO} {M : tM} {L : tL} {S : List Value} : rn ca C_X7_leastFrom 4 L S M = rn ca C_X7_leastFrom 5 L (.int (iI 0) :: S) M := (rn_at k_X7_leastFrom_4).trans rfl
theorem k_X7_leastFrom_5 : lk 5 C_X7_leastFrom = some (.ireturn, (0, 0, 0, 0)) := by decide +kernel
theorem s_X7_leastFrom_5 {ca : Nat → List Value → tM → tO} {M : tM} {L : tL} {x : Int32} : rn ca C_X7_leastFrom 5 L [.int x] M = some (some (.int x), M) := (rn_at k_X7_leastFrom_5).trans rfl
theorem k_X7_leastFrom_6 : lk 6 C_X7_leastFrom = some (.sipush 9999, (0, 0, 0, 0)) := by decide +kernel
theorem s_X7_leastFrom_6 {ca : Nat → List Value → tM → tO} {M : tM} {L : tL} {S : List Value} : rn ca C_X7_leastFrom 6 L S M = rn ca C_X7_leastFrom 9 L (.int (iI 9999) :: S) M := (rn_at k_X7_leastFrom_6).trans rfl
theorem k_X7_leastFrom_9 : lk 9 C_X7_leastFrom = some (.istore 5, (0, 0, 0, 0)) := by decide +kernel
theorem s_X7_leastFrom_9 {ca : Nat → List Value → tM → tO} {M : tM} {a0 a1 a2 a3 a4 a5 a6 : Option Value} {x : Int32} {S : List Value} : rn ca C_X7_leastFrom 9 [a0, a1, a2, a3, a4, a5, a6] (.int x :: S) M = rn ca C_X7_leastFrom 11 [a0, a1, a2, a3, a4, some (.int x), a6] S M := (rn_at k_X7_leastFrom_9).trans rfl
theorem k_X7_leastFrom_11 : lk 11 C_X7_leastFrom = some (.iconst 0, (0, 0, 0, 0)) := by decide +kernel
theorem s_X7_leastFrom_11 {ca : Nat → List Value → tM → tO} {M : tM} {L : tL} {S : List Value} : rn ca C_X7_leastFrom 11 L S M = rn ca C_X7_leastFrom 12 L (.int (iI 0) :: S) M := (rn_at k_X7_leastFrom_11).trans rfl
theorem k_X7_leastFrom_12 : lk 12 C_X7_leastFrom = some (.istore 6, (0, 0, 0, 0)) := by decide +kernel
theorem s_X7_leastFrom_12 {ca : Nat → List Value → tM → tO} {M : tM} {a0 a1 a2 a3 a4 a5 a6 : Option Value} {x : Int32} {S : List Value} : rn ca C_X7_leastFrom 12 [a0, a1, a2, a3, a4, a5, a6] (.int x :: S) M = rn ca C_X7_leastFrom 14 [a0, a1, a2, a3, a4, a5, some (.int x)] S M := (rn_at k_X7_leastFrom_12).trans rfl
theorem k_X7_leastFrom_14 : lk 14 C_X7_leastFrom = some (.iload 6, (0, 0, 0, 0)) := by decide +kernel
theorem s_X7_leastFrom_14 {ca : Nat → List Value → tM → tO} {M : tM} {a0 a1 a2 a3 a4 a5 : Option Value} {x : Int32} {S : List Value} : rn ca C_X7_leastFrom 14 [a0, a1, a2, a3, a4, a5, some (.int x)] S M = rn ca C_X7_leastFrom 16 [a0, a1, a2, a3, a4, a5, some (.int x)] (.int x :: S) M := (rn_at k_X7_leastFrom_14).trans rfl
theorem k_X7_leastFrom_16 : lk 16 C_X7_leastFrom = some (.bipush 8, (0, 0, 0, 0)) := by decide +kernel
theorem s_X7_leastFrom_16 {ca : Nat → List Value → tM → tO} {M : tM} {L : tL} {S : List Value} : rn ca C_X7_leastFrom 16 L S M = rn ca C_X7_leastFrom 18 L (.int (iI 8) :: S) M := (rn_at k_X7_leastFrom_16).trans rfl
theorem k_X7_leastFrom_18 : lk 18 C_X7_leastFrom = some (.if_icmp .ge 36, (54, 0, 0, 0)) := by decide +kernel
theorem s_X7_leastFrom_18 {ca : Nat → List Value → tM → tO} {M : tM} {L : tL} {x y : Int32} {S : List Value} : rn ca C_X7_leastFrom 18 L (.int y :: .int x :: S) M = if y ≤ x then rn ca C_X7_leastFrom 54 L S M else rn ca C_X7_leastFrom 21 L S M := (rn_at k_X7_leastFrom_18).trans rnx_ite
theorem k_X7_leastFrom_21 : lk 21 C_X7_leastFrom = some (.iload_n 2, (0, 0, 0, 0)) := by decide +kernel
theorem s_X7_leastFrom_21 {ca : Nat → List Value → tM → tO} {M : tM} {a0 a1 a3 a4 a5 a6 : Option Value} {x : Int32} {S : List Value} : rn ca C_X7_leastFrom 21 [a0, a1, some (.int x), a3, a4, a5, a6] S M = rn ca C_X7_leastFrom 22 [a0, a1, some (.int x), a3, a4, a5, a6] (.int x :: S) M := (rn_at k_X7_leastFrom_21).trans rfl
theorem k_X7_leastFrom_22 : lk 22 C_X7_leastFrom = some (.iconst 1, (0, 0, 0, 0)) := by decide +kernel
theorem s_X7_leastFrom_22 {ca : Nat → List Value → tM → tO} {M : tM} {L : tL} {S : List Value} : rn ca C_X7_leastFrom 22 L S M = rn ca C_X7_leastFrom 23 L (.int (iI 1) :: S) M := (rn_at k_X7_leastFrom_22).trans rfl
theorem k_X7_leastFrom_23 : lk 23 C_X7_leastFrom = some (.iload 6, (0, 0, 0, 0)) := by decide +kernel
theorem s_X7_leastFrom_23 {ca : Nat → List Value → tM → tO} {M : tM} {a0 a1 a2 a3 a4 a5 : Option Value} {x : Int32} {S : List Value} : rn ca C_X7_leastFrom 23 [a0, a1, a2, a3, a4, a5, some (.int x)] S M = rn ca C_X7_leastFrom 25 [a0, a1, a2, a3, a4, a5, some (.int x)] (.int x :: S) M := (rn_at k_X7_leastFrom_23).trans rfl
theorem k_X7_leastFrom_25 : lk 25 C_X7_leastFrom = some (.ishl, (0, 0, 0, 0)) := by decide +kernel
theorem s_X7_leastFrom_25 {ca : Nat → List Value → tM → tO} {M : tM} {L : tL} {x y : Int32} {S : List Value} : rn ca C_X7_leastFrom 25 L (.int y :: .int x :: S) M = rn ca C_X7_leastFrom 26 L (.int (x <<< (y &&& 31)) :: S) M := (rn_at k_X7_leastFrom_25).trans rfl
theorem k_X7_leastFrom_26 : lk 26 C_X7_leastFrom = some (.iand, (0, 0, 0, 0)) := by decide +kernel
theorem s_X7_leastFrom_26 {ca : Nat → List Value → tM → tO} {M : tM} {L : tL} {x y : Int32} {S : List Value} : rn ca C_X7_leastFrom 26 L (.int y :: .int x :: S) M = rn ca C_X7_leastFrom 27 L (.int (x &&& y) :: S) M := (rn_at k_X7_leastFrom_26).trans rfl
theorem k_X7_leastFrom_27 : lk 27 C_X7_leastFrom = some (.ifCond .eq 21, (48, 0, 0, 0)) := by decide +kernel
theorem s_X7_leastFrom_27 {ca : Nat → List Value → tM → tO} {M : tM} {L : tL} {x : Int32} {S : List Value} : rn ca C_X7_leastFrom 27 L (.int x :: S) M = if x = iI 0 then rn ca C_X7_leastFrom 48 L S M else rn ca C_X7_leastFrom 30 L S M := (rn_at k_X7_leastFrom_27).trans rnx_ite
theorem k_X7_leastFrom_30 : lk 30 C_X7_leastFrom = some (.iload 5, (0, 0, 0, 0)) := by decide +kernel
theorem s_X7_leastFrom_30 {ca : Nat → List Value → tM → tO} {M : tM} {a0 a1 a2 a3 a4 a6 : Option Value} {x : Int32} {S : List Value} : rn ca C_X7_leastFrom 30 [a0, a1, a2, a3, a4, some (.int x), a6] S M = rn ca C_X7_leastFrom 32 [a0, a1, a2, a3, a4, some (.int x), a6] (.int x :: S) M := (rn_at k_X7_leastFrom_30).trans rfl
theorem k_X7_leastFrom_32 : lk 32 C_X7_leastFrom = some (.aload_n 0, (0, 0, 0, 0)) := by decide +kernel
theorem s_X7_leastFrom_32 {ca : Nat → List Value → tM → tO} {M : tM} {a1 a2 a3 a4 a5 a6 : Option Value} {x : Nat} {S : List Value} : rn ca C_X7_leastFrom 32 [some (.ref x), a1, a2, a3, a4, a5, a6] S M = rn ca C_X7_leastFrom 33 [some (.ref x), a1, a2, a3, a4, a5, a6] (.ref x :: S) M := (rn_at k_X7_leastFrom_32).trans rfl
theorem k_X7_leastFrom_33 : lk 33 C_X7_leastFrom = some (.aload_n 1, (0, 0, 0, 0)) := by decide +kernel
theorem s_X7_leastFrom_33 {ca : Nat → List Value → tM → tO} {M : tM} {a0 a2 a3 a4 a5 a6 : Option Value} {x : Nat} {S : List Value} : rn ca C_X7_leastFrom 33 [a0, some (.ref x), a2, a3, a4, a5, a6] S M = rn ca C_X7_leastFrom 34 [a0, some (.ref x), a2, a3, a4, a5, a6] (.ref x :: S) M := (rn_at k_X7_leastFrom_33).trans rfl
theorem k_X7_leastFrom_34 : lk 34 C_X7_leastFrom = some (.iload_n 2, (0, 0, 0, 0)) := by decide +kernel
theorem s_X7_leastFrom_34 {ca : Nat → List Value → tM → tO} {M : tM} {a0 a1 a3 a4 a5 a6 : Option Value} {x : Int32} {S : List Value} : rn ca C_X7_leastFrom 34 [a0, a1, some (.int x), a3, a4, a5, a6] S M = rn ca C_X7_leastFrom 35 [a0, a1, some (.int x), a3, a4, a5, a6] (.int x :: S) M := (rn_at k_X7_leastFrom_34).trans rfl
theorem k_X7_leastFrom_35 : lk 35 C_X7_leastFrom = some (.iload_n 3, (0, 0, 0, 0)) := by decide +kernel
theorem s_X7_leastFrom_35 {ca : Nat → List Value → tM → tO} {M : tM} {a0 a1 a2 a4 a5 a6 : Option Value} {x : Int32} {S : List Value} : rn ca C_X7_leastFrom 35 [a0, a1, a2, some (.int x), a4, a5, a6] S M = rn ca C_X7_leastFrom 36 [a0, a1, a2, some (.int x), a4, a5, a6] (.int x :: S) M := (rn_at k_X7_leastFrom_35).trans rfl
theorem k_X7_leastFrom_36 : lk 36 C_X7_leastFrom = some (.iload 6, (0, 0, 0, 0)) := by decide +kernel
theorem s_X7_leastFrom_36 {ca : Nat → List Value → tM → tO} {M : tM} {a0 a1 a2 a3 a4 a5 : Option Value} {x : Int32} {S : List Value} : rn ca C_X7_leastFrom 36 [a0, a1, a2, a3, a4, a5, some (.int x)] S M = rn ca C_X7_leastFrom 38 [a0, a1, a2, a3, a4, a5, some (.int x)] (.int x :: S) M := (rn_at k_X7_leastFrom_36).trans rfl
theorem k_X7_leastFrom_38 : lk 38 C_X7_leastFrom = some (.iload 4, (0, 0, 0, 0)) := by decide +kernel
theorem s_X7_leastFrom_38 {ca : Nat → List Value → tM → tO} {M : tM} {a0 a1 a2 a3 a5 a6 : Option Value} {x : Int32} {S : List Value} : rn ca C_X7_leastFrom 38 [a0, a1, a2, a3, some (.int x), a5, a6] S M = rn ca C_X7_leastFrom 40 [a0, a1, a2, a3, some (.int x), a5, a6] (.int x :: S) M := (rn_at k_X7_leastFrom_38).trans rfl
theorem k_X7_leastFrom_40 : lk 40 C_X7_leastFrom = some (.invokevirtual 23, (62, 5, 7, 838)) := by decide +kernel
theorem s_X7_leastFrom_40 {ca : Nat → List Value → tM → tO} {M : tM} {L : tL} {v1 v2 v3 v4 v5 : Value} {r0 : Int32} {b : Nat} : rn ca C_X7_leastFrom 40 L [v5, v4, v3, v2, v1, .ref b, .int r0] M = if clsO b = some 7 then rnk ca C_X7_leastFrom 43 L [.int r0] (ca m_X7_leastOver [.ref b, v1, v2, v3, v4, v5] M) else none := (rn_at k_X7_leastFrom_40).trans rnx_ite
theorem k_X7_leastFrom_43 : lk 43 C_X7_leastFrom = some (.invokestatic 27, (0, 2, 3, 837)) := by decide +kernel
theorem s_X7_leastFrom_43 {ca : Nat → List Value → tM → tO} {M : tM} {L : tL} {x y : Int32} : rn ca C_X7_leastFrom 43 L [.int y, .int x] M = rn ca C_X7_leastFrom 46 L [.int (mnI x y)] M := (rn_at k_X7_leastFrom_43).trans rfl
theorem k_X7_leastFrom_46 : lk 46 C_X7_leastFrom = some (.istore 5, (0, 0, 0, 0)) := by decide +kernel
theorem s_X7_leastFrom_46 {ca : Nat → List Value → tM → tO} {M : tM} {a0 a1 a2 a3 a4 a5 a6 : Option Value} {x : Int32} {S : List Value} : rn ca C_X7_leastFrom 46 [a0, a1, a2, a3, a4, a5, a6] (.int x :: S) M = rn ca C_X7_leastFrom 48 [a0, a1, a2, a3, a4, some (.int x), a6] S M := (rn_at k_X7_leastFrom_46).trans rfl
theorem k_X7_leastFrom_48 : lk 48 C_X7_leastFrom = some (.iinc 6 1, (0, 0, 0, 0)) := by decide +kernel
theorem s_X7_leastFrom_48 {ca : Nat → List Value → tM → tO} {M : tM} {a0 a1 a2 a3 a4 a5 : Option Value} {x : Int32} {S : List Value} : rn ca C_X7_leastFrom 48 [a0, a1, a2, a3, a4, a5, some (.int x)] S M = rn ca C_X7_leastFrom 51 [a0, a1, a2, a3, a4, a5, some (.int (x + iI 1))] S M := (rn_at k_X7_leastFrom_48).trans rfl
theorem k_X7_leastFrom_51 : lk 51 C_X7_leastFrom = some (.goto (-37), (14, 0, 0, 0)) := by decide +kernel
theorem s_X7_leastFrom_51 {ca : Nat → List Value → tM → tO} {M : tM} {L : tL} {S : List Value} : rn ca C_X7_leastFrom 51 L S M = rn ca C_X7_leastFrom 14 L S M := (rn_at k_X7_leastFrom_51).trans rfl
theorem k_X7_leastFrom_54 : lk 54 C_X7_leastFrom = some (.iload 5, (0, 0, 0, 0)) := by decide +kernel
theorem s_X7_leastFrom_54 {ca : Nat → List Value → tM → tO} {M : tM} {a0 a1 a2 a3 a4 a6 : Option Value} {x : Int32} {S : List Value} : rn ca C_X7_leastFrom 54 [a0, a1, a2, a3, a4, some (.int x), a6] S M = rn ca C_X7_leastFrom 56 [a0, a1, a2, a3, a4, some (.int x), a6] (.int x :: S) M := (rn_at k_X7_leastFrom_54).trans rfl
theorem k_X7_leastFrom_56 : lk 56 C_X7_leastFrom = some (.ireturn, (0, 0, 0, 0)) := by decide +kernel
theorem s_X7_leastFrom_56 {ca : Nat → List Value → tM → tO} {M : tM} {L : tL} {x : Int32} : rn ca C_X7_leastFrom 56 L [.int x] M = some (some (.int x), M) := (rn_at k_X7_leastFrom_56).trans rfl
theorem k_X7_leastOver_0 : lk 0 C_X7_leastOver = some (.aload_n 1, (0, 0, 0, 0)) := by decide +kernel
theorem s_X7_leastOver_0 {ca : Nat → List Value → tM → tO} {M : tM} {a0 a2 a3 a4 a5 a6 a7 : Option Value} {x : Nat} {S : List Value} : rn ca C_X7_leastOver 0 [a0, some (.ref x), a2, a3, a4, a5, a6, a7] S M = rn ca C_X7_leastOver 1 [a0, some (.ref x), a2, a3, a4, a5, a6, a7] (.ref x :: S) M := (rn_at k_X7_leastOver_0).trans rfl
theorem k_X7_leastOver_1 : lk 1 C_X7_leastOver = some (.iload_n 3, (0, 0, 0, 0)) := by decide +kernel
theorem s_X7_leastOver_1 {ca : Nat → List Value → tM → tO} {M : tM} {a0 a1 a2 a4 a5 a6 a7 : Option Value} {x : Int32} {S : List Value} : rn ca C_X7_leastOver 1 [a0, a1, a2, some (.int x), a4, a5, a6, a7] S M = rn ca C_X7_leastOver 2 [a0, a1, a2, some (.int x), a4, a5, a6, a7] (.int x :: S) M := (rn_at k_X7_leastOver_1).trans rfl
theorem k_X7_leastOver_2 : lk 2 C_X7_leastOver = some (.iload 4, (0, 0, 0, 0)) := by decide +kernel
theorem s_X7_leastOver_2 {ca : Nat → List Value → tM → tO} {M : tM} {a0 a1 a2 a3 a5 a6 a7 : Option Value} {x : Int32} {S : List Value} : rn ca C_X7_leastOver 2 [a0, a1, a2, a3, some (.int x), a5, a6, a7] S M = rn ca C_X7_leastOver 4 [a0, a1, a2, a3, some (.int x), a5, a6, a7] (.int x :: S) M := (rn_at k_X7_leastOver_2).trans rfl
theorem k_X7_leastOver_4 : lk 4 C_X7_leastOver = some (.invokevirtual 32, (85, 2, 9, 842)) := by decide +kernel
theorem s_X7_leastOver_4 {ca : Nat → List Value → tM → tO} {M : tM} {L : tL} {v1 v2 : Value} {b : Nat} : rn ca C_X7_leastOver 4 L [v2, v1, .ref b] M = if clsO b = some 9 then rnk ca C_X7_leastOver 7 L [] (ca m_X9_between [.ref b, v1, v2] M) else none := (rn_at k_X7_leastOver_4).trans rnx_ite
theorem k_X7_leastOver_7 : lk 7 C_X7_leastOver = some (.istore 6, (0, 0, 0, 0)) := by decide +kernel
theorem s_X7_leastOver_7 {ca : Nat → List Value → tM → tO} {M : tM} {a0 a1 a2 a3 a4 a5 a6 a7 : Option Value} {x : Int32} {S : List Value} : rn ca C_X7_leastOver 7 [a0, a1, a2, a3, a4, a5, a6, a7] (.int x :: S) M = rn ca C_X7_leastOver 9 [a0, a1, a2, a3, a4, a5, some (.int x), a7] S M := (rn_at k_X7_leastOver_7).trans rfl
theorem k_X7_leastOver_9 : lk 9 C_X7_leastOver = some (.aload_n 0, (0, 0, 0, 0)) := by decide +kernel
theorem s_X7_leastOver_9 {ca : Nat → List Value → tM → tO} {M : tM} {a1 a2 a3 a4 a5 a6 a7 : Option Value} {x : Nat} {S : List Value} : rn ca C_X7_leastOver 9 [some (.ref x), a1, a2, a3, a4, a5, a6, a7] S M = rn ca C_X7_leastOver 10 [some (.ref x), a1, a2, a3, a4, a5, a6, a7] (.ref x :: S) M := (rn_at k_X7_leastOver_9).trans rfl
theorem k_X7_leastOver_10 : lk 10 C_X7_leastOver = some (.iload_n 2, (0, 0, 0, 0)) := by decide +kernel
theorem s_X7_leastOver_10 {ca : Nat → List Value → tM → tO} {M : tM} {a0 a1 a3 a4 a5 a6 a7 : Option Value} {x : Int32} {S : List Value} : rn ca C_X7_leastOver 10 [a0, a1, some (.int x), a3, a4, a5, a6, a7] S M = rn ca C_X7_leastOver 11 [a0, a1, some (.int x), a3, a4, a5, a6, a7] (.int x :: S) M := (rn_at k_X7_leastOver_10).trans rfl
theorem k_X7_leastOver_11 : lk 11 C_X7_leastOver = some (.iconst 1, (0, 0, 0, 0)) := by decide +kernel
theorem s_X7_leastOver_11 {ca : Nat → List Value → tM → tO} {M : tM} {L : tL} {S : List Value} : rn ca C_X7_leastOver 11 L S M = rn ca C_X7_leastOver 12 L (.int (iI 1) :: S) M := (rn_at k_X7_leastOver_11).trans rfl
theorem k_X7_leastOver_12 : lk 12 C_X7_leastOver = some (.iload 4, (0, 0, 0, 0)) := by decide +kernel
theorem s_X7_leastOver_12 {ca : Nat → List Value → tM → tO} {M : tM} {a0 a1 a2 a3 a5 a6 a7 : Option Value} {x : Int32} {S : List Value} : rn ca C_X7_leastOver 12 [a0, a1, a2, a3, some (.int x), a5, a6, a7] S M = rn ca C_X7_leastOver 14 [a0, a1, a2, a3, some (.int x), a5, a6, a7] (.int x :: S) M := (rn_at k_X7_leastOver_12).trans rfl
theorem k_X7_leastOver_14 : lk 14 C_X7_leastOver = some (.ishl, (0, 0, 0, 0)) := by decide +kernel
theorem s_X7_leastOver_14 {ca : Nat → List Value → tM → tO} {M : tM} {L : tL} {x y : Int32} {S : List Value} : rn ca C_X7_leastOver 14 L (.int y :: .int x :: S) M = rn ca C_X7_leastOver 15 L (.int (x <<< (y &&& 31)) :: S) M := (rn_at k_X7_leastOver_14).trans rfl
theorem k_X7_leastOver_15 : lk 15 C_X7_leastOver = some (.iconst (-1), (0, 0, 0, 0)) := by decide +kernel
theorem s_X7_leastOver_15 {ca : Nat → List Value → tM → tO} {M : tM} {L : tL} {S : List Value} : rn ca C_X7_leastOver 15 L S M = rn ca C_X7_leastOver 16 L (.int (iI (-1)) :: S) M := (rn_at k_X7_leastOver_15).trans rfl
theorem k_X7_leastOver_16 : lk 16 C_X7_leastOver = some (.ixor, (0, 0, 0, 0)) := by decide +kernel
theorem s_X7_leastOver_16 {ca : Nat → List Value → tM → tO} {M : tM} {L : tL} {x y : Int32} {S : List Value} : rn ca C_X7_leastOver 16 L (.int y :: .int x :: S) M = rn ca C_X7_leastOver 17 L (.int (x ^^^ y) :: S) M := (rn_at k_X7_leastOver_16).trans rfl
theorem k_X7_leastOver_17 : lk 17 C_X7_leastOver = some (.iand, (0, 0, 0, 0)) := by decide +kernel
theorem s_X7_leastOver_17 {ca : Nat → List Value → tM → tO} {M : tM} {L : tL} {x y : Int32} {S : List Value} : rn ca C_X7_leastOver 17 L (.int y :: .int x :: S) M = rn ca C_X7_leastOver 18 L (.int (x &&& y) :: S) M := (rn_at k_X7_leastOver_17).trans rfl
theorem k_X7_leastOver_18 : lk 18 C_X7_leastOver = some (.iload 4, (0, 0, 0, 0)) := by decide +kernel
theorem s_X7_leastOver_18 {ca : Nat → List Value → tM → tO} {M : tM} {a0 a1 a2 a3 a5 a6 a7 : Option Value} {x : Int32} {S : List Value} : rn ca C_X7_leastOver 18 [a0, a1, a2, a3, some (.int x), a5, a6, a7] S M = rn ca C_X7_leastOver 20 [a0, a1, a2, a3, some (.int x), a5, a6, a7] (.int x :: S) M := (rn_at k_X7_leastOver_18).trans rfl
theorem k_X7_leastOver_20 : lk 20 C_X7_leastOver = some (.invokevirtual 19, (60, 2, 7, 843)) := by decide +kernel
theorem s_X7_leastOver_20 {ca : Nat → List Value → tM → tO} {M : tM} {L : tL} {v1 v2 : Value} {b : Nat} : rn ca C_X7_leastOver 20 L [v2, v1, .ref b] M = if clsO b = some 7 then rnk ca C_X7_leastOver 23 L [] (ca m_X7_bestOf [.ref b, v1, v2] M) else none := (rn_at k_X7_leastOver_20).trans rnx_ite
theorem k_X7_leastOver_23 : lk 23 C_X7_leastOver = some (.istore 7, (0, 0, 0, 0)) := by decide +kernel
theorem s_X7_leastOver_23 {ca : Nat → List Value → tM → tO} {M : tM} {a0 a1 a2 a3 a4 a5 a6 a7 : Option Value} {x : Int32} {S : List Value} : rn ca C_X7_leastOver 23 [a0, a1, a2, a3, a4, a5, a6, a7] (.int x :: S) M = rn ca C_X7_leastOver 25 [a0, a1, a2, a3, a4, a5, a6, some (.int x)] S M := (rn_at k_X7_leastOver_23).trans rfl
theorem k_X7_leastOver_25 : lk 25 C_X7_leastOver = some (.iload 6, (0, 0, 0, 0)) := by decide +kernel
theorem s_X7_leastOver_25 {ca : Nat → List Value → tM → tO} {M : tM} {a0 a1 a2 a3 a4 a5 a7 : Option Value} {x : Int32} {S : List Value} : rn ca C_X7_leastOver 25 [a0, a1, a2, a3, a4, a5, some (.int x), a7] S M = rn ca C_X7_leastOver 27 [a0, a1, a2, a3, a4, a5, some (.int x), a7] (.int x :: S) M := (rn_at k_X7_leastOver_25).trans rfl
theorem k_X7_leastOver_27 : lk 27 C_X7_leastOver = some (.sipush 9999, (0, 0, 0, 0)) := by decide +kernel
theorem s_X7_leastOver_27 {ca : Nat → List Value → tM → tO} {M : tM} {L : tL} {S : List Value} : rn ca C_X7_leastOver 27 L S M = rn ca C_X7_leastOver 30 L (.int (iI 9999) :: S) M := (rn_at k_X7_leastOver_27).trans rfl
theorem k_X7_leastOver_30 : lk 30 C_X7_leastOver = some (.if_icmp .eq 11, (41, 0, 0, 0)) := by decide +kernel
theorem s_X7_leastOver_30 {ca : Nat → List Value → tM → tO} {M : tM} {L : tL} {x y : Int32} {S : List Value} : rn ca C_X7_leastOver 30 L (.int y :: .int x :: S) M = if x = y then rn ca C_X7_leastOver 41 L S M else rn ca C_X7_leastOver 33 L S M := (rn_at k_X7_leastOver_30).trans rnx_ite
theorem k_X7_leastOver_33 : lk 33 C_X7_leastOver = some (.iload 7, (0, 0, 0, 0)) := by decide +kernel
theorem s_X7_leastOver_33 {ca : Nat → List Value → tM → tO} {M : tM} {a0 a1 a2 a3 a4 a5 a6 : Option Value} {x : Int32} {S : List Value} : rn ca C_X7_leastOver 33 [a0, a1, a2, a3, a4, a5, a6, some (.int x)] S M = rn ca C_X7_leastOver 35 [a0, a1, a2, a3, a4, a5, a6, some (.int x)] (.int x :: S) M := (rn_at k_X7_leastOver_33).trans rfl
theorem k_X7_leastOver_35 : lk 35 C_X7_leastOver = some (.sipush 9999, (0, 0, 0, 0)) := by decide +kernel
theorem s_X7_leastOver_35 {ca : Nat → List Value → tM → tO} {M : tM} {L : tL} {S : List Value} : rn ca C_X7_leastOver 35 L S M = rn ca C_X7_leastOver 38 L (.int (iI 9999) :: S) M := (rn_at k_X7_leastOver_35).trans rfl
theorem k_X7_leastOver_38 : lk 38 C_X7_leastOver = some (.if_icmp .ne 9, (47, 0, 0, 0)) := by decide +kernel
theorem s_X7_leastOver_38 {ca : Nat → List Value → tM → tO} {M : tM} {L : tL} {x y : Int32} {S : List Value} : rn ca C_X7_leastOver 38 L (.int y :: .int x :: S) M = if ¬ x = y then rn ca C_X7_leastOver 47 L S M else rn ca C_X7_leastOver 41 L S M := (rn_at k_X7_leastOver_38).trans rnx_ite
theorem k_X7_leastOver_41 : lk 41 C_X7_leastOver = some (.sipush 9999, (0, 0, 0, 0)) := by decide +kernel
theorem s_X7_leastOver_41 {ca : Nat → List Value → tM → tO} {M : tM} {L : tL} {S : List Value} : rn ca C_X7_leastOver 41 L S M = rn ca C_X7_leastOver 44 L (.int (iI 9999) :: S) M := (rn_at k_X7_leastOver_41).trans rfl
theorem k_X7_leastOver_44 : lk 44 C_X7_leastOver = some (.goto 11, (55, 0, 0, 0)) := by decide +kernel
theorem s_X7_leastOver_44 {ca : Nat → List Value → tM → tO} {M : tM} {L : tL} {S : List Value} : rn ca C_X7_leastOver 44 L S M = rn ca C_X7_leastOver 55 L S M := (rn_at k_X7_leastOver_44).trans rfl
theorem k_X7_leastOver_47 : lk 47 C_X7_leastOver = some (.iload 6, (0, 0, 0, 0)) := by decide +kernel
theorem s_X7_leastOver_47 {ca : Nat → List Value → tM → tO} {M : tM} {a0 a1 a2 a3 a4 a5 a7 : Option Value} {x : Int32} {S : List Value} : rn ca C_X7_leastOver 47 [a0, a1, a2, a3, a4, a5, some (.int x), a7] S M = rn ca C_X7_leastOver 49 [a0, a1, a2, a3, a4, a5, some (.int x), a7] (.int x :: S) M := (rn_at k_X7_leastOver_47).trans rfl
theorem k_X7_leastOver_49 : lk 49 C_X7_leastOver = some (.iload 5, (0, 0, 0, 0)) := by decide +kernel
theorem s_X7_leastOver_49 {ca : Nat → List Value → tM → tO} {M : tM} {a0 a1 a2 a3 a4 a6 a7 : Option Value} {x : Int32} {S : List Value} : rn ca C_X7_leastOver 49 [a0, a1, a2, a3, a4, some (.int x), a6, a7] S M = rn ca C_X7_leastOver 51 [a0, a1, a2, a3, a4, some (.int x), a6, a7] (.int x :: S) M := (rn_at k_X7_leastOver_49).trans rfl
theorem k_X7_leastOver_51 : lk 51 C_X7_leastOver = some (.iadd, (0, 0, 0, 0)) := by decide +kernel
theorem s_X7_leastOver_51 {ca : Nat → List Value → tM → tO} {M : tM} {L : tL} {x y : Int32} {S : List Value} : rn ca C_X7_leastOver 51 L (.int y :: .int x :: S) M = rn ca C_X7_leastOver 52 L (.int (x + y) :: S) M := (rn_at k_X7_leastOver_51).trans rfl
theorem k_X7_leastOver_52 : lk 52 C_X7_leastOver = some (.iload 7, (0, 0, 0, 0)) := by decide +kernel
theorem s_X7_leastOver_52 {ca : Nat → List Value → tM → tO} {M : tM} {a0 a1 a2 a3 a4 a5 a6 : Option Value} {x : Int32} {S : List Value} : rn ca C_X7_leastOver 52 [a0, a1, a2, a3, a4, a5, a6, some (.int x)] S M = rn ca C_X7_leastOver 54 [a0, a1, a2, a3, a4, a5, a6, some (.int x)] (.int x :: S) M := (rn_at k_X7_leastOver_52).trans rfl
theorem k_X7_leastOver_54 : lk 54 C_X7_leastOver = some (.iadd, (0, 0, 0, 0)) := by decide +kernel
theorem s_X7_leastOver_54 {ca : Nat → List Value → tM → tO} {M : tM} {L : tL} {x y : Int32} {S : List Value} : rn ca C_X7_leastOver 54 L (.int y :: .int x :: S) M = rn ca C_X7_leastOver 55 L (.int (x + y) :: S) M := (rn_at k_X7_leastOver_54).trans rfl
theorem k_X7_leastOver_55 : lk 55 C_X7_leastOver = some (.ireturn, (0, 0, 0, 0)) := by decide +kernel
theorem s_X7_leastOver_55 {ca : Nat → List Value → tM → tO} {M : tM} {L : tL} {x : Int32} : rn ca C_X7_leastOver 55 L [.int x] M = some (some (.int x), M) := (rn_at k_X7_leastOver_55).trans rfl
theorem k_X7_deskOfOrder_0 : lk 0 C_X7_deskOfOrder = some (.iload_n 3, (0, 0, 0, 0)) := by decide +kernel
theorem s_X7_deskOfOrder_0 {ca : Nat → List Value → tM → tO} {M : tM} {a0 a1 a2 a4 a5 a6 a7 a8 a9 : Option Value} {x : Int32} {S : List Value} : rn ca C_X7_deskOfOrder 0 [a0, a1, a2, some (.int x), a4, a5, a6, a7, a8, a9] S M = rn ca C_X7_deskOfOrder 1 [a0, a1, a2, some (.int x), a4, a5, a6, a7, a8, a9] (.int x :: S) M := (rn_at k_X7_deskOfOrder_0).trans rfl
theorem k_X7_deskOfOrder_1 : lk 1 C_X7_deskOfOrder = some (.istore 6, (0, 0, 0, 0)) := by decide +kernel
theorem s_X7_deskOfOrder_1 {ca : Nat → List Value → tM → tO} {M : tM} {a0 a1 a2 a3 a4 a5 a6 a7 a8 a9 : Option Value} {x : Int32} {S : List Value} : rn ca C_X7_deskOfOrder 1 [a0, a1, a2, a3, a4, a5, a6, a7, a8, a9] (.int x :: S) M = rn ca C_X7_deskOfOrder 3 [a0, a1, a2, a3, a4, a5, some (.int x), a7, a8, a9] S M := (rn_at k_X7_deskOfOrder_1).trans rfl
theorem k_X7_deskOfOrder_3 : lk 3 C_X7_deskOfOrder = some (.iload_n 2, (0, 0, 0, 0)) := by decide +kernel
theorem s_X7_deskOfOrder_3 {ca : Nat → List Value → tM → tO} {M : tM} {a0 a1 a3 a4 a5 a6 a7 a8 a9 : Option Value} {x : Int32} {S : List Value} : rn ca C_X7_deskOfOrder 3 [a0, a1, some (.int x), a3, a4, a5, a6, a7, a8, a9] S M = rn ca C_X7_deskOfOrder 4 [a0, a1, some (.int x), a3, a4, a5, a6, a7, a8, a9] (.int x :: S) M := (rn_at k_X7_deskOfOrder_3).trans rfl
theorem k_X7_deskOfOrder_4 : lk 4 C_X7_deskOfOrder = some (.istore 7, (0, 0, 0, 0)) := by decide +kernel
theorem s_X7_deskOfOrder_4 {ca : Nat → List Value → tM → tO} {M : tM} {a0 a1 a2 a3 a4 a5 a6 a7 a8 a9 : Option Value} {x : Int32} {S : List Value} : rn ca C_X7_deskOfOrder 4 [a0, a1, a2, a3, a4, a5, a6, a7, a8, a9] (.int x :: S) M = rn ca C_X7_deskOfOrder 6 [a0, a1, a2, a3, a4, a5, a6, some (.int x), a8, a9] S M := (rn_at k_X7_deskOfOrder_4).trans rfl
theorem k_X7_deskOfOrder_6 : lk 6 C_X7_deskOfOrder = some (.iconst 0, (0, 0, 0, 0)) := by decide +kernel
theorem s_X7_deskOfOrder_6 {ca : Nat → List Value → tM → tO} {M : tM} {L : tL} {S : List Value} : rn ca C_X7_deskOfOrder 6 L S M = rn ca C_X7_deskOfOrder 7 L (.int (iI 0) :: S) M := (rn_at k_X7_deskOfOrder_6).trans rfl
theorem k_X7_deskOfOrder_7 : lk 7 C_X7_deskOfOrder = some (.istore 8, (0, 0, 0, 0)) := by decide +kernel
theorem s_X7_deskOfOrder_7 {ca : Nat → List Value → tM → tO} {M : tM} {a0 a1 a2 a3 a4 a5 a6 a7 a8 a9 : Option Value} {x : Int32} {S : List Value} : rn ca C_X7_deskOfOrder 7 [a0, a1, a2, a3, a4, a5, a6, a7, a8, a9] (.int x :: S) M = rn ca C_X7_deskOfOrder 9 [a0, a1, a2, a3, a4, a5, a6, a7, some (.int x), a9] S M := (rn_at k_X7_deskOfOrder_7).trans rfl
theorem k_X7_deskOfOrder_9 : lk 9 C_X7_deskOfOrder = some (.iload 8, (0, 0, 0, 0)) := by decide +kernel
theorem s_X7_deskOfOrder_9 {ca : Nat → List Value → tM → tO} {M : tM} {a0 a1 a2 a3 a4 a5 a6 a7 a9 : Option Value} {x : Int32} {S : List Value} : rn ca C_X7_deskOfOrder 9 [a0, a1, a2, a3, a4, a5, a6, a7, some (.int x), a9] S M = rn ca C_X7_deskOfOrder 11 [a0, a1, a2, a3, a4, a5, a6, a7, some (.int x), a9] (.int x :: S) M := (rn_at k_X7_deskOfOrder_9).trans rfl
theorem k_X7_deskOfOrder_11 : lk 11 C_X7_deskOfOrder = some (.iload 5, (0, 0, 0, 0)) := by decide +kernel
theorem s_X7_deskOfOrder_11 {ca : Nat → List Value → tM → tO} {M : tM} {a0 a1 a2 a3 a4 a6 a7 a8 a9 : Option Value} {x : Int32} {S : List Value} : rn ca C_X7_deskOfOrder 11 [a0, a1, a2, a3, a4, some (.int x), a6, a7, a8, a9] S M = rn ca C_X7_deskOfOrder 13 [a0, a1, a2, a3, a4, some (.int x), a6, a7, a8, a9] (.int x :: S) M := (rn_at k_X7_deskOfOrder_11).trans rfl
theorem k_X7_deskOfOrder_13 : lk 13 C_X7_deskOfOrder = some (.if_icmp .gt 52, (65, 0, 0, 0)) := by decide +kernel
theorem s_X7_deskOfOrder_13 {ca : Nat → List Value → tM → tO} {M : tM} {L : tL} {x y : Int32} {S : List Value} : rn ca C_X7_deskOfOrder 13 L (.int y :: .int x :: S) M = if y < x then rn ca C_X7_deskOfOrder 65 L S M else rn ca C_X7_deskOfOrder 16 L S M := (rn_at k_X7_deskOfOrder_13).trans rnx_ite
theorem k_X7_deskOfOrder_16 : lk 16 C_X7_deskOfOrder = some (.iload 8, (0, 0, 0, 0)) := by decide +kernel
theorem s_X7_deskOfOrder_16 {ca : Nat → List Value → tM → tO} {M : tM} {a0 a1 a2 a3 a4 a5 a6 a7 a9 : Option Value} {x : Int32} {S : List Value} : rn ca C_X7_deskOfOrder 16 [a0, a1, a2, a3, a4, a5, a6, a7, some (.int x), a9] S M = rn ca C_X7_deskOfOrder 18 [a0, a1, a2, a3, a4, a5, a6, a7, some (.int x), a9] (.int x :: S) M := (rn_at k_X7_deskOfOrder_16).trans rfl
theorem k_X7_deskOfOrder_18 : lk 18 C_X7_deskOfOrder = some (.bipush 8, (0, 0, 0, 0)) := by decide +kernel
theorem s_X7_deskOfOrder_18 {ca : Nat → List Value → tM → tO} {M : tM} {L : tL} {S : List Value} : rn ca C_X7_deskOfOrder 18 L S M = rn ca C_X7_deskOfOrder 20 L (.int (iI 8) :: S) M := (rn_at k_X7_deskOfOrder_18).trans rfl
theorem k_X7_deskOfOrder_20 : lk 20 C_X7_deskOfOrder = some (.if_icmp .ge 45, (65, 0, 0, 0)) := by decide +kernel
theorem s_X7_deskOfOrder_20 {ca : Nat → List Value → tM → tO} {M : tM} {L : tL} {x y : Int32} {S : List Value} : rn ca C_X7_deskOfOrder 20 L (.int y :: .int x :: S) M = if y ≤ x then rn ca C_X7_deskOfOrder 65 L S M else rn ca C_X7_deskOfOrder 23 L S M := (rn_at k_X7_deskOfOrder_20).trans rnx_ite
theorem k_X7_deskOfOrder_23 : lk 23 C_X7_deskOfOrder = some (.aload_n 0, (0, 0, 0, 0)) := by decide +kernel
theorem s_X7_deskOfOrder_23 {ca : Nat → List Value → tM → tO} {M : tM} {a1 a2 a3 a4 a5 a6 a7 a8 a9 : Option Value} {x : Nat} {S : List Value} : rn ca C_X7_deskOfOrder 23 [some (.ref x), a1, a2, a3, a4, a5, a6, a7, a8, a9] S M = rn ca C_X7_deskOfOrder 24 [some (.ref x), a1, a2, a3, a4, a5, a6, a7, a8, a9] (.ref x :: S) M := (rn_at k_X7_deskOfOrder_23).trans rfl
theorem k_X7_deskOfOrder_24 : lk 24 C_X7_deskOfOrder = some (.aload_n 1, (0, 0, 0, 0)) := by decide +kernel
theorem s_X7_deskOfOrder_24 {ca : Nat → List Value → tM → tO} {M : tM} {a0 a2 a3 a4 a5 a6 a7 a8 a9 : Option Value} {x : Nat} {S : List Value} : rn ca C_X7_deskOfOrder 24 [a0, some (.ref x), a2, a3, a4, a5, a6, a7, a8, a9] S M = rn ca C_X7_deskOfOrder 25 [a0, some (.ref x), a2, a3, a4, a5, a6, a7, a8, a9] (.ref x :: S) M := (rn_at k_X7_deskOfOrder_24).trans rfl
theorem k_X7_deskOfOrder_25 : lk 25 C_X7_deskOfOrder = some (.iload 6, (0, 0, 0, 0)) := by decide +kernel
theorem s_X7_deskOfOrder_25 {ca : Nat → List Value → tM → tO} {M : tM} {a0 a1 a2 a3 a4 a5 a7 a8 a9 : Option Value} {x : Int32} {S : List Value} : rn ca C_X7_deskOfOrder 25 [a0, a1, a2, a3, a4, a5, some (.int x), a7, a8, a9] S M = rn ca C_X7_deskOfOrder 27 [a0, a1, a2, a3, a4, a5, some (.int x), a7, a8, a9] (.int x :: S) M := (rn_at k_X7_deskOfOrder_25).trans rfl
theorem k_X7_deskOfOrder_27 : lk 27 C_X7_deskOfOrder = some (.iload 7, (0, 0, 0, 0)) := by decide +kernel
theorem s_X7_deskOfOrder_27 {ca : Nat → List Value → tM → tO} {M : tM} {a0 a1 a2 a3 a4 a5 a6 a8 a9 : Option Value} {x : Int32} {S : List Value} : rn ca C_X7_deskOfOrder 27 [a0, a1, a2, a3, a4, a5, a6, some (.int x), a8, a9] S M = rn ca C_X7_deskOfOrder 29 [a0, a1, a2, a3, a4, a5, a6, some (.int x), a8, a9] (.int x :: S) M := (rn_at k_X7_deskOfOrder_27).trans rfl
theorem k_X7_deskOfOrder_29 : lk 29 C_X7_deskOfOrder = some (.iload 4, (0, 0, 0, 0)) := by decide +kernel
theorem s_X7_deskOfOrder_29 {ca : Nat → List Value → tM → tO} {M : tM} {a0 a1 a2 a3 a5 a6 a7 a8 a9 : Option Value} {x : Int32} {S : List Value} : rn ca C_X7_deskOfOrder 29 [a0, a1, a2, a3, some (.int x), a5, a6, a7, a8, a9] S M = rn ca C_X7_deskOfOrder 31 [a0, a1, a2, a3, some (.int x), a5, a6, a7, a8, a9] (.int x :: S) M := (rn_at k_X7_deskOfOrder_29).trans rfl
theorem k_X7_deskOfOrder_31 : lk 31 C_X7_deskOfOrder = some (.invokevirtual 37, (64, 4, 7, 851)) := by decide +kernel
theorem s_X7_deskOfOrder_31 {ca : Nat → List Value → tM → tO} {M : tM} {L : tL} {v1 v2 v3 v4 : Value} {b : Nat} : rn ca C_X7_deskOfOrder 31 L [v4, v3, v2, v1, .ref b] M = if clsO b = some 7 then rnk ca C_X7_deskOfOrder 34 L [] (ca m_X7_nextOfOrder [.ref b, v1, v2, v3, v4] M) else none := (rn_at k_X7_deskOfOrder_31).trans rnx_ite
theorem k_X7_deskOfOrder_34 : lk 34 C_X7_deskOfOrder = some (.istore 9, (0, 0, 0, 0)) := by decide +kernel
theorem s_X7_deskOfOrder_34 {ca : Nat → List Value → tM → tO} {M : tM} {a0 a1 a2 a3 a4 a5 a6 a7 a8 a9 : Option Value} {x : Int32} {S : List Value} : rn ca C_X7_deskOfOrder 34 [a0, a1, a2, a3, a4, a5, a6, a7, a8, a9] (.int x :: S) M = rn ca C_X7_deskOfOrder 36 [a0, a1, a2, a3, a4, a5, a6, a7, a8, some (.int x)] S M := (rn_at k_X7_deskOfOrder_34).trans rfl
theorem k_X7_deskOfOrder_36 : lk 36 C_X7_deskOfOrder = some (.iload 9, (0, 0, 0, 0)) := by decide +kernel
theorem s_X7_deskOfOrder_36 {ca : Nat → List Value → tM → tO} {M : tM} {a0 a1 a2 a3 a4 a5 a6 a7 a8 : Option Value} {x : Int32} {S : List Value} : rn ca C_X7_deskOfOrder 36 [a0, a1, a2, a3, a4, a5, a6, a7, a8, some (.int x)] S M = rn ca C_X7_deskOfOrder 38 [a0, a1, a2, a3, a4, a5, a6, a7, a8, some (.int x)] (.int x :: S) M := (rn_at k_X7_deskOfOrder_36).trans rfl
theorem k_X7_deskOfOrder_38 : lk 38 C_X7_deskOfOrder = some (.iconst (-1), (0, 0, 0, 0)) := by decide +kernel
theorem s_X7_deskOfOrder_38 {ca : Nat → List Value → tM → tO} {M : tM} {L : tL} {S : List Value} : rn ca C_X7_deskOfOrder 38 L S M = rn ca C_X7_deskOfOrder 39 L (.int (iI (-1)) :: S) M := (rn_at k_X7_deskOfOrder_38).trans rfl
theorem k_X7_deskOfOrder_39 : lk 39 C_X7_deskOfOrder = some (.if_icmp .ne 5, (44, 0, 0, 0)) := by decide +kernel
theorem s_X7_deskOfOrder_39 {ca : Nat → List Value → tM → tO} {M : tM} {L : tL} {x y : Int32} {S : List Value} : rn ca C_X7_deskOfOrder 39 L (.int y :: .int x :: S) M = if ¬ x = y then rn ca C_X7_deskOfOrder 44 L S M else rn ca C_X7_deskOfOrder 42 L S M := (rn_at k_X7_deskOfOrder_39).trans rnx_ite
theorem k_X7_deskOfOrder_42 : lk 42 C_X7_deskOfOrder = some (.iconst (-1), (0, 0, 0, 0)) := by decide +kernel
theorem s_X7_deskOfOrder_42 {ca : Nat → List Value → tM → tO} {M : tM} {L : tL} {S : List Value} : rn ca C_X7_deskOfOrder 42 L S M = rn ca C_X7_deskOfOrder 43 L (.int (iI (-1)) :: S) M := (rn_at k_X7_deskOfOrder_42).trans rfl
theorem k_X7_deskOfOrder_43 : lk 43 C_X7_deskOfOrder = some (.ireturn, (0, 0, 0, 0)) := by decide +kernel
theorem s_X7_deskOfOrder_43 {ca : Nat → List Value → tM → tO} {M : tM} {L : tL} {x : Int32} : rn ca C_X7_deskOfOrder 43 L [.int x] M = some (some (.int x), M) := (rn_at k_X7_deskOfOrder_43).trans rfl
theorem k_X7_deskOfOrder_44 : lk 44 C_X7_deskOfOrder = some (.iload 6, (0, 0, 0, 0)) := by decide +kernel
theorem s_X7_deskOfOrder_44 {ca : Nat → List Value → tM → tO} {M : tM} {a0 a1 a2 a3 a4 a5 a7 a8 a9 : Option Value} {x : Int32} {S : List Value} : rn ca C_X7_deskOfOrder 44 [a0, a1, a2, a3, a4, a5, some (.int x), a7, a8, a9] S M = rn ca C_X7_deskOfOrder 46 [a0, a1, a2, a3, a4, a5, some (.int x), a7, a8, a9] (.int x :: S) M := (rn_at k_X7_deskOfOrder_44).trans rfl
theorem k_X7_deskOfOrder_46 : lk 46 C_X7_deskOfOrder = some (.iconst 1, (0, 0, 0, 0)) := by decide +kernel
theorem s_X7_deskOfOrder_46 {ca : Nat → List Value → tM → tO} {M : tM} {L : tL} {S : List Value} : rn ca C_X7_deskOfOrder 46 L S M = rn ca C_X7_deskOfOrder 47 L (.int (iI 1) :: S) M := (rn_at k_X7_deskOfOrder_46).trans rfl
theorem k_X7_deskOfOrder_47 : lk 47 C_X7_deskOfOrder = some (.iload 9, (0, 0, 0, 0)) := by decide +kernel
theorem s_X7_deskOfOrder_47 {ca : Nat → List Value → tM → tO} {M : tM} {a0 a1 a2 a3 a4 a5 a6 a7 a8 : Option Value} {x : Int32} {S : List Value} : rn ca C_X7_deskOfOrder 47 [a0, a1, a2, a3, a4, a5, a6, a7, a8, some (.int x)] S M = rn ca C_X7_deskOfOrder 49 [a0, a1, a2, a3, a4, a5, a6, a7, a8, some (.int x)] (.int x :: S) M := (rn_at k_X7_deskOfOrder_47).trans rfl
theorem k_X7_deskOfOrder_49 : lk 49 C_X7_deskOfOrder = some (.ishl, (0, 0, 0, 0)) := by decide +kernel
theorem s_X7_deskOfOrder_49 {ca : Nat → List Value → tM → tO} {M : tM} {L : tL} {x y : Int32} {S : List Value} : rn ca C_X7_deskOfOrder 49 L (.int y :: .int x :: S) M = rn ca C_X7_deskOfOrder 50 L (.int (x <<< (y &&& 31)) :: S) M := (rn_at k_X7_deskOfOrder_49).trans rfl
theorem k_X7_deskOfOrder_50 : lk 50 C_X7_deskOfOrder = some (.iconst (-1), (0, 0, 0, 0)) := by decide +kernel
theorem s_X7_deskOfOrder_50 {ca : Nat → List Value → tM → tO} {M : tM} {L : tL} {S : List Value} : rn ca C_X7_deskOfOrder 50 L S M = rn ca C_X7_deskOfOrder 51 L (.int (iI (-1)) :: S) M := (rn_at k_X7_deskOfOrder_50).trans rfl
theorem k_X7_deskOfOrder_51 : lk 51 C_X7_deskOfOrder = some (.ixor, (0, 0, 0, 0)) := by decide +kernel
theorem s_X7_deskOfOrder_51 {ca : Nat → List Value → tM → tO} {M : tM} {L : tL} {x y : Int32} {S : List Value} : rn ca C_X7_deskOfOrder 51 L (.int y :: .int x :: S) M = rn ca C_X7_deskOfOrder 52 L (.int (x ^^^ y) :: S) M := (rn_at k_X7_deskOfOrder_51).trans rfl
theorem k_X7_deskOfOrder_52 : lk 52 C_X7_deskOfOrder = some (.iand, (0, 0, 0, 0)) := by decide +kernel
theorem s_X7_deskOfOrder_52 {ca : Nat → List Value → tM → tO} {M : tM} {L : tL} {x y : Int32} {S : List Value} : rn ca C_X7_deskOfOrder 52 L (.int y :: .int x :: S) M = rn ca C_X7_deskOfOrder 53 L (.int (x &&& y) :: S) M := (rn_at k_X7_deskOfOrder_52).trans rfl
theorem k_X7_deskOfOrder_53 : lk 53 C_X7_deskOfOrder = some (.istore 6, (0, 0, 0, 0)) := by decide +kernel
theorem s_X7_deskOfOrder_53 {ca : Nat → List Value → tM → tO} {M : tM} {a0 a1 a2 a3 a4 a5 a6 a7 a8 a9 : Option Value} {x : Int32} {S : List Value} : rn ca C_X7_deskOfOrder 53 [a0, a1, a2, a3, a4, a5, a6, a7, a8, a9] (.int x :: S) M = rn ca C_X7_deskOfOrder 55 [a0, a1, a2, a3, a4, a5, some (.int x), a7, a8, a9] S M := (rn_at k_X7_deskOfOrder_53).trans rfl
theorem k_X7_deskOfOrder_55 : lk 55 C_X7_deskOfOrder = some (.iload 9, (0, 0, 0, 0)) := by decide +kernel
theorem s_X7_deskOfOrder_55 {ca : Nat → List Value → tM → tO} {M : tM} {a0 a1 a2 a3 a4 a5 a6 a7 a8 : Option Value} {x : Int32} {S : List Value} : rn ca C_X7_deskOfOrder 55 [a0, a1, a2, a3, a4, a5, a6, a7, a8, some (.int x)] S M = rn ca C_X7_deskOfOrder 57 [a0, a1, a2, a3, a4, a5, a6, a7, a8, some (.int x)] (.int x :: S) M := (rn_at k_X7_deskOfOrder_55).trans rfl
theorem k_X7_deskOfOrder_57 : lk 57 C_X7_deskOfOrder = some (.istore 7, (0, 0, 0, 0)) := by decide +kernel
theorem s_X7_deskOfOrder_57 {ca : Nat → List Value → tM → tO} {M : tM} {a0 a1 a2 a3 a4 a5 a6 a7 a8 a9 : Option Value} {x : Int32} {S : List Value} : rn ca C_X7_deskOfOrder 57 [a0, a1, a2, a3, a4, a5, a6, a7, a8, a9] (.int x :: S) M = rn ca C_X7_deskOfOrder 59 [a0, a1, a2, a3, a4, a5, a6, some (.int x), a8, a9] S M := (rn_at k_X7_deskOfOrder_57).trans rfl
theorem k_X7_deskOfOrder_59 : lk 59 C_X7_deskOfOrder = some (.iinc 8 1, (0, 0, 0, 0)) := by decide +kernel
theorem s_X7_deskOfOrder_59 {ca : Nat → List Value → tM → tO} {M : tM} {a0 a1 a2 a3 a4 a5 a6 a7 a9 : Option Value} {x : Int32} {S : List Value} : rn ca C_X7_deskOfOrder 59 [a0, a1, a2, a3, a4, a5, a6, a7, some (.int x), a9] S M = rn ca C_X7_deskOfOrder 62 [a0, a1, a2, a3, a4, a5, a6, a7, some (.int (x + iI 1)), a9] S M := (rn_at k_X7_deskOfOrder_59).trans rfl
theorem k_X7_deskOfOrder_62 : lk 62 C_X7_deskOfOrder = some (.goto (-53), (9, 0, 0, 0)) := by decide +kernel
theorem s_X7_deskOfOrder_62 {ca : Nat → List Value → tM → tO} {M : tM} {L : tL} {S : List Value} : rn ca C_X7_deskOfOrder 62 L S M = rn ca C_X7_deskOfOrder 9 L S M := (rn_at k_X7_deskOfOrder_62).trans rfl
theorem k_X7_deskOfOrder_65 : lk 65 C_X7_deskOfOrder = some (.iload 7, (0, 0, 0, 0)) := by decide +kernel
theorem s_X7_deskOfOrder_65 {ca : Nat → List Value → tM → tO} {M : tM} {a0 a1 a2 a3 a4 a5 a6 a8 a9 : Option Value} {x : Int32} {S : List Value} : rn ca C_X7_deskOfOrder 65 [a0, a1, a2, a3, a4, a5, a6, some (.int x), a8, a9] S M = rn ca C_X7_deskOfOrder 67 [a0, a1, a2, a3, a4, a5, a6, some (.int x), a8, a9] (.int x :: S) M := (rn_at k_X7_deskOfOrder_65).trans rfl
theorem k_X7_deskOfOrder_67 : lk 67 C_X7_deskOfOrder = some (.ireturn, (0, 0, 0, 0)) := by decide +kernel
theorem s_X7_deskOfOrder_67 {ca : Nat → List Value → tM → tO} {M : tM} {L : tL} {x : Int32} : rn ca C_X7_deskOfOrder 67 L [.int x] M = some (some (.int x), M) := (rn_at k_X7_deskOfOrder_67).trans rfl
theorem k_X7_nextOfOrder_0 : lk 0 C_X7_nextOfOrder = some (.iconst 0, (0, 0, 0, 0)) := by decide +kernel
theorem s_X7_nextOfOrder_0 {ca : Nat → List Value → tM → tO} {M : tM} {L : tL} {S : List Value} : rn ca C_X7_nextOfOrder 0 L S M = rn ca C_X7_nextOfOrder 1 L (.int (iI 0) :: S) M := (rn_at k_X7_nextOfOrder_0).trans rfl
theorem k_X7_nextOfOrder_1 : lk 1 C_X7_nextOfOrder = some (.istore 5, (0, 0, 0, 0)) := by decide +kernel
theorem s_X7_nextOfOrder_1 {ca : Nat → List Value → tM → tO} {M : tM} {a0 a1 a2 a3 a4 a5 : Option Value} {x : Int32} {S : List Value} : rn ca C_X7_nextOfOrder 1 [a0, a1, a2, a3, a4, a5] (.int x :: S) M = rn ca C_X7_nextOfOrder 3 [a0, a1, a2, a3, a4, some (.int x)] S M := (rn_at k_X7_nextOfOrder_1).trans rfl
theorem k_X7_nextOfOrder_3 : lk 3 C_X7_nextOfOrder = some (.iload 5, (0, 0, 0, 0)) := by decide +kernel
theorem s_X7_nextOfOrder_3 {ca : Nat → List Value → tM → tO} {M : tM} {a0 a1 a2 a3 a4 : Option Value} {x : Int32} {S : List Value} : rn ca C_X7_nextOfOrder 3 [a0, a1, a2, a3, a4, some (.int x)] S M = rn ca C_X7_nextOfOrder 5 [a0, a1, a2, a3, a4, some (.int x)] (.int x :: S) M := (rn_at k_X7_nextOfOrder_3).trans rfl
theorem k_X7_nextOfOrder_5 : lk 5 C_X7_nextOfOrder = some (.bipush 8, (0, 0, 0, 0)) := by decide +kernel
theorem s_X7_nextOfOrder_5 {ca : Nat → List Value → tM → tO} {M : tM} {L : tL} {S : List Value} : rn ca C_X7_nextOfOrder 5 L S M = rn ca C_X7_nextOfOrder 7 L (.int (iI 8) :: S) M := (rn_at k_X7_nextOfOrder_5).trans rfl
theorem k_X7_nextOfOrder_7 : lk 7 C_X7_nextOfOrder = some (.if_icmp .ge 41, (48, 0, 0, 0)) := by decide +kernel
theorem s_X7_nextOfOrder_7 {ca : Nat → List Value → tM → tO} {M : tM} {L : tL} {x y : Int32} {S : List Value} : rn ca C_X7_nextOfOrder 7 L (.int y :: .int x :: S) M = if y ≤ x then rn ca C_X7_nextOfOrder 48 L S M else rn ca C_X7_nextOfOrder 10 L S M := (rn_at k_X7_nextOfOrder_7).trans rnx_ite
theorem k_X7_nextOfOrder_10 : lk 10 C_X7_nextOfOrder = some (.iload_n 2, (0, 0, 0, 0)) := by decide +kernel
theorem s_X7_nextOfOrder_10 {ca : Nat → List Value → tM → tO} {M : tM} {a0 a1 a3 a4 a5 : Option Value} {x : Int32} {S : List Value} : rn ca C_X7_nextOfOrder 10 [a0, a1, some (.int x), a3, a4, a5] S M = rn ca C_X7_nextOfOrder 11 [a0, a1, some (.int x), a3, a4, a5] (.int x :: S) M := (rn_at k_X7_nextOfOrder_10).trans rfl
theorem k_X7_nextOfOrder_11 : lk 11 C_X7_nextOfOrder = some (.iconst 1, (0, 0, 0, 0)) := by decide +kernel
theorem s_X7_nextOfOrder_11 {ca : Nat → List Value → tM → tO} {M : tM} {L : tL} {S : List Value} : rn ca C_X7_nextOfOrder 11 L S M = rn ca C_X7_nextOfOrder 12 L (.int (iI 1) :: S) M := (rn_at k_X7_nextOfOrder_11).trans rfl
theorem k_X7_nextOfOrder_12 : lk 12 C_X7_nextOfOrder = some (.iload 5, (0, 0, 0, 0)) := by decide +kernel
theorem s_X7_nextOfOrder_12 {ca : Nat → List Value → tM → tO} {M : tM} {a0 a1 a2 a3 a4 : Option Value} {x : Int32} {S : List Value} : rn ca C_X7_nextOfOrder 12 [a0, a1, a2, a3, a4, some (.int x)] S M = rn ca C_X7_nextOfOrder 14 [a0, a1, a2, a3, a4, some (.int x)] (.int x :: S) M := (rn_at k_X7_nextOfOrder_12).trans rfl
theorem k_X7_nextOfOrder_14 : lk 14 C_X7_nextOfOrder = some (.ishl, (0, 0, 0, 0)) := by decide +kernel
theorem s_X7_nextOfOrder_14 {ca : Nat → List Value → tM → tO} {M : tM} {L : tL} {x y : Int32} {S : List Value} : rn ca C_X7_nextOfOrder 14 L (.int y :: .int x :: S) M = rn ca C_X7_nextOfOrder 15 L (.int (x <<< (y &&& 31)) :: S) M := (rn_at k_X7_nextOfOrder_14).trans rfl
theorem k_X7_nextOfOrder_15 : lk 15 C_X7_nextOfOrder = some (.iand, (0, 0, 0, 0)) := by decide +kernel
theorem s_X7_nextOfOrder_15 {ca : Nat → List Value → tM → tO} {M : tM} {L : tL} {x y : Int32} {S : List Value} : rn ca C_X7_nextOfOrder 15 L (.int y :: .int x :: S) M = rn ca C_X7_nextOfOrder 16 L (.int (x &&& y) :: S) M := (rn_at k_X7_nextOfOrder_15).trans rfl
theorem k_X7_nextOfOrder_16 : lk 16 C_X7_nextOfOrder = some (.ifCond .eq 26, (42, 0, 0, 0)) := by decide +kernel
theorem s_X7_nextOfOrder_16 {ca : Nat → List Value → tM → tO} {M : tM} {L : tL} {x : Int32} {S : List Value} : rn ca C_X7_nextOfOrder 16 L (.int x :: S) M = if x = iI 0 then rn ca C_X7_nextOfOrder 42 L S M else rn ca C_X7_nextOfOrder 19 L S M := (rn_at k_X7_nextOfOrder_16).trans rnx_ite
theorem k_X7_nextOfOrder_19 : lk 19 C_X7_nextOfOrder = some (.aload_n 0, (0, 0, 0, 0)) := by decide +kernel
theorem s_X7_nextOfOrder_19 {ca : Nat → List Value → tM → tO} {M : tM} {a1 a2 a3 a4 a5 : Option Value} {x : Nat} {S : List Value} : rn ca C_X7_nextOfOrder 19 [some (.ref x), a1, a2, a3, a4, a5] S M = rn ca C_X7_nextOfOrder 20 [some (.ref x), a1, a2, a3, a4, a5] (.ref x :: S) M := (rn_at k_X7_nextOfOrder_19).trans rfl
theorem k_X7_nextOfOrder_20 : lk 20 C_X7_nextOfOrder = some (.aload_n 1, (0, 0, 0, 0)) := by decide +kernel
theorem s_X7_nextOfOrder_20 {ca : Nat → List Value → tM → tO} {M : tM} {a0 a2 a3 a4 a5 : Option Value} {x : Nat} {S : List Value} : rn ca C_X7_nextOfOrder 20 [a0, some (.ref x), a2, a3, a4, a5] S M = rn ca C_X7_nextOfOrder 21 [a0, some (.ref x), a2, a3, a4, a5] (.ref x :: S) M := (rn_at k_X7_nextOfOrder_20).trans rfl
theorem k_X7_nextOfOrder_21 : lk 21 C_X7_nextOfOrder = some (.iload_n 2, (0, 0, 0, 0)) := by decide +kernel
theorem s_X7_nextOfOrder_21 {ca : Nat → List Value → tM → tO} {M : tM} {a0 a1 a3 a4 a5 : Option Value} {x : Int32} {S : List Value} : rn ca C_X7_nextOfOrder 21 [a0, a1, some (.int x), a3, a4, a5] S M = rn ca C_X7_nextOfOrder 22 [a0, a1, some (.int x), a3, a4, a5] (.int x :: S) M := (rn_at k_X7_nextOfOrder_21).trans rfl
theorem k_X7_nextOfOrder_22 : lk 22 C_X7_nextOfOrder = some (.iload_n 3, (0, 0, 0, 0)) := by decide +kernel
theorem s_X7_nextOfOrder_22 {ca : Nat → List Value → tM → tO} {M : tM} {a0 a1 a2 a4 a5 : Option Value} {x : Int32} {S : List Value} : rn ca C_X7_nextOfOrder 22 [a0, a1, a2, some (.int x), a4, a5] S M = rn ca C_X7_nextOfOrder 23 [a0, a1, a2, some (.int x), a4, a5] (.int x :: S) M := (rn_at k_X7_nextOfOrder_22).trans rfl
theorem k_X7_nextOfOrder_23 : lk 23 C_X7_nextOfOrder = some (.iload 5, (0, 0, 0, 0)) := by decide +kernel
theorem s_X7_nextOfOrder_23 {ca : Nat → List Value → tM → tO} {M : tM} {a0 a1 a2 a3 a4 : Option Value} {x : Int32} {S : List Value} : rn ca C_X7_nextOfOrder 23 [a0, a1, a2, a3, a4, some (.int x)] S M = rn ca C_X7_nextOfOrder 25 [a0, a1, a2, a3, a4, some (.int x)] (.int x :: S) M := (rn_at k_X7_nextOfOrder_23).trans rfl
theorem k_X7_nextOfOrder_25 : lk 25 C_X7_nextOfOrder = some (.iload 4, (0, 0, 0, 0)) := by decide +kernel
theorem s_X7_nextOfOrder_25 {ca : Nat → List Value → tM → tO} {M : tM} {a0 a1 a2 a3 a5 : Option Value} {x : Int32} {S : List Value} : rn ca C_X7_nextOfOrder 25 [a0, a1, a2, a3, some (.int x), a5] S M = rn ca C_X7_nextOfOrder 27 [a0, a1, a2, a3, some (.int x), a5] (.int x :: S) M := (rn_at k_X7_nextOfOrder_25).trans rfl
theorem k_X7_nextOfOrder_27 : lk 27 C_X7_nextOfOrder = some (.invokevirtual 23, (62, 5, 7, 838)) := by decide +kernel
theorem s_X7_nextOfOrder_27 {ca : Nat → List Value → tM → tO} {M : tM} {L : tL} {v1 v2 v3 v4 v5 : Value} {b : Nat} : rn ca C_X7_nextOfOrder 27 L [v5, v4, v3, v2, v1, .ref b] M = if clsO b = some 7 then rnk ca C_X7_nextOfOrder 30 L [] (ca m_X7_leastOver [.ref b, v1, v2, v3, v4, v5] M) else none := (rn_at k_X7_nextOfOrder_27).trans rnx_ite
theorem k_X7_nextOfOrder_30 : lk 30 C_X7_nextOfOrder = some (.aload_n 0, (0, 0, 0, 0)) := by decide +kernel
theorem s_X7_nextOfOrder_30 {ca : Nat → List Value → tM → tO} {M : tM} {a1 a2 a3 a4 a5 : Option Value} {x : Nat} {S : List Value} : rn ca C_X7_nextOfOrder 30 [some (.ref x), a1, a2, a3, a4, a5] S M = rn ca C_X7_nextOfOrder 31 [some (.ref x), a1, a2, a3, a4, a5] (.ref x :: S) M := (rn_at k_X7_nextOfOrder_30).trans rfl
theorem k_X7_nextOfOrder_31 : lk 31 C_X7_nextOfOrder = some (.iload_n 2, (0, 0, 0, 0)) := by decide +kernel
theorem s_X7_nextOfOrder_31 {ca : Nat → List Value → tM → tO} {M : tM} {a0 a1 a3 a4 a5 : Option Value} {x : Int32} {S : List Value} : rn ca C_X7_nextOfOrder 31 [a0, a1, some (.int x), a3, a4, a5] S M = rn ca C_X7_nextOfOrder 32 [a0, a1, some (.int x), a3, a4, a5] (.int x :: S) M := (rn_at k_X7_nextOfOrder_31).trans rfl
theorem k_X7_nextOfOrder_32 : lk 32 C_X7_nextOfOrder = some (.iload_n 3, (0, 0, 0, 0)) := by decide +kernel
theorem s_X7_nextOfOrder_32 {ca : Nat → List Value → tM → tO} {M : tM} {a0 a1 a2 a4 a5 : Option Value} {x : Int32} {S : List Value} : rn ca C_X7_nextOfOrder 32 [a0, a1, a2, some (.int x), a4, a5] S M = rn ca C_X7_nextOfOrder 33 [a0, a1, a2, some (.int x), a4, a5] (.int x :: S) M := (rn_at k_X7_nextOfOrder_32).trans rfl
theorem k_X7_nextOfOrder_33 : lk 33 C_X7_nextOfOrder = some (.invokevirtual 19, (60, 2, 7, 843)) := by decide +kernel
theorem s_X7_nextOfOrder_33 {ca : Nat → List Value → tM → tO} {M : tM} {L : tL} {v1 v2 : Value} {r0 : Int32} {b : Nat} : rn ca C_X7_nextOfOrder 33 L [v2, v1, .ref b, .int r0] M = if clsO b = some 7 then rnk ca C_X7_nextOfOrder 36 L [.int r0] (ca m_X7_bestOf [.ref b, v1, v2] M) else none := (rn_at k_X7_nextOfOrder_33).trans rnx_ite
theorem k_X7_nextOfOrder_36 : lk 36 C_X7_nextOfOrder = some (.if_icmp .ne 6, (42, 0, 0, 0)) := by decide +kernel
theorem s_X7_nextOfOrder_36 {ca : Nat → List Value → tM → tO} {M : tM} {L : tL} {x y : Int32} {S : List Value} : rn ca C_X7_nextOfOrder 36 L (.int y :: .int x :: S) M = if ¬ x = y then rn ca C_X7_nextOfOrder 42 L S M else rn ca C_X7_nextOfOrder 39 L S M := (rn_at k_X7_nextOfOrder_36).trans rnx_ite
theorem k_X7_nextOfOrder_39 : lk 39 C_X7_nextOfOrder = some (.iload 5, (0, 0, 0, 0)) := by decide +kernel
theorem s_X7_nextOfOrder_39 {ca : Nat → List Value → tM → tO} {M : tM} {a0 a1 a2 a3 a4 : Option Value} {x : Int32} {S : List Value} : rn ca C_X7_nextOfOrder 39 [a0, a1, a2, a3, a4, some (.int x)] S M = rn ca C_X7_nextOfOrder 41 [a0, a1, a2, a3, a4, some (.int x)] (.int x :: S) M := (rn_at k_X7_nextOfOrder_39).trans rfl
theorem k_X7_nextOfOrder_41 : lk 41 C_X7_nextOfOrder = some (.ireturn, (0, 0, 0, 0)) := by decide +kernel
theorem s_X7_nextOfOrder_41 {ca : Nat → List Value → tM → tO} {M : tM} {L : tL} {x : Int32} : rn ca C_X7_nextOfOrder 41 L [.int x] M = some (some (.int x), M) := (rn_at k_X7_nextOfOrder_41).trans rfl
theorem k_X7_nextOfOrder_42 : lk 42 C_X7_nextOfOrder = some (.iinc 5 1, (0, 0, 0, 0)) := by decide +kernel
theorem s_X7_nextOfOrder_42 {ca : Nat → List Value → tM → tO} {M : tM} {a0 a1 a2 a3 a4 : Option Value} {x : Int32} {S : List Value} : rn ca C_X7_nextOfOrder 42 [a0, a1, a2, a3, a4, some (.int x)] S M = rn ca C_X7_nextOfOrder 45 [a0, a1, a2, a3, a4, some (.int (x + iI 1))] S M := (rn_at k_X7_nextOfOrder_42).trans rfl
theorem k_X7_nextOfOrder_45 : lk 45 C_X7_nextOfOrder = some (.goto (-42), (3, 0, 0, 0)) := by decide +kernel
theorem s_X7_nextOfOrder_45 {ca : Nat → List Value → tM → tO} {M : tM} {L : tL} {S : List Value} : rn ca C_X7_nextOfOrder 45 L S M = rn ca C_X7_nextOfOrder 3 L S M := (rn_at k_X7_nextOfOrder_45).trans rfl
theorem k_X7_nextOfOrder_48 : lk 48 C_X7_nextOfOrder = some (.iconst (-1), (0, 0, 0, 0)) := by decide +kernel
theorem s_X7_nextOfOrder_48 {ca : Nat → List Value → tM → tO} {M : tM} {L : tL} {S : List Value} : rn ca C_X7_nextOfOrder 48 L S M = rn ca C_X7_nextOfOrder 49 L (.int (iI (-1)) :: S) M := (rn_at k_X7_nextOfOrder_48).trans rfl
theorem k_X7_nextOfOrder_49 : lk 49 C_X7_nextOfOrder = some (.ireturn, (0, 0, 0, 0)) := by decide +kernel
theorem s_X7_nextOfOrder_49 {ca : Nat → List Value → tM → tO} {M : tM} {L : tL} {x : Int32} : rn ca C_X7_nextOfOrder 49 L [.int x] M = some (some (.int x), M) := (rn_at k_X7_nextOfOrder_49).trans rfl
theorem k_X8_hasShelf_0 : lk 0 C_X8_hasShelf = some (.iload_n 1, (0, 0, 0, 0)) := by decide +kernel
theorem s_X8_hasShelf_0 {ca : Nat → List Value → tM → tO} {M : tM} {a0 : Option Value} {x : Int32} {S : List Value} : rn ca C_X8_hasShelf 0 [a0, some (.int x)] S M = rn ca C_X8_hasShelf 1 [a0, some (.int x)] (.int x :: S) M := (rn_at k_X8_hasShelf_0).trans rfl
theorem k_X8_hasShelf_1 : lk 1 C_X8_hasShelf = some (.ifCond .lt 13, (14, 0, 0, 0)) := by decide +kernel
theorem s_X8_hasShelf_1 {ca : Nat → List Value → tM → tO} {M : tM} {L : tL} {x : Int32} {S : List Value} : rn ca C_X8_hasShelf 1 L (.int x :: S) M = if x < iI 0 then rn ca C_X8_hasShelf 14 L S M else rn ca C_X8_hasShelf 4 L S M := (rn_at k_X8_hasShelf_1).trans rnx_ite
theorem k_X8_hasShelf_4 : lk 4 C_X8_hasShelf = some (.iload_n 1, (0, 0, 0, 0)) := by decide +kernel
theorem s_X8_hasShelf_4 {ca : Nat → List Value → tM → tO} {M : tM} {a0 : Option Value} {x : Int32} {S : List Value} : rn ca C_X8_hasShelf 4 [a0, some (.int x)] S M = rn ca C_X8_hasShelf 5 [a0, some (.int x)] (.int x :: S) M := (rn_at k_X8_hasShelf_4).trans rfl
theorem k_X8_hasShelf_5 : lk 5 C_X8_hasShelf = some (.bipush 8, (0, 0, 0, 0)) := by decide +kernel
theorem s_X8_hasShelf_5 {ca : Nat → List Value → tM → tO} {M : tM} {L : tL} {S : List Value} : rn ca C_X8_hasShelf 5 L S M = rn ca C_X8_hasShelf 7 L (.int (iI 8) :: S) M := (rn_at k_X8_hasShelf_5).trans rfl
theorem k_X8_hasShelf_7 : lk 7 C_X8_hasShelf = some (.if_icmp .ge 7, (14, 0, 0, 0)) := by decide +kernel
theorem s_X8_hasShelf_7 {ca : Nat → List Value → tM → tO} {M : tM} {L : tL} {x y : Int32} {S : List Value} : rn ca C_X8_hasShelf 7 L (.int y :: .int x :: S) M = if y ≤ x then rn ca C_X8_hasShelf 14 L S M else rn ca C_X8_hasShelf 10 L S M := (rn_at k_X8_hasShelf_7).trans rnx_ite
theorem k_X8_hasShelf_10 : lk 10 C_X8_hasShelf = some (.iconst 1, (0, 0, 0, 0)) := by decide +kernel
theorem s_X8_hasShelf_10 {ca : Nat → List Value → tM → tO} {M : tM} {L : tL} {S : List Value} : rn ca C_X8_hasShelf 10 L S M = rn ca C_X8_hasShelf 11 L (.int (iI 1) :: S) M := (rn_at k_X8_hasShelf_10).trans rfl
theorem k_X8_hasShelf_11 : lk 11 C_X8_hasShelf = some (.goto 4, (15, 0, 0, 0)) := by decide +kernel
theorem s_X8_hasShelf_11 {ca : Nat → List Value → tM → tO} {M : tM} {L : tL} {S : List Value} : rn ca C_X8_hasShelf 11 L S M = rn ca C_X8_hasShelf 15 L S M := (rn_at k_X8_hasShelf_11).trans rfl
theorem k_X8_hasShelf_14 : lk 14 C_X8_hasShelf = some (.iconst 0, (0, 0, 0, 0)) := by decide +kernel
theorem s_X8_hasShelf_14 {ca : Nat → List Value → tM → tO} {M : tM} {L : tL} {S : List Value} : rn ca C_X8_hasShelf 14 L S M = rn ca C_X8_hasShelf 15 L (.int (iI 0) :: S) M := (rn_at k_X8_hasShelf_14).trans rfl
theorem k_X8_hasShelf_15 : lk 15 C_X8_hasShelf = some (.ireturn, (1, 0, 0, 0)) := by decide +kernel
theorem s_X8_hasShelf_15 {ca : Nat → List Value → tM → tO} {M : tM} {L : tL} {x : Int32} : rn ca C_X8_hasShelf 15 L [.int x] M = if x = iI 0 ∨ x = iI 1 then some (some (.int x), M) else none := (rn_at k_X8_hasShelf_15).trans rnx_ite
theorem k_X8_hasRow_0 : lk 0 C_X8_hasRow = some (.aload_n 0, (0, 0, 0, 0)) := by decide +kernel
theorem s_X8_hasRow_0 {ca : Nat → List Value → tM → tO} {M : tM} {a1 : Option Value} {x : Nat} {S : List Value} : rn ca C_X8_hasRow 0 [some (.ref x), a1] S M = rn ca C_X8_hasRow 1 [some (.ref x), a1] (.ref x :: S) M := (rn_at k_X8_hasRow_0).trans rfl
theorem k_X8_hasRow_1 : lk 1 C_X8_hasRow = some (.iload_n 1, (0, 0, 0, 0)) := by decide +kernel
theorem s_X8_hasRow_1 {ca : Nat → List Value → tM → tO} {M : tM} {a0 : Option Value} {x : Int32} {S : List Value} : rn ca C_X8_hasRow 1 [a0, some (.int x)] S M = rn ca C_X8_hasRow 2 [a0, some (.int x)] (.int x :: S) M := (rn_at k_X8_hasRow_1).trans rfl
theorem k_X8_hasRow_2 : lk 2 C_X8_hasRow = some (.invokevirtual 23, (65, 1, 8, 183)) := by decide +kernel
theorem s_X8_hasRow_2 {ca : Nat → List Value → tM → tO} {M : tM} {L : tL} {v1 : Value} {b : Nat} : rn ca C_X8_hasRow 2 L [v1, .ref b] M = if clsO b = some 8 then rnk ca C_X8_hasRow 5 L [] (ca m_X8_hasShelf [.ref b, v1] M) else none := (rn_at k_X8_hasRow_2).trans rnx_ite
theorem k_X8_hasRow_5 : lk 5 C_X8_hasRow = some (.ifCond .eq 18, (23, 0, 0, 0)) := by decide +kernel
theorem s_X8_hasRow_5 {ca : Nat → List Value → tM → tO} {M : tM} {L : tL} {x : Int32} {S : List Value} : rn ca C_X8_hasRow 5 L (.int x :: S) M = if x = iI 0 then rn ca C_X8_hasRow 23 L S M else rn ca C_X8_hasRow 8 L S M := (rn_at k_X8_hasRow_5).trans rnx_ite
theorem k_X8_hasRow_8 : lk 8 C_X8_hasRow = some (.aload_n 0, (0, 0, 0, 0)) := by decide +kernel
theorem s_X8_hasRow_8 {ca : Nat → List Value → tM → tO} {M : tM} {a1 : Option Value} {x : Nat} {S : List Value} : rn ca C_X8_hasRow 8 [some (.ref x), a1] S M = rn ca C_X8_hasRow 9 [some (.ref x), a1] (.ref x :: S) M := (rn_at k_X8_hasRow_8).trans rfl
theorem k_X8_hasRow_9 : lk 9 C_X8_hasRow = some (.getfield 9, (8, 0, 0, 81)) := by decide +kernel
theorem s_X8_hasRow_9 {ca : Nat → List Value → tM → tO} {M : tM} {L : tL} {b : Nat} {S : List Value} : rn ca C_X8_hasRow 9 L (.ref b :: S) M = if clsO b = some 8 then rn ca C_X8_hasRow 12 L (fv M b 0 :: S) M else none := (rn_at k_X8_hasRow_9).trans rnx_ite
theorem k_X8_hasRow_12 : lk 12 C_X8_hasRow = some (.iload_n 1, (0, 0, 0, 0)) := by decide +kernel
theorem s_X8_hasRow_12 {ca : Nat → List Value → tM → tO} {M : tM} {a0 : Option Value} {x : Int32} {S : List Value} : rn ca C_X8_hasRow 12 [a0, some (.int x)] S M = rn ca C_X8_hasRow 13 [a0, some (.int x)] (.int x :: S) M := (rn_at k_X8_hasRow_12).trans rfl
theorem k_X8_hasRow_13 : lk 13 C_X8_hasRow = some (.iaload, (0, 0, 0, 0)) := by decide +kernel
theorem s_X8_hasRow_13 {ca : Nat → List Value → tM → tO} {M : tM} {L : tL} {a : Nat} {i : Int32} {S : List Value} : rn ca C_X8_hasRow 13 L (.int i :: .ref a :: S) M = if (akind a = 0 ∨ akind a = 6 ∨ akind a = 7) ∧ inb i (alen M a) then rn ca C_X8_hasRow 14 L (.int (M.1 a i.toInt.toNat) :: S) M else none := (rn_at k_X8_hasRow_13).trans rnx_ite
theorem k_X8_hasRow_14 : lk 14 C_X8_hasRow = some (.bipush 100, (0, 0, 0, 0)) := by decide +kernel
theorem s_X8_hasRow_14 {ca : Nat → List Value → tM → tO} {M : tM} {L : tL} {S : List Value} : rn ca C_X8_hasRow 14 L S M = rn ca C_X8_hasRow 16 L (.int (iI 100) :: S) M := (rn_at k_X8_hasRow_14).trans rfl
theorem k_X8_hasRow_16 : lk 16 C_X8_hasRow = some (.if_icmp .lt 7, (23, 0, 0, 0)) := by decide +kernel
theorem s_X8_hasRow_16 {ca : Nat → List Value → tM → tO} {M : tM} {L : tL} {x y : Int32} {S : List Value} : rn ca C_X8_hasRow 16 L (.int y :: .int x :: S) M = if x < y then rn ca C_X8_hasRow 23 L S M else rn ca C_X8_hasRow 19 L S M := (rn_at k_X8_hasRow_16).trans rnx_ite
theorem k_X8_hasRow_19 : lk 19 C_X8_hasRow = some (.iconst 1, (0, 0, 0, 0)) := by decide +kernel
theorem s_X8_hasRow_19 {ca : Nat → List Value → tM → tO} {M : tM} {L : tL} {S : List Value} : rn ca C_X8_hasRow 19 L S M = rn ca C_X8_hasRow 20 L (.int (iI 1) :: S) M := (rn_at k_X8_hasRow_19).trans rfl
theorem k_X8_hasRow_20 : lk 20 C_X8_hasRow = some (.goto 4, (24, 0, 0, 0)) := by decide +kernel
theorem s_X8_hasRow_20 {ca : Nat → List Value → tM → tO} {M : tM} {L : tL} {S : List Value} : rn ca C_X8_hasRow 20 L S M = rn ca C_X8_hasRow 24 L S M := (rn_at k_X8_hasRow_20).trans rfl
theorem k_X8_hasRow_23 : lk 23 C_X8_hasRow = some (.iconst 0, (0, 0, 0, 0)) := by decide +kernel
theorem s_X8_hasRow_23 {ca : Nat → List Value → tM → tO} {M : tM} {L : tL} {S : List Value} : rn ca C_X8_hasRow 23 L S M = rn ca C_X8_hasRow 24 L (.int (iI 0) :: S) M := (rn_at k_X8_hasRow_23).trans rfl
theorem k_X8_hasRow_24 : lk 24 C_X8_hasRow = some (.ireturn, (1, 0, 0, 0)) := by decide +kernel
theorem s_X8_hasRow_24 {ca : Nat → List Value → tM → tO} {M : tM} {L : tL} {x : Int32} : rn ca C_X8_hasRow 24 L [.int x] M = if x = iI 0 ∨ x = iI 1 then some (some (.int x), M) else none := (rn_at k_X8_hasRow_24).trans rnx_ite
theorem k_X8_heldAt_0 : lk 0 C_X8_heldAt = some (.aload_n 0, (0, 0, 0, 0)) := by decide +kernel
theorem s_X8_heldAt_0 {ca : Nat → List Value → tM → tO} {M : tM} {a1 : Option Value} {x : Nat} {S : List Value} : rn ca C_X8_heldAt 0 [some (.ref x), a1] S M = rn ca C_X8_heldAt 1 [some (.ref x), a1] (.ref x :: S) M := (rn_at k_X8_heldAt_0).trans rfl
theorem k_X8_heldAt_1 : lk 1 C_X8_heldAt = some (.iload_n 1, (0, 0, 0, 0)) := by decide +kernel
theorem s_X8_heldAt_1 {ca : Nat → List Value → tM → tO} {M : tM} {a0 : Option Value} {x : Int32} {S : List Value} : rn ca C_X8_heldAt 1 [a0, some (.int x)] S M = rn ca C_X8_heldAt 2 [a0, some (.int x)] (.int x :: S) M := (rn_at k_X8_heldAt_1).trans rfl
theorem k_X8_heldAt_2 : lk 2 C_X8_heldAt = some (.invokevirtual 23, (65, 1, 8, 183)) := by decide +kernel
theorem s_X8_heldAt_2 {ca : Nat → List Value → tM → tO} {M : tM} {L : tL} {v1 : Value} {b : Nat} : rn ca C_X8_heldAt 2 L [v1, .ref b] M = if clsO b = some 8 then rnk ca C_X8_heldAt 5 L [] (ca m_X8_hasShelf [.ref b, v1] M) else none := (rn_at k_X8_heldAt_2).trans rnx_ite
theorem k_X8_heldAt_5 : lk 5 C_X8_heldAt = some (.ifCond .eq 12, (17, 0, 0, 0)) := by decide +kernel
theorem s_X8_heldAt_5 {ca : Nat → List Value → tM → tO} {M : tM} {L : tL} {x : Int32} {S : List Value} : rn ca C_X8_heldAt 5 L (.int x :: S) M = if x = iI 0 then rn ca C_X8_heldAt 17 L S M else rn ca C_X8_heldAt 8 L S M := (rn_at k_X8_heldAt_5).trans rnx_ite
theorem k_X8_heldAt_8 : lk 8 C_X8_heldAt = some (.aload_n 0, (0, 0, 0, 0)) := by decide +kernel
theorem s_X8_heldAt_8 {ca : Nat → List Value → tM → tO} {M : tM} {a1 : Option Value} {x : Nat} {S : List Value} : rn ca C_X8_heldAt 8 [some (.ref x), a1] S M = rn ca C_X8_heldAt 9 [some (.ref x), a1] (.ref x :: S) M := (rn_at k_X8_heldAt_8).trans rfl
theorem k_X8_heldAt_9 : lk 9 C_X8_heldAt = some (.getfield 9, (8, 0, 0, 81)) := by decide +kernel
theorem s_X8_heldAt_9 {ca : Nat → List Value → tM → tO} {M : tM} {L : tL} {b : Nat} {S : List Value} : rn ca C_X8_heldAt 9 L (.ref b :: S) M = if clsO b = some 8 then rn ca C_X8_heldAt 12 L (fv M b 0 :: S) M else none := (rn_at k_X8_heldAt_9).trans rnx_ite
theorem k_X8_heldAt_12 : lk 12 C_X8_heldAt = some (.iload_n 1, (0, 0, 0, 0)) := by decide +kernel
theorem s_X8_heldAt_12 {ca : Nat → List Value → tM → tO} {M : tM} {a0 : Option Value} {x : Int32} {S : List Value} : rn ca C_X8_heldAt 12 [a0, some (.int x)] S M = rn ca C_X8_heldAt 13 [a0, some (.int x)] (.int x :: S) M := (rn_at k_X8_heldAt_12).trans rfl
theorem k_X8_heldAt_13 : lk 13 C_X8_heldAt = some (.iaload, (0, 0, 0, 0)) := by decide +kernel
theorem s_X8_heldAt_13 {ca : Nat → List Value → tM → tO} {M : tM} {L : tL} {a : Nat} {i : Int32} {S : List Value} : rn ca C_X8_heldAt 13 L (.int i :: .ref a :: S) M = if (akind a = 0 ∨ akind a = 6 ∨ akind a = 7) ∧ inb i (alen M a) then rn ca C_X8_heldAt 14 L (.int (M.1 a i.toInt.toNat) :: S) M else none := (rn_at k_X8_heldAt_13).trans rnx_ite
theorem k_X8_heldAt_14 : lk 14 C_X8_heldAt = some (.goto 4, (18, 0, 0, 0)) := by decide +kernel
theorem s_X8_heldAt_14 {ca : Nat → List Value → tM → tO} {M : tM} {L : tL} {S : List Value} : rn ca C_X8_heldAt 14 L S M = rn ca C_X8_heldAt 18 L S M := (rn_at k_X8_heldAt_14).trans rfl
theorem k_X8_heldAt_17 : lk 17 C_X8_heldAt = some (.iconst (-1), (0, 0, 0, 0)) := by decide +kernel
theorem s_X8_heldAt_17 {ca : Nat → List Value → tM → tO} {M : tM} {L : tL} {S : List Value} : rn ca C_X8_heldAt 17 L S M = rn ca C_X8_heldAt 18 L (.int (iI (-1)) :: S) M := (rn_at k_X8_heldAt_17).trans rfl
theorem k_X8_heldAt_18 : lk 18 C_X8_heldAt = some (.ireturn, (0, 0, 0, 0)) := by decide +kernel
theorem s_X8_heldAt_18 {ca : Nat → List Value → tM → tO} {M : tM} {L : tL} {x : Int32} : rn ca C_X8_heldAt 18 L [.int x] M = some (some (.int x), M) := (rn_at k_X8_heldAt_18).trans rfl
theorem k_X8_sizeOf_0 : lk 0 C_X8_sizeOf = some (.aload_n 0, (0, 0, 0, 0)) := by decide +kernel
theorem s_X8_sizeOf_0 {ca : Nat → List Value → tM → tO} {M : tM} {a1 : Option Value} {x : Nat} {S : List Value} : rn ca C_X8_sizeOf 0 [some (.ref x), a1] S M = rn ca C_X8_sizeOf 1 [some (.ref x), a1] (.ref x :: S) M := (rn_at k_X8_sizeOf_0).trans rfl
theorem k_X8_sizeOf_1 : lk 1 C_X8_sizeOf = some (.iload_n 1, (0, 0, 0, 0)) := by decide +kernel
theorem s_X8_sizeOf_1 {ca : Nat → List Value → tM → tO} {M : tM} {a0 : Option Value} {x : Int32} {S : List Value} : rn ca C_X8_sizeOf 1 [a0, some (.int x)] S M = rn ca C_X8_sizeOf 2 [a0, some (.int x)] (.int x :: S) M := (rn_at k_X8_sizeOf_1).trans rfl
theorem k_X8_sizeOf_2 : lk 2 C_X8_sizeOf = some (.invokevirtual 23, (65, 1, 8, 183)) := by decide +kernel
theorem s_X8_sizeOf_2 {ca : Nat → List Value → tM → tO} {M : tM} {L : tL} {v1 : Value} {b : Nat} : rn ca C_X8_sizeOf 2 L [v1, .ref b] M = if clsO b = some 8 then rnk ca C_X8_sizeOf 5 L [] (ca m_X8_hasShelf [.ref b, v1] M) else none := (rn_at k_X8_sizeOf_2).trans rnx_ite
theorem k_X8_sizeOf_5 : lk 5 C_X8_sizeOf = some (.ifCond .eq 12, (17, 0, 0, 0)) := by decide +kernel
theorem s_X8_sizeOf_5 {ca : Nat → List Value → tM → tO} {M : tM} {L : tL} {x : Int32} {S : List Value} : rn ca C_X8_sizeOf 5 L (.int x :: S) M = if x = iI 0 then rn ca C_X8_sizeOf 17 L S M else rn ca C_X8_sizeOf 8 L S M := (rn_at k_X8_sizeOf_5).trans rnx_ite
theorem k_X8_sizeOf_8 : lk 8 C_X8_sizeOf = some (.aload_n 0, (0, 0, 0, 0)) := by decide +kernel
theorem s_X8_sizeOf_8 {ca : Nat → List Value → tM → tO} {M : tM} {a1 : Option Value} {x : Nat} {S : List Value} : rn ca C_X8_sizeOf 8 [some (.ref x), a1] S M = rn ca C_X8_sizeOf 9 [some (.ref x), a1] (.ref x :: S) M := (rn_at k_X8_sizeOf_8).trans rfl
theorem k_X8_sizeOf_9 : lk 9 C_X8_sizeOf = some (.getfield 15, (8, 1, 0, 82)) := by decide +kernel
theorem s_X8_sizeOf_9 {ca : Nat → List Value → tM → tO} {M : tM} {L : tL} {b : Nat} {S : List Value} : rn ca C_X8_sizeOf 9 L (.ref b :: S) M = if clsO b = some 8 then rn ca C_X8_sizeOf 12 L (fv M b 1 :: S) M else none := (rn_at k_X8_sizeOf_9).trans rnx_ite
theorem k_X8_sizeOf_12 : lk 12 C_X8_sizeOf = some (.iload_n 1, (0, 0, 0, 0)) := by decide +kernel
theorem s_X8_sizeOf_12 {ca : Nat → List Value → tM → tO} {M : tM} {a0 : Option Value} {x : Int32} {S : List Value} : rn ca C_X8_sizeOf 12 [a0, some (.int x)] S M = rn ca C_X8_sizeOf 13 [a0, some (.int x)] (.int x :: S) M := (rn_at k_X8_sizeOf_12).trans rfl
theorem k_X8_sizeOf_13 : lk 13 C_X8_sizeOf = some (.iaload, (0, 0, 0, 0)) := by decide +kernel
theorem s_X8_sizeOf_13 {ca : Nat → List Value → tM → tO} {M : tM} {L : tL} {a : Nat} {i : Int32} {S : List Value} : rn ca C_X8_sizeOf 13 L (.int i :: .ref a :: S) M = if (akind a = 0 ∨ akind a = 6 ∨ akind a = 7) ∧ inb i (alen M a) then rn ca C_X8_sizeOf 14 L (.int (M.1 a i.toInt.toNat) :: S) M else none := (rn_at k_X8_sizeOf_13).trans rnx_ite
theorem k_X8_sizeOf_14 : lk 14 C_X8_sizeOf = some (.goto 4, (18, 0, 0, 0)) := by decide +kernel
theorem s_X8_sizeOf_14 {ca : Nat → List Value → tM → tO} {M : tM} {L : tL} {S : List Value} : rn ca C_X8_sizeOf 14 L S M = rn ca C_X8_sizeOf 18 L S M := (rn_at k_X8_sizeOf_14).trans rfl
theorem k_X8_sizeOf_17 : lk 17 C_X8_sizeOf = some (.iconst 0, (0, 0, 0, 0)) := by decide +kernel
theorem s_X8_sizeOf_17 {ca : Nat → List Value → tM → tO} {M : tM} {L : tL} {S : List Value} : rn ca C_X8_sizeOf 17 L S M = rn ca C_X8_sizeOf 18 L (.int (iI 0) :: S) M := (rn_at k_X8_sizeOf_17).trans rfl
theorem k_X8_sizeOf_18 : lk 18 C_X8_sizeOf = some (.ireturn, (0, 0, 0, 0)) := by decide +kernel
theorem s_X8_sizeOf_18 {ca : Nat → List Value → tM → tO} {M : tM} {L : tL} {x : Int32} : rn ca C_X8_sizeOf 18 L [.int x] M = some (some (.int x), M) := (rn_at k_X8_sizeOf_18).trans rfl
theorem k_X8_putRow_0 : lk 0 C_X8_putRow = some (.aload_n 0, (0, 0, 0, 0)) := by decide +kernel
theorem s_X8_putRow_0 {ca : Nat → List Value → tM → tO} {M : tM} {a1 a2 a3 : Option Value} {x : Nat} {S : List Value} : rn ca C_X8_putRow 0 [some (.ref x), a1, a2, a3] S M = rn ca C_X8_putRow 1 [some (.ref x), a1, a2, a3] (.ref x :: S) M := (rn_at k_X8_putRow_0).trans rfl
theorem k_X8_putRow_1 : lk 1 C_X8_putRow = some (.iload_n 1, (0, 0, 0, 0)) := by decide +kernel
theorem s_X8_putRow_1 {ca : Nat → List Value → tM → tO} {M : tM} {a0 a2 a3 : Option Value} {x : Int32} {S : List Value} : rn ca C_X8_putRow 1 [a0, some (.int x), a2, a3] S M = rn ca C_X8_putRow 2 [a0, some (.int x), a2, a3] (.int x :: S) M := (rn_at k_X8_putRow_1).trans rfl
theorem k_X8_putRow_2 : lk 2 C_X8_putRow = some (.invokevirtual 23, (65, 1, 8, 183)) := by decide +kernel
theorem s_X8_putRow_2 {ca : Nat → List Value → tM → tO} {M : tM} {L : tL} {v1 : Value} {b : Nat} : rn ca C_X8_putRow 2 L [v1, .ref b] M = if clsO b = some 8 then rnk ca C_X8_putRow 5 L [] (ca m_X8_hasShelf [.ref b, v1] M) else none := (rn_at k_X8_putRow_2).trans rnx_ite
theorem k_X8_putRow_5 : lk 5 C_X8_putRow = some (.ifCond .eq 41, (46, 0, 0, 0)) := by decide +kernel
theorem s_X8_putRow_5 {ca : Nat → List Value → tM → tO} {M : tM} {L : tL} {x : Int32} {S : List Value} : rn ca C_X8_putRow 5 L (.int x :: S) M = if x = iI 0 then rn ca C_X8_putRow 46 L S M else rn ca C_X8_putRow 8 L S M := (rn_at k_X8_putRow_5).trans rnx_ite
theorem k_X8_putRow_8 : lk 8 C_X8_putRow = some (.iload_n 3, (0, 0, 0, 0)) := by decide +kernel
theorem s_X8_putRow_8 {ca : Nat → List Value → tM → tO} {M : tM} {a0 a1 a2 : Option Value} {x : Int32} {S : List Value} : rn ca C_X8_putRow 8 [a0, a1, a2, some (.int x)] S M = rn ca C_X8_putRow 9 [a0, a1, a2, some (.int x)] (.int x :: S) M := (rn_at k_X8_putRow_8).trans rfl
theorem k_X8_putRow_9 : lk 9 C_X8_putRow = some (.ifCond .lt 37, (46, 0, 0, 0)) := by decide +kernel
theorem s_X8_putRow_9 {ca : Nat → List Value → tM → tO} {M : tM} {L : tL} {x : Int32} {S : List Value} : rn ca C_X8_putRow 9 L (.int x :: S) M = if x < iI 0 then rn ca C_X8_putRow 46 L S M else rn ca C_X8_putRow 12 L S M := (rn_at k_X8_putRow_9).trans rnx_ite
theorem k_X8_putRow_12 : lk 12 C_X8_putRow = some (.iload_n 3, (0, 0, 0, 0)) := by decide +kernel
theorem s_X8_putRow_12 {ca : Nat → List Value → tM → tO} {M : tM} {a0 a1 a2 : Option Value} {x : Int32} {S : List Value} : rn ca C_X8_putRow 12 [a0, a1, a2, some (.int x)] S M = rn ca C_X8_putRow 13 [a0, a1, a2, some (.int x)] (.int x :: S) M := (rn_at k_X8_putRow_12).trans rfl
theorem k_X8_putRow_13 : lk 13 C_X8_putRow = some (.sipush 160, (0, 0, 0, 0)) := by decide +kernel
theorem s_X8_putRow_13 {ca : Nat → List Value → tM → tO} {M : tM} {L : tL} {S : List Value} : rn ca C_X8_putRow 13 L S M = rn ca C_X8_putRow 16 L (.int (iI 160) :: S) M := (rn_at k_X8_putRow_13).trans rfl
theorem k_X8_putRow_16 : lk 16 C_X8_putRow = some (.if_icmp .gt 30, (46, 0, 0, 0)) := by decide +kernel
theorem s_X8_putRow_16 {ca : Nat → List Value → tM → tO} {M : tM} {L : tL} {x y : Int32} {S : List Value} : rn ca C_X8_putRow 16 L (.int y :: .int x :: S) M = if y < x then rn ca C_X8_putRow 46 L S M else rn ca C_X8_putRow 19 L S M := (rn_at k_X8_putRow_16).trans rnx_ite
theorem k_X8_putRow_19 : lk 19 C_X8_putRow = some (.aload_n 0, (0, 0, 0, 0)) := by decide +kernel
theorem s_X8_putRow_19 {ca : Nat → List Value → tM → tO} {M : tM} {a1 a2 a3 : Option Value} {x : Nat} {S : List Value} : rn ca C_X8_putRow 19 [some (.ref x), a1, a2, a3] S M = rn ca C_X8_putRow 20 [some (.ref x), a1, a2, a3] (.ref x :: S) M := (rn_at k_X8_putRow_19).trans rfl
theorem k_X8_putRow_20 : lk 20 C_X8_putRow = some (.getfield 9, (8, 0, 0, 81)) := by decide +kernel
theorem s_X8_putRow_20 {ca : Nat → List Value → tM → tO} {M : tM} {L : tL} {b : Nat} {S : List Value} : rn ca C_X8_putRow 20 L (.ref b :: S) M = if clsO b = some 8 then rn ca C_X8_putRow 23 L (fv M b 0 :: S) M else none := (rn_at k_X8_putRow_20).trans rnx_ite
theorem k_X8_putRow_23 : lk 23 C_X8_putRow = some (.iload_n 1, (0, 0, 0, 0)) := by decide +kernel
theorem s_X8_putRow_23 {ca : Nat → List Value → tM → tO} {M : tM} {a0 a2 a3 : Option Value} {x : Int32} {S : List Value} : rn ca C_X8_putRow 23 [a0, some (.int x), a2, a3] S M = rn ca C_X8_putRow 24 [a0, some (.int x), a2, a3] (.int x :: S) M := (rn_at k_X8_putRow_23).trans rfl
theorem k_X8_putRow_24 : lk 24 C_X8_putRow = some (.bipush 100, (0, 0, 0, 0)) := by decide +kernel
theorem s_X8_putRow_24 {ca : Nat → List Value → tM → tO} {M : tM} {L : tL} {S : List Value} : rn ca C_X8_putRow 24 L S M = rn ca C_X8_putRow 26 L (.int (iI 100) :: S) M := (rn_at k_X8_putRow_24).trans rfl
theorem k_X8_putRow_26 : lk 26 C_X8_putRow = some (.iload_n 2, (0, 0, 0, 0)) := by decide +kernel
theorem s_X8_putRow_26 {ca : Nat → List Value → tM → tO} {M : tM} {a0 a1 a3 : Option Value} {x : Int32} {S : List Value} : rn ca C_X8_putRow 26 [a0, a1, some (.int x), a3] S M = rn ca C_X8_putRow 27 [a0, a1, some (.int x), a3] (.int x :: S) M := (rn_at k_X8_putRow_26).trans rfl
theorem k_X8_putRow_27 : lk 27 C_X8_putRow = some (.iadd, (0, 0, 0, 0)) := by decide +kernel
theorem s_X8_putRow_27 {ca : Nat → List Value → tM → tO} {M : tM} {L : tL} {x y : Int32} {S : List Value} : rn ca C_X8_putRow 27 L (.int y :: .int x :: S) M = rn ca C_X8_putRow 28 L (.int (x + y) :: S) M := (rn_at k_X8_putRow_27).trans rfl
theorem k_X8_putRow_28 : lk 28 C_X8_putRow = some (.iastore, (0, 0, 0, 0)) := by decide +kernel
theorem s_X8_putRow_28 {ca : Nat → List Value → tM → tO} {M : tM} {L : tL} {a : Nat} {i x : Int32} {S : List Value} : rn ca C_X8_putRow 28 L (.int x :: .int i :: .ref a :: S) M = if akind a = 0 ∧ inb i (alen M a) then rn ca C_X8_putRow 29 L S (sI M a i.toInt.toNat x) else none := (rn_at k_X8_putRow_28).trans rnx_ite
theorem k_X8_putRow_29 : lk 29 C_X8_putRow = some (.aload_n 0, (0, 0, 0, 0)) := by decide +kernel
theorem s_X8_putRow_29 {ca : Nat → List Value → tM → tO} {M : tM} {a1 a2 a3 : Option Value} {x : Nat} {S : List Value} : rn ca C_X8_putRow 29 [some (.ref x), a1, a2, a3] S M = rn ca C_X8_putRow 30 [some (.ref x), a1, a2, a3] (.ref x :: S) M := (rn_at k_X8_putRow_29).trans rfl
theorem k_X8_putRow_30 : lk 30 C_X8_putRow = some (.getfield 15, (8, 1, 0, 82)) := by decide +kernel
theorem s_X8_putRow_30 {ca : Nat → List Value → tM → tO} {M : tM} {L : tL} {b : Nat} {S : List Value} : rn ca C_X8_putRow 30 L (.ref b :: S) M = if clsO b = some 8 then rn ca C_X8_putRow 33 L (fv M b 1 :: S) M else none := (rn_at k_X8_putRow_30).trans rnx_ite
theorem k_X8_putRow_33 : lk 33 C_X8_putRow = some (.iload_n 1, (0, 0, 0, 0)) := by decide +kernel
theorem s_X8_putRow_33 {ca : Nat → List Value → tM → tO} {M : tM} {a0 a2 a3 : Option Value} {x : Int32} {S : List Value} : rn ca C_X8_putRow 33 [a0, some (.int x), a2, a3] S M = rn ca C_X8_putRow 34 [a0, some (.int x), a2, a3] (.int x :: S) M := (rn_at k_X8_putRow_33).trans rfl
theorem k_X8_putRow_34 : lk 34 C_X8_putRow = some (.iload_n 3, (0, 0, 0, 0)) := by decide +kernel
theorem s_X8_putRow_34 {ca : Nat → List Value → tM → tO} {M : tM} {a0 a1 a2 : Option Value} {x : Int32} {S : List Value} : rn ca C_X8_putRow 34 [a0, a1, a2, some (.int x)] S M = rn ca C_X8_putRow 35 [a0, a1, a2, some (.int x)] (.int x :: S) M := (rn_at k_X8_putRow_34).trans rfl
theorem k_X8_putRow_35 : lk 35 C_X8_putRow = some (.iastore, (0, 0, 0, 0)) := by decide +kernel
theorem s_X8_putRow_35 {ca : Nat → List Value → tM → tO} {M : tM} {L : tL} {a : Nat} {i x : Int32} {S : List Value} : rn ca C_X8_putRow 35 L (.int x :: .int i :: .ref a :: S) M = if akind a = 0 ∧ inb i (alen M a) then rn ca C_X8_putRow 36 L S (sI M a i.toInt.toNat x) else none := (rn_at k_X8_putRow_35).trans rnx_ite
theorem k_X8_putRow_36 : lk 36 C_X8_putRow = some (.aload_n 0, (0, 0, 0, 0)) := by decide +kernel
theorem s_X8_putRow_36 {ca : Nat → List Value → tM → tO} {M : tM} {a1 a2 a3 : Option Value} {x : Nat} {S : List Value} : rn ca C_X8_putRow 36 [some (.ref x), a1, a2, a3] S M = rn ca C_X8_putRow 37 [some (.ref x), a1, a2, a3] (.ref x :: S) M := (rn_at k_X8_putRow_36).trans rfl
theorem k_X8_putRow_37 : lk 37 C_X8_putRow = some (.getfield 20, (8, 2, 0, 85)) := by decide +kernel
theorem s_X8_putRow_37 {ca : Nat → List Value → tM → tO} {M : tM} {L : tL} {b : Nat} {S : List Value} : rn ca C_X8_putRow 37 L (.ref b :: S) M = if clsO b = some 8 then rn ca C_X8_putRow 40 L (fv M b 2 :: S) M else none := (rn_at k_X8_putRow_37).trans rnx_ite
theorem k_X8_putRow_40 : lk 40 C_X8_putRow = some (.iload_n 1, (0, 0, 0, 0)) := by decide +kernel
theorem s_X8_putRow_40 {ca : Nat → List Value → tM → tO} {M : tM} {a0 a2 a3 : Option Value} {x : Int32} {S : List Value} : rn ca C_X8_putRow 40 [a0, some (.int x), a2, a3] S M = rn ca C_X8_putRow 41 [a0, some (.int x), a2, a3] (.int x :: S) M := (rn_at k_X8_putRow_40).trans rfl
theorem k_X8_putRow_41 : lk 41 C_X8_putRow = some (.aaload, (0, 0, 0, 0)) := by decide +kernel
theorem s_X8_putRow_41 {ca : Nat → List Value → tM → tO} {M : tM} {L : tL} {a : Nat} {i : Int32} {S : List Value} : rn ca C_X8_putRow 41 L (.int i :: .ref a :: S) M = if (akind a = 3 ∨ akind a = 4 ∨ akind a = 5) ∧ inb i (alen M a) then rn ca C_X8_putRow 42 L (.ref (rfe a i.toInt.toNat) :: S) M else none := (rn_at k_X8_putRow_41).trans rnx_ite
theorem k_X8_putRow_42 : lk 42 C_X8_putRow = some (.lconst 0, (0, 0, 0, 0)) := by decide +kernel
theorem s_X8_putRow_42 {ca : Nat → List Value → tM → tO} {M : tM} {L : tL} {S : List Value} : rn ca C_X8_putRow 42 L S M = rn ca C_X8_putRow 43 L (.long (jJ 0) :: S) M := (rn_at k_X8_putRow_42).trans rfl
theorem k_X8_putRow_43 : lk 43 C_X8_putRow = some (.invokestatic 27, (240, 2, 0, 184)) := by decide +kernel
theorem s_X8_putRow_43 {ca : Nat → List Value → tM → tO} {M : tM} {L : tL} {v1 v2 : Value} : rn ca C_X8_putRow 43 L [v2, v1] M = rnk ca C_X8_putRow 46 L [] (ca m_J7_fill_d0a16 [v1, v2] M) := (rn_at k_X8_putRow_43).trans rfl
theorem k_X8_putRow_46 : lk 46 C_X8_putRow = some (.return_, (0, 0, 0, 0)) := by decide +kernel
theorem s_X8_putRow_46 {ca : Nat → List Value → tM → tO} {M : tM} {L : tL} : rn ca C_X8_putRow 46 L [] M = some (none, M) := (rn_at k_X8_putRow_46).trans rfl
theorem k_X8_putHeld_0 : lk 0 C_X8_putHeld = some (.aload_n 0, (0, 0, 0, 0)) := by decide +kernel
theorem s_X8_putHeld_0 {ca : Nat → List Value → tM → tO} {M : tM} {a1 a2 : Option Value} {x : Nat} {S : List Value} : rn ca C_X8_putHeld 0 [some (.ref x), a1, a2] S M = rn ca C_X8_putHeld 1 [some (.ref x), a1, a2] (.ref x :: S) M := (rn_at k_X8_putHeld_0).trans rfl
theorem k_X8_putHeld_1 : lk 1 C_X8_putHeld = some (.iload_n 1, (0, 0, 0, 0)) := by decide +kernel
theorem s_X8_putHeld_1 {ca : Nat → List Value → tM → tO} {M : tM} {a0 a2 : Option Value} {x : Int32} {S : List Value} : rn ca C_X8_putHeld 1 [a0, some (.int x), a2] S M = rn ca C_X8_putHeld 2 [a0, some (.int x), a2] (.int x :: S) M := (rn_at k_X8_putHeld_1).trans rfl
theorem k_X8_putHeld_2 : lk 2 C_X8_putHeld = some (.invokevirtual 23, (65, 1, 8, 183)) := by decide +kernel
theorem s_X8_putHeld_2 {ca : Nat → List Value → tM → tO} {M : tM} {L : tL} {v1 : Value} {b : Nat} : rn ca C_X8_putHeld 2 L [v1, .ref b] M = if clsO b = some 8 then rnk ca C_X8_putHeld 5 L [] (ca m_X8_hasShelf [.ref b, v1] M) else none := (rn_at k_X8_putHeld_2).trans rnx_ite
theorem k_X8_putHeld_5 : lk 5 C_X8_putHeld = some (.ifCond .eq 17, (22, 0, 0, 0)) := by decide +kernel
theorem s_X8_putHeld_5 {ca : Nat → List Value → tM → tO} {M : tM} {L : tL} {x : Int32} {S : List Value} : rn ca C_X8_putHeld 5 L (.int x :: S) M = if x = iI 0 then rn ca C_X8_putHeld 22 L S M else rn ca C_X8_putHeld 8 L S M := (rn_at k_X8_putHeld_5).trans rnx_ite
theorem k_X8_putHeld_8 : lk 8 C_X8_putHeld = some (.aload_n 0, (0, 0, 0, 0)) := by decide +kernel
theorem s_X8_putHeld_8 {ca : Nat → List Value → tM → tO} {M : tM} {a1 a2 : Option Value} {x : Nat} {S : List Value} : rn ca C_X8_putHeld 8 [some (.ref x), a1, a2] S M = rn ca C_X8_putHeld 9 [some (.ref x), a1, a2] (.ref x :: S) M := (rn_at k_X8_putHeld_8).trans rfl
theorem k_X8_putHeld_9 : lk 9 C_X8_putHeld = some (.getfield 9, (8, 0, 0, 81)) := by decide +kernel
theorem s_X8_putHeld_9 {ca : Nat → List Value → tM → tO} {M : tM} {L : tL} {b : Nat} {S : List Value} : rn ca C_X8_putHeld 9 L (.ref b :: S) M = if clsO b = some 8 then rn ca C_X8_putHeld 12 L (fv M b 0 :: S) M else none := (rn_at k_X8_putHeld_9).trans rnx_ite
theorem k_X8_putHeld_12 : lk 12 C_X8_putHeld = some (.iload_n 1, (0, 0, 0, 0)) := by decide +kernel
theorem s_X8_putHeld_12 {ca : Nat → List Value → tM → tO} {M : tM} {a0 a2 : Option Value} {x : Int32} {S : List Value} : rn ca C_X8_putHeld 12 [a0, some (.int x), a2] S M = rn ca C_X8_putHeld 13 [a0, some (.int x), a2] (.int x :: S) M := (rn_at k_X8_putHeld_12).trans rfl
theorem k_X8_putHeld_13 : lk 13 C_X8_putHeld = some (.iload_n 2, (0, 0, 0, 0)) := by decide +kernel
theorem s_X8_putHeld_13 {ca : Nat → List Value → tM → tO} {M : tM} {a0 a1 : Option Value} {x : Int32} {S : List Value} : rn ca C_X8_putHeld 13 [a0, a1, some (.int x)] S M = rn ca C_X8_putHeld 14 [a0, a1, some (.int x)] (.int x :: S) M := (rn_at k_X8_putHeld_13).trans rfl
theorem k_X8_putHeld_14 : lk 14 C_X8_putHeld = some (.iastore, (0, 0, 0, 0)) := by decide +kernel
theorem s_X8_putHeld_14 {ca : Nat → List Value → tM → tO} {M : tM} {L : tL} {a : Nat} {i x : Int32} {S : List Value} : rn ca C_X8_putHeld 14 L (.int x :: .int i :: .ref a :: S) M = if akind a = 0 ∧ inb i (alen M a) then rn ca C_X8_putHeld 15 L S (sI M a i.toInt.toNat x) else none := (rn_at k_X8_putHeld_14).trans rnx_ite
theorem k_X8_putHeld_15 : lk 15 C_X8_putHeld = some (.aload_n 0, (0, 0, 0, 0)) := by decide +kernel
theorem s_X8_putHeld_15 {ca : Nat → List Value → tM → tO} {M : tM} {a1 a2 : Option Value} {x : Nat} {S : List Value} : rn ca C_X8_putHeld 15 [some (.ref x), a1, a2] S M = rn ca C_X8_putHeld 16 [some (.ref x), a1, a2] (.ref x :: S) M := (rn_at k_X8_putHeld_15).trans rfl
theorem k_X8_putHeld_16 : lk 16 C_X8_putHeld = some (.getfield 15, (8, 1, 0, 82)) := by decide +kernel
theorem s_X8_putHeld_16 {ca : Nat → List Value → tM → tO} {M : tM} {L : tL} {b : Nat} {S : List Value} : rn ca C_X8_putHeld 16 L (.ref b :: S) M = if clsO b = some 8 then rn ca C_X8_putHeld 19 L (fv M b 1 :: S) M else none := (rn_at k_X8_putHeld_16).trans rnx_ite
theorem k_X8_putHeld_19 : lk 19 C_X8_putHeld = some (.iload_n 1, (0, 0, 0, 0)) := by decide +kernel
theorem s_X8_putHeld_19 {ca : Nat → List Value → tM → tO} {M : tM} {a0 a2 : Option Value} {x : Int32} {S : List Value} : rn ca C_X8_putHeld 19 [a0, some (.int x), a2] S M = rn ca C_X8_putHeld 20 [a0, some (.int x), a2] (.int x :: S) M := (rn_at k_X8_putHeld_19).trans rfl
theorem k_X8_putHeld_20 : lk 20 C_X8_putHeld = some (.iconst 0, (0, 0, 0, 0)) := by decide +kernel
theorem s_X8_putHeld_20 {ca : Nat → List Value → tM → tO} {M : tM} {L : tL} {S : List Value} : rn ca C_X8_putHeld 20 L S M = rn ca C_X8_putHeld 21 L (.int (iI 0) :: S) M := (rn_at k_X8_putHeld_20).trans rfl
theorem k_X8_putHeld_21 : lk 21 C_X8_putHeld = some (.iastore, (0, 0, 0, 0)) := by decide +kernel
theorem s_X8_putHeld_21 {ca : Nat → List Value → tM → tO} {M : tM} {L : tL} {a : Nat} {i x : Int32} {S : List Value} : rn ca C_X8_putHeld 21 L (.int x :: .int i :: .ref a :: S) M = if akind a = 0 ∧ inb i (alen M a) then rn ca C_X8_putHeld 22 L S (sI M a i.toInt.toNat x) else none := (rn_at k_X8_putHeld_21).trans rnx_ite
theorem k_X8_putHeld_22 : lk 22 C_X8_putHeld = some (.return_, (0, 0, 0, 0)) := by decide +kernel
theorem s_X8_putHeld_22 {ca : Nat → List Value → tM → tO} {M : tM} {L : tL} : rn ca C_X8_putHeld 22 L [] M = some (none, M) := (rn_at k_X8_putHeld_22).trans rfl
theorem k_X8_hasElement_0 : lk 0 C_X8_hasElement = some (.iload_n 2, (0, 0, 0, 0)) := by decide +kernel
theorem s_X8_hasElement_0 {ca : Nat → List Value → tM → tO} {M : tM} {a0 a1 : Option Value} {x : Int32} {S : List Value} : rn ca C_X8_hasElement 0 [a0, a1, some (.int x)] S M = rn ca C_X8_hasElement 1 [a0, a1, some (.int x)] (.int x :: S) M := (rn_at k_X8_hasElement_0).trans rfl
theorem k_X8_hasElement_1 : lk 1 C_X8_hasElement = some (.ifCond .lt 23, (24, 0, 0, 0)) := by decide +kernel
theorem s_X8_hasElement_1 {ca : Nat → List Value → tM → tO} {M : tM} {L : tL} {x : Int32} {S : List Value} : rn ca C_X8_hasElement 1 L (.int x :: S) M = if x < iI 0 then rn ca C_X8_hasElement 24 L S M else rn ca C_X8_hasElement 4 L S M := (rn_at k_X8_hasElement_1).trans rnx_ite
theorem k_X8_hasElement_4 : lk 4 C_X8_hasElement = some (.iload_n 2, (0, 0, 0, 0)) := by decide +kernel
theorem s_X8_hasElement_4 {ca : Nat → List Value → tM → tO} {M : tM} {a0 a1 : Option Value} {x : Int32} {S : List Value} : rn ca C_X8_hasElement 4 [a0, a1, some (.int x)] S M = rn ca C_X8_hasElement 5 [a0, a1, some (.int x)] (.int x :: S) M := (rn_at k_X8_hasElement_4).trans rfl
theorem k_X8_hasElement_5 : lk 5 C_X8_hasElement = some (.aload_n 0, (0, 0, 0, 0)) := by decide +kernel
theorem s_X8_hasElement_5 {ca : Nat → List Value → tM → tO} {M : tM} {a1 a2 : Option Value} {x : Nat} {S : List Value} : rn ca C_X8_hasElement 5 [some (.ref x), a1, a2] S M = rn ca C_X8_hasElement 6 [some (.ref x), a1, a2] (.ref x :: S) M := (rn_at k_X8_hasElement_5).trans rfl
theorem k_X8_hasElement_6 : lk 6 C_X8_hasElement = some (.iload_n 1, (0, 0, 0, 0)) := by decide +kernel
theorem s_X8_hasElement_6 {ca : Nat → List Value → tM → tO} {M : tM} {a0 a2 : Option Value} {x : Int32} {S : List Value} : rn ca C_X8_hasElement 6 [a0, some (.int x), a2] S M = rn ca C_X8_hasElement 7 [a0, some (.int x), a2] (.int x :: S) M := (rn_at k_X8_hasElement_6).trans rfl
theorem k_X8_hasElement_7 : lk 7 C_X8_hasElement = some (.invokevirtual 33, (68, 1, 8, 228)) := by decide +kernel
theorem s_X8_hasElement_7 {ca : Nat → List Value → tM → tO} {M : tM} {L : tL} {v1 : Value} {r0 : Int32} {b : Nat} : rn ca C_X8_hasElement 7 L [v1, .ref b, .int r0] M = if clsO b = some 8 then rnk ca C_X8_hasElement 10 L [.int r0] (ca m_X8_sizeOf [.ref b, v1] M) else none := (rn_at k_X8_hasElement_7).trans rnx_ite
theorem k_X8_hasElement_10 : lk 10 C_X8_hasElement = some (.if_icmp .ge 14, (24, 0, 0, 0)) := by decide +kernel
theorem s_X8_hasElement_10 {ca : Nat → List Value → tM → tO} {M : tM} {L : tL} {x y : Int32} {S : List Value} : rn ca C_X8_hasElement 10 L (.int y :: .int x :: S) M = if y ≤ x then rn ca C_X8_hasElement 24 L S M else rn ca C_X8_hasElement 13 L S M := (rn_at k_X8_hasElement_10).trans rnx_ite
theorem k_X8_hasElement_13 : lk 13 C_X8_hasElement = some (.iload_n 2, (0, 0, 0, 0)) := by decide +kernel
theorem s_X8_hasElement_13 {ca : Nat → List Value → tM → tO} {M : tM} {a0 a1 : Option Value} {x : Int32} {S : List Value} : rn ca C_X8_hasElement 13 [a0, a1, some (.int x)] S M = rn ca C_X8_hasElement 14 [a0, a1, some (.int x)] (.int x :: S) M := (rn_at k_X8_hasElement_13).trans rfl
theorem k_X8_hasElement_14 : lk 14 C_X8_hasElement = some (.sipush 160, (0, 0, 0, 0)) := by decide +kernel
theorem s_X8_hasElement_14 {ca : Nat → List Value → tM → tO} {M : tM} {L : tL} {S : List Value} : rn ca C_X8_hasElement 14 L S M = rn ca C_X8_hasElement 17 L (.int (iI 160) :: S) M := (rn_at k_X8_hasElement_14).trans rfl
theorem k_X8_hasElement_17 : lk 17 C_X8_hasElement = some (.if_icmp .ge 7, (24, 0, 0, 0)) := by decide +kernel
theorem s_X8_hasElement_17 {ca : Nat → List Value → tM → tO} {M : tM} {L : tL} {x y : Int32} {S : List Value} : rn ca C_X8_hasElement 17 L (.int y :: .int x :: S) M = if y ≤ x then rn ca C_X8_hasElement 24 L S M else rn ca C_X8_hasElement 20 L S M := (rn_at k_X8_hasElement_17).trans rnx_ite
theorem k_X8_hasElement_20 : lk 20 C_X8_hasElement = some (.iconst 1, (0, 0, 0, 0)) := by decide +kernel
theorem s_X8_hasElement_20 {ca : Nat → List Value → tM → tO} {M : tM} {L : tL} {S : List Value} : rn ca C_X8_hasElement 20 L S M = rn ca C_X8_hasElement 21 L (.int (iI 1) :: S) M := (rn_at k_X8_hasElement_20).trans rfl
theorem k_X8_hasElement_21 : lk 21 C_X8_hasElement = some (.goto 4, (25, 0, 0, 0)) := by decide +kernel
theorem s_X8_hasElement_21 {ca : Nat → List Value → tM → tO} {M : tM} {L : tL} {S : List Value} : rn ca C_X8_hasElement 21 L S M = rn ca C_X8_hasElement 25 L S M := (rn_at k_X8_hasElement_21).trans rfl
theorem k_X8_hasElement_24 : lk 24 C_X8_hasElement = some (.iconst 0, (0, 0, 0, 0)) := by decide +kernel
theorem s_X8_hasElement_24 {ca : Nat → List Value → tM → tO} {M : tM} {L : tL} {S : List Value} : rn ca C_X8_hasElement 24 L S M = rn ca C_X8_hasElement 25 L (.int (iI 0) :: S) M := (rn_at k_X8_hasElement_24).trans rfl
theorem k_X8_hasElement_25 : lk 25 C_X8_hasElement = some (.ireturn, (1, 0, 0, 0)) := by decide +kernel
theorem s_X8_hasElement_25 {ca : Nat → List Value → tM → tO} {M : tM} {L : tL} {x : Int32} : rn ca C_X8_hasElement 25 L [.int x] M = if x = iI 0 ∨ x = iI 1 then some (some (.int x), M) else none := (rn_at k_X8_hasElement_25).trans rnx_ite
theorem k_X8_elementAt_0 : lk 0 C_X8_elementAt = some (.aload_n 0, (0, 0, 0, 0)) := by decide +kernel
theorem s_X8_elementAt_0 {ca : Nat → List Value → tM → tO} {M : tM} {a1 a2 : Option Value} {x : Nat} {S : List Value} : rn ca C_X8_elementAt 0 [some (.ref x), a1, a2] S M = rn ca C_X8_elementAt 1 [some (.ref x), a1, a2] (.ref x :: S) M := (rn_at k_X8_elementAt_0).trans rfl
theorem k_X8_elementAt_1 : lk 1 C_X8_elementAt = some (.iload_n 1, (0, 0, 0, 0)) := by decide +kernel
theorem s_X8_elementAt_1 {ca : Nat → List Value → tM → tO} {M : tM} {a0 a2 : Option Value} {x : Int32} {S : List Value} : rn ca C_X8_elementAt 1 [a0, some (.int x), a2] S M = rn ca C_X8_elementAt 2 [a0, some (.int x), a2] (.int x :: S) M := (rn_at k_X8_elementAt_1).trans rfl
theorem k_X8_elementAt_2 : lk 2 C_X8_elementAt = some (.iload_n 2, (0, 0, 0, 0)) := by decide +kernel
theorem s_X8_elementAt_2 {ca : Nat → List Value → tM → tO} {M : tM} {a0 a1 : Option Value} {x : Int32} {S : List Value} : rn ca C_X8_elementAt 2 [a0, a1, some (.int x)] S M = rn ca C_X8_elementAt 3 [a0, a1, some (.int x)] (.int x :: S) M := (rn_at k_X8_elementAt_2).trans rfl
theorem k_X8_elementAt_3 : lk 3 C_X8_elementAt = some (.invokevirtual 37, (71, 2, 8, 224)) := by decide +kernel
theorem s_X8_elementAt_3 {ca : Nat → List Value → tM → tO} {M : tM} {L : tL} {v1 v2 : Value} {b : Nat} : rn ca C_X8_elementAt 3 L [v2, v1, .ref b] M = if clsO b = some 8 then rnk ca C_X8_elementAt 6 L [] (ca m_X8_hasElement [.ref b, v1, v2] M) else none := (rn_at k_X8_elementAt_3).trans rnx_ite
theorem k_X8_elementAt_6 : lk 6 C_X8_elementAt = some (.ifCond .eq 14, (20, 0, 0, 0)) := by decide +kernel
theorem s_X8_elementAt_6 {ca : Nat → List Value → tM → tO} {M : tM} {L : tL} {x : Int32} {S : List Value} : rn ca C_X8_elementAt 6 L (.int x :: S) M = if x = iI 0 then rn ca C_X8_elementAt 20 L S M else rn ca C_X8_elementAt 9 L S M := (rn_at k_X8_elementAt_6).trans rnx_ite
theorem k_X8_elementAt_9 : lk 9 C_X8_elementAt = some (.aload_n 0, (0, 0, 0, 0)) := by decide +kernel
theorem s_X8_elementAt_9 {ca : Nat → List Value → tM → tO} {M : tM} {a1 a2 : Option Value} {x : Nat} {S : List Value} : rn ca C_X8_elementAt 9 [some (.ref x), a1, a2] S M = rn ca C_X8_elementAt 10 [some (.ref x), a1, a2] (.ref x :: S) M := (rn_at k_X8_elementAt_9).trans rfl
theorem k_X8_elementAt_10 : lk 10 C_X8_elementAt = some (.getfield 20, (8, 2, 0, 85)) := by decide +kernel
theorem s_X8_elementAt_10 {ca : Nat → List Value → tM → tO} {M : tM} {L : tL} {b : Nat} {S : List Value} : rn ca C_X8_elementAt 10 L (.ref b :: S) M = if clsO b = some 8 then rn ca C_X8_elementAt 13 L (fv M b 2 :: S) M else none := (rn_at k_X8_elementAt_10).trans rnx_ite
theorem k_X8_elementAt_13 : lk 13 C_X8_elementAt = some (.iload_n 1, (0, 0, 0, 0)) := by decide +kernel
theorem s_X8_elementAt_13 {ca : Nat → List Value → tM → tO} {M : tM} {a0 a2 : Option Value} {x : Int32} {S : List Value} : rn ca C_X8_elementAt 13 [a0, some (.int x), a2] S M = rn ca C_X8_elementAt 14 [a0, some (.int x), a2] (.int x :: S) M := (rn_at k_X8_elementAt_13).trans rfl
theorem k_X8_elementAt_14 : lk 14 C_X8_elementAt = some (.aaload, (0, 0, 0, 0)) := by decide +kernel
theorem s_X8_elementAt_14 {ca : Nat → List Value → tM → tO} {M : tM} {L : tL} {a : Nat} {i : Int32} {S : List Value} : rn ca C_X8_elementAt 14 L (.int i :: .ref a :: S) M = if (akind a = 3 ∨ akind a = 4 ∨ akind a = 5) ∧ inb i (alen M a) then rn ca C_X8_elementAt 15 L (.ref (rfe a i.toInt.toNat) :: S) M else none := (rn_at k_X8_elementAt_14).trans rnx_ite
theorem k_X8_elementAt_15 : lk 15 C_X8_elementAt = some (.iload_n 2, (0, 0, 0, 0)) := by decide +kernel
theorem s_X8_elementAt_15 {ca : Nat → List Value → tM → tO} {M : tM} {a0 a1 : Option Value} {x : Int32} {S : List Value} : rn ca C_X8_elementAt 15 [a0, a1, some (.int x)] S M = rn ca C_X8_elementAt 16 [a0, a1, some (.int x)] (.int x :: S) M := (rn_at k_X8_elementAt_15).trans rfl
theorem k_X8_elementAt_16 : lk 16 C_X8_elementAt = some (.laload, (0, 0, 0, 0)) := by decide +kernel
theorem s_X8_elementAt_16 {ca : Nat → List Value → tM → tO} {M : tM} {L : tL} {a : Nat} {i : Int32} {S : List Value} : rn ca C_X8_elementAt 16 L (.int i :: .ref a :: S) M = if akind a = 2 ∧ inb i (alen M a) then rn ca C_X8_elementAt 17 L (.long (M.2 a i.toInt.toNat) :: S) M else none := (rn_at k_X8_elementAt_16).trans rnx_ite
theorem k_X8_elementAt_17 : lk 17 C_X8_elementAt = some (.goto 4, (21, 0, 0, 0)) := by decide +kernel
theorem s_X8_elementAt_17 {ca : Nat → List Value → tM → tO} {M : tM} {L : tL} {S : List Value} : rn ca C_X8_elementAt 17 L S M = rn ca C_X8_elementAt 21 L S M := (rn_at k_X8_elementAt_17).trans rfl
theorem k_X8_elementAt_20 : lk 20 C_X8_elementAt = some (.lconst 0, (0, 0, 0, 0)) := by decide +kernel
theorem s_X8_elementAt_20 {ca : Nat → List Value → tM → tO} {M : tM} {L : tL} {S : List Value} : rn ca C_X8_elementAt 20 L S M = rn ca C_X8_elementAt 21 L (.long (jJ 0) :: S) M := (rn_at k_X8_elementAt_20).trans rfl
theorem k_X8_elementAt_21 : lk 21 C_X8_elementAt = some (.lreturn, (0, 0, 0, 0)) := by decide +kernel
theorem s_X8_elementAt_21 {ca : Nat → List Value → tM → tO} {M : tM} {L : tL} {x : Int64} : rn ca C_X8_elementAt 21 L [.long x] M = some (some (.long x), M) := (rn_at k_X8_elementAt_21).trans rfl
theorem k_X8_intAt_0 : lk 0 C_X8_intAt = some (.aload_n 0, (0, 0, 0, 0)) := by decide +kernel
theorem s_X8_intAt_0 {ca : Nat → List Value → tM → tO} {M : tM} {a1 a2 : Option Value} {x : Nat} {S : List Value} : rn ca C_X8_intAt 0 [some (.ref x), a1, a2] S M = rn ca C_X8_intAt 1 [some (.ref x), a1, a2] (.ref x :: S) M := (rn_at k_X8_intAt_0).trans rfl
theorem k_X8_intAt_1 : lk 1 C_X8_intAt = some (.iload_n 1, (0, 0, 0, 0)) := by decide +kernel
theorem s_X8_intAt_1 {ca : Nat → List Value → tM → tO} {M : tM} {a0 a2 : Option Value} {x : Int32} {S : List Value} : rn ca C_X8_intAt 1 [a0, some (.int x), a2] S M = rn ca C_X8_intAt 2 [a0, some (.int x), a2] (.int x :: S) M := (rn_at k_X8_intAt_1).trans rfl
theorem k_X8_intAt_2 : lk 2 C_X8_intAt = some (.iload_n 2, (0, 0, 0, 0)) := by decide +kernel
theorem s_X8_intAt_2 {ca : Nat → List Value → tM → tO} {M : tM} {a0 a1 : Option Value} {x : Int32} {S : List Value} : rn ca C_X8_intAt 2 [a0, a1, some (.int x)] S M = rn ca C_X8_intAt 3 [a0, a1, some (.int x)] (.int x :: S) M := (rn_at k_X8_intAt_2).trans rfl
theorem k_X8_intAt_3 : lk 3 C_X8_intAt = some (.invokevirtual 41, (72, 2, 8, 499)) := by decide +kernel
theorem s_X8_intAt_3 {ca : Nat → List Value → tM → tO} {M : tM} {L : tL} {v1 v2 : Value} {b : Nat} : rn ca C_X8_intAt 3 L [v2, v1, .ref b] M = if clsO b = some 8 then rnk ca C_X8_intAt 6 L [] (ca m_X8_elementAt [.ref b, v1, v2] M) else none := (rn_at k_X8_intAt_3).trans rnx_ite
theorem k_X8_intAt_6 : lk 6 C_X8_intAt = some (.l2i, (0, 0, 0, 0)) := by decide +kernel
theorem s_X8_intAt_6 {ca : Nat → List Value → tM → tO} {M : tM} {L : tL} {x : Int64} {S : List Value} : rn ca C_X8_intAt 6 L (.long x :: S) M = rn ca C_X8_intAt 7 L (.int x.toInt32 :: S) M := (rn_at k_X8_intAt_6).trans rfl
theorem k_X8_intAt_7 : lk 7 C_X8_intAt = some (.ireturn, (0, 0, 0, 0)) := by decide +kernel
theorem s_X8_intAt_7 {ca : Nat → List Value → tM → tO} {M : tM} {L : tL} {x : Int32} : rn ca C_X8_intAt 7 L [.int x] M = some (some (.int x), M) := (rn_at k_X8_intAt_7).trans rfl
theorem k_X8_putElement_0 : lk 0 C_X8_putElement = some (.aload_n 0, (0, 0, 0, 0)) := by decide +kernel
theorem s_X8_putElement_0 {ca : Nat → List Value → tM → tO} {M : tM} {a1 a2 a3 a4 : Option Value} {x : Nat} {S : List Value} : rn ca C_X8_putElement 0 [some (.ref x), a1, a2, a3, a4] S M = rn ca C_X8_putElement 1 [some (.ref x), a1, a2, a3, a4] (.ref x :: S) M := (rn_at k_X8_putElement_0).trans rfl
theorem k_X8_putElement_1 : lk 1 C_X8_putElement = some (.iload_n 1, (0, 0, 0, 0)) := by decide +kernel
theorem s_X8_putElement_1 {ca : Nat → List Value → tM → tO} {M : tM} {a0 a2 a3 a4 : Option Value} {x : Int32} {S : List Value} : rn ca C_X8_putElement 1 [a0, some (.int x), a2, a3, a4] S M = rn ca C_X8_putElement 2 [a0, some (.int x), a2, a3, a4] (.int x :: S) M := (rn_at k_X8_putElement_1).trans rfl
theorem k_X8_putElement_2 : lk 2 C_X8_putElement = some (.iload_n 2, (0, 0, 0, 0)) := by decide +kernel
theorem s_X8_putElement_2 {ca : Nat → List Value → tM → tO} {M : tM} {a0 a1 a3 a4 : Option Value} {x : Int32} {S : List Value} : rn ca C_X8_putElement 2 [a0, a1, some (.int x), a3, a4] S M = rn ca C_X8_putElement 3 [a0, a1, some (.int x), a3, a4] (.int x :: S) M := (rn_at k_X8_putElement_2).trans rfl
theorem k_X8_putElement_3 : lk 3 C_X8_putElement = some (.invokevirtual 37, (71, 2, 8, 224)) := by decide +kernel
theorem s_X8_putElement_3 {ca : Nat → List Value → tM → tO} {M : tM} {L : tL} {v1 v2 : Value} {b : Nat} : rn ca C_X8_putElement 3 L [v2, v1, .ref b] M = if clsO b = some 8 then rnk ca C_X8_putElement 6 L [] (ca m_X8_hasElement [.ref b, v1, v2] M) else none := (rn_at k_X8_putElement_3).trans rnx_ite
theorem k_X8_putElement_6 : lk 6 C_X8_putElement = some (.ifCond .eq 24, (30, 0, 0, 0)) := by decide +kernel
theorem s_X8_putElement_6 {ca : Nat → List Value → tM → tO} {M : tM} {L : tL} {x : Int32} {S : List Value} : rn ca C_X8_putElement 6 L (.int x :: S) M = if x = iI 0 then rn ca C_X8_putElement 30 L S M else rn ca C_X8_putElement 9 L S M := (rn_at k_X8_putElement_6).trans rnx_ite
theorem k_X8_putElement_9 : lk 9 C_X8_putElement = some (.aload_n 0, (0, 0, 0, 0)) := by decide +kernel
theorem s_X8_putElement_9 {ca : Nat → List Value → tM → tO} {M : tM} {a1 a2 a3 a4 : Option Value} {x : Nat} {S : List Value} : rn ca C_X8_putElement 9 [some (.ref x), a1, a2, a3, a4] S M = rn ca C_X8_putElement 10 [some (.ref x), a1, a2, a3, a4] (.ref x :: S) M := (rn_at k_X8_putElement_9).trans rfl
theorem k_X8_putElement_10 : lk 10 C_X8_putElement = some (.getfield 20, (8, 2, 0, 85)) := by decide +kernel
theorem s_X8_putElement_10 {ca : Nat → List Value → tM → tO} {M : tM} {L : tL} {b : Nat} {S : List Value} : rn ca C_X8_putElement 10 L (.ref b :: S) M = if clsO b = some 8 then rn ca C_X8_putElement 13 L (fv M b 2 :: S) M else none := (rn_at k_X8_putElement_10).trans rnx_ite
theorem k_X8_putElement_13 : lk 13 C_X8_putElement = some (.iload_n 1, (0, 0, 0, 0)) := by decide +kernel
theorem s_X8_putElement_13 {ca : Nat → List Value → tM → tO} {M : tM} {a0 a2 a3 a4 : Option Value} {x : Int32} {S : List Value} : rn ca C_X8_putElement 13 [a0, some (.int x), a2, a3, a4] S M = rn ca C_X8_putElement 14 [a0, some (.int x), a2, a3, a4] (.int x :: S) M := (rn_at k_X8_putElement_13).trans rfl
theorem k_X8_putElement_14 : lk 14 C_X8_putElement = some (.aaload, (0, 0, 0, 0)) := by decide +kernel
theorem s_X8_putElement_14 {ca : Nat → List Value → tM → tO} {M : tM} {L : tL} {a : Nat} {i : Int32} {S : List Value} : rn ca C_X8_putElement 14 L (.int i :: .ref a :: S) M = if (akind a = 3 ∨ akind a = 4 ∨ akind a = 5) ∧ inb i (alen M a) then rn ca C_X8_putElement 15 L (.ref (rfe a i.toInt.toNat) :: S) M else none := (rn_at k_X8_putElement_14).trans rnx_ite
theorem k_X8_putElement_15 : lk 15 C_X8_putElement = some (.iload_n 2, (0, 0, 0, 0)) := by decide +kernel
theorem s_X8_putElement_15 {ca : Nat → List Value → tM → tO} {M : tM} {a0 a1 a3 a4 : Option Value} {x : Int32} {S : List Value} : rn ca C_X8_putElement 15 [a0, a1, some (.int x), a3, a4] S M = rn ca C_X8_putElement 16 [a0, a1, some (.int x), a3, a4] (.int x :: S) M := (rn_at k_X8_putElement_15).trans rfl
theorem k_X8_putElement_16 : lk 16 C_X8_putElement = some (.lload_n 3, (0, 0, 0, 0)) := by decide +kernel
theorem s_X8_putElement_16 {ca : Nat → List Value → tM → tO} {M : tM} {a0 a1 a2 a4 : Option Value} {x : Int64} {S : List Value} : rn ca C_X8_putElement 16 [a0, a1, a2, some (.long x), a4] S M = rn ca C_X8_putElement 17 [a0, a1, a2, some (.long x), a4] (.long x :: S) M := (rn_at k_X8_putElement_16).trans rfl
theorem k_X8_putElement_17 : lk 17 C_X8_putElement = some (.aload_n 0, (0, 0, 0, 0)) := by decide +kernel
theorem s_X8_putElement_17 {ca : Nat → List Value → tM → tO} {M : tM} {a1 a2 a3 a4 : Option Value} {x : Nat} {S : List Value} : rn ca C_X8_putElement 17 [some (.ref x), a1, a2, a3, a4] S M = rn ca C_X8_putElement 18 [some (.ref x), a1, a2, a3, a4] (.ref x :: S) M := (rn_at k_X8_putElement_17).trans rfl
theorem k_X8_putElement_18 : lk 18 C_X8_putElement = some (.getfield 9, (8, 0, 0, 81)) := by decide +kernel
theorem s_X8_putElement_18 {ca : Nat → List Value → tM → tO} {M : tM} {L : tL} {b : Nat} {S : List Value} : rn ca C_X8_putElement 18 L (.ref b :: S) M = if clsO b = some 8 then rn ca C_X8_putElement 21 L (fv M b 0 :: S) M else none := (rn_at k_X8_putElement_18).trans rnx_ite
theorem k_X8_putElement_21 : lk 21 C_X8_putElement = some (.iload_n 1, (0, 0, 0, 0)) := by decide +kernel
theorem s_X8_putElement_21 {ca : Nat → List Value → tM → tO} {M : tM} {a0 a2 a3 a4 : Option Value} {x : Int32} {S : List Value} : rn ca C_X8_putElement 21 [a0, some (.int x), a2, a3, a4] S M = rn ca C_X8_putElement 22 [a0, some (.int x), a2, a3, a4] (.int x :: S) M := (rn_at k_X8_putElement_21).trans rfl
theorem k_X8_putElement_22 : lk 22 C_X8_putElement = some (.iaload, (0, 0, 0, 0)) := by decide +kernel
theorem s_X8_putElement_22 {ca : Nat → List Value → tM → tO} {M : tM} {L : tL} {a : Nat} {i : Int32} {S : List Value} : rn ca C_X8_putElement 22 L (.int i :: .ref a :: S) M = if (akind a = 0 ∨ akind a = 6 ∨ akind a = 7) ∧ inb i (alen M a) then rn ca C_X8_putElement 23 L (.int (M.1 a i.toInt.toNat) :: S) M else none := (rn_at k_X8_putElement_22).trans rnx_ite
theorem k_X8_putElement_23 : lk 23 C_X8_putElement = some (.bipush 100, (0, 0, 0, 0)) := by decide +kernel
theorem s_X8_putElement_23 {ca : Nat → List Value → tM → tO} {M : tM} {L : tL} {S : List Value} : rn ca C_X8_putElement 23 L S M = rn ca C_X8_putElement 25 L (.int (iI 100) :: S) M := (rn_at k_X8_putElement_23).trans rfl
theorem k_X8_putElement_25 : lk 25 C_X8_putElement = some (.isub, (0, 0, 0, 0)) := by decide +kernel
theorem s_X8_putElement_25 {ca : Nat → List Value → tM → tO} {M : tM} {L : tL} {x y : Int32} {S : List Value} : rn ca C_X8_putElement 25 L (.int y :: .int x :: S) M = rn ca C_X8_putElement 26 L (.int (x - y) :: S) M := (rn_at k_X8_putElement_25).trans rfl
theorem k_X8_putElement_26 : lk 26 C_X8_putElement = some (.invokestatic 45, (75, 2, 0, 229)) := by decide +kernel
theorem s_X8_putElement_26 {ca : Nat → List Value → tM → tO} {M : tM} {L : tL} {v1 v2 : Value} {r0 : Int32} {r1 : Nat} : rn ca C_X8_putElement 26 L [v2, v1, .int r0, .ref r1] M = rnk ca C_X8_putElement 29 L [.int r0, .ref r1] (ca m_X8_lowestBits [v1, v2] M) := (rn_at k_X8_putElement_26).trans rfl
theorem k_X8_putElement_29 : lk 29 C_X8_putElement = some (.lastore, (0, 0, 0, 0)) := by decide +kernel
theorem s_X8_putElement_29 {ca : Nat → List Value → tM → tO} {M : tM} {L : tL} {a : Nat} {i : Int32} {x : Int64} {S : List Value} : rn ca C_X8_putElement 29 L (.long x :: .int i :: .ref a :: S) M = if akind a = 2 ∧ inb i (alen M a) then rn ca C_X8_putElement 30 L S (sJ M a i.toInt.toNat x) else none := (rn_at k_X8_putElement_29).trans rnx_ite
theorem k_X8_putElement_30 : lk 30 C_X8_putElement = some (.return_, (0, 0, 0, 0)) := by decide +kernel
theorem s_X8_putElement_30 {ca : Nat → List Value → tM → tO} {M : tM} {L : tL} : rn ca C_X8_putElement 30 L [] M = some (none, M) := (rn_at k_X8_putElement_30).trans rfl
theorem k_X8_lowestBits_0 : lk 0 C_X8_lowestBits = some (.iload_n 2, (0, 0, 0, 0)) := by decide +kernel
theorem s_X8_lowestBits_0 {ca : Nat → List Value → tM → tO} {M : tM} {a0 a1 : Option Value} {x : Int32} {S : List Value} : rn ca C_X8_lowestBits 0 [a0, a1, some (.int x)] S M = rn ca C_X8_lowestBits 1 [a0, a1, some (.int x)] (.int x :: S) M := (rn_at k_X8_lowestBits_0).trans rfl
theorem k_X8_lowestBits_1 : lk 1 C_X8_lowestBits = some (.tableswitch 41 0 2 #[27, 32, 37], (0, 0, 0, 0)) := by decide +kernel
theorem s_X8_lowestBits_1 {ca : Nat → List Value → tM → tO} {M : tM} {L : tL} {x : Int32} {S : List Value} : rn ca C_X8_lowestBits 1 L (.int x :: S) M = if x = iI 0 then rn ca C_X8_lowestBits 28 L S M else if x = iI 1 then rn ca C_X8_lowestBits 33 L S M else if x = iI 2 then rn ca C_X8_lowestBits 38 L S M else rn ca C_X8_lowestBits 42 L S M := by rw [rn_at k_X8_lowestBits_1]; simp only [ta, tsw, lsw, rnx_ite]; rfl
theorem k_X8_lowestBits_28 : lk 28 C_X8_lowestBits = some (.lload_n 0, (0, 0, 0, 0)) := by decide +kernel
theorem s_X8_lowestBits_28 {ca : Nat → List Value → tM → tO} {M : tM} {a1 a2 : Option Value} {x : Int64} {S : List Value} : rn ca C_X8_lowestBits 28 [some (.long x), a1, a2] S M = rn ca C_X8_lowestBits 29 [some (.long x), a1, a2] (.long x :: S) M := (rn_at k_X8_lowestBits_28).trans rfl
theorem k_X8_lowestBits_29 : lk 29 C_X8_lowestBits = some (.l2i, (0, 0, 0, 0)) := by decide +kernel
theorem s_X8_lowestBits_29 {ca : Nat → List Value → tM → tO} {M : tM} {L : tL} {x : Int64} {S : List Value} : rn ca C_X8_lowestBits 29 L (.long x :: S) M = rn ca C_X8_lowestBits 30 L (.int x.toInt32 :: S) M := (rn_at k_X8_lowestBits_29).trans rfl
theorem k_X8_lowestBits_30 : lk 30 C_X8_lowestBits = some (.i2b, (0, 0, 0, 0)) := by decide +kernel
theorem s_X8_lowestBits_30 {ca : Nat → List Value → tM → tO} {M : tM} {L : tL} {x : Int32} {S : List Value} : rn ca C_X8_lowestBits 30 L (.int x :: S) M = rn ca C_X8_lowestBits 31 L (.int (x.toInt8.toInt32) :: S) M := (rn_at k_X8_lowestBits_30).trans rfl
theorem k_X8_lowestBits_31 : lk 31 C_X8_lowestBits = some (.i2l, (0, 0, 0, 0)) := by decide +kernel
theorem s_X8_lowestBits_31 {ca : Nat → List Value → tM → tO} {M : tM} {L : tL} {x : Int32} {S : List Value} : rn ca C_X8_lowestBits 31 L (.int x :: S) M = rn ca C_X8_lowestBits 32 L (.long x.toInt64 :: S) M := (rn_at k_X8_lowestBits_31).trans rfl
theorem k_X8_lowestBits_32 : lk 32 C_X8_lowestBits = some (.lreturn, (0, 0, 0, 0)) := by decide +kernel
theorem s_X8_lowestBits_32 {ca : Nat → List Value → tM → tO} {M : tM} {L : tL} {x : Int64} : rn ca C_X8_lowestBits 32 L [.long x] M = some (some (.long x), M) := (rn_at k_X8_lowestBits_32).trans rfl
theorem k_X8_lowestBits_33 : lk 33 C_X8_lowestBits = some (.lload_n 0, (0, 0, 0, 0)) := by decide +kernel
theorem s_X8_lowestBits_33 {ca : Nat → List Value → tM → tO} {M : tM} {a1 a2 : Option Value} {x : Int64} {S : List Value} : rn ca C_X8_lowestBits 33 [some (.long x), a1, a2] S M = rn ca C_X8_lowestBits 34 [some (.long x), a1, a2] (.long x :: S) M := (rn_at k_X8_lowestBits_33).trans rfl
theorem k_X8_lowestBits_34 : lk 34 C_X8_lowestBits = some (.l2i, (0, 0, 0, 0)) := by decide +kernel
theorem s_X8_lowestBits_34 {ca : Nat → List Value → tM → tO} {M : tM} {L : tL} {x : Int64} {S : List Value} : rn ca C_X8_lowestBits 34 L (.long x :: S) M = rn ca C_X8_lowestBits 35 L (.int x.toInt32 :: S) M := (rn_at k_X8_lowestBits_34).trans rfl
theorem k_X8_lowestBits_35 : lk 35 C_X8_lowestBits = some (.i2s, (0, 0, 0, 0)) := by decide +kernel
theorem s_X8_lowestBits_35 {ca : Nat → List Value → tM → tO} {M : tM} {L : tL} {x : Int32} {S : List Value} : rn ca C_X8_lowestBits 35 L (.int x :: S) M = rn ca C_X8_lowestBits 36 L (.int (x.toInt16.toInt32) :: S) M := (rn_at k_X8_lowestBits_35).trans rfl
theorem k_X8_lowestBits_36 : lk 36 C_X8_lowestBits = some (.i2l, (0, 0, 0, 0)) := by decide +kernel
theorem s_X8_lowestBits_36 {ca : Nat → List Value → tM → tO} {M : tM} {L : tL} {x : Int32} {S : List Value} : rn ca C_X8_lowestBits 36 L (.int x :: S) M = rn ca C_X8_lowestBits 37 L (.long x.toInt64 :: S) M := (rn_at k_X8_lowestBits_36).trans rfl
theorem k_X8_lowestBits_37 : lk 37 C_X8_lowestBits = some (.lreturn, (0, 0, 0, 0)) := by decide +kernel
theorem s_X8_lowestBits_37 {ca : Nat → List Value → tM → tO} {M : tM} {L : tL} {x : Int64} : rn ca C_X8_lowestBits 37 L [.long x] M = some (some (.long x), M) := (rn_at k_X8_lowestBits_37).trans rfl
theorem k_X8_lowestBits_38 : lk 38 C_X8_lowestBits = some (.lload_n 0, (0, 0, 0, 0)) := by decide +kernel
theorem s_X8_lowestBits_38 {ca : Nat → List Value → tM → tO} {M : tM} {a1 a2 : Option Value} {x : Int64} {S : List Value} : rn ca C_X8_lowestBits 38 [some (.long x), a1, a2] S M = rn ca C_X8_lowestBits 39 [some (.long x), a1, a2] (.long x :: S) M := (rn_at k_X8_lowestBits_38).trans rfl
theorem k_X8_lowestBits_39 : lk 39 C_X8_lowestBits = some (.l2i, (0, 0, 0, 0)) := by decide +kernel
theorem s_X8_lowestBits_39 {ca : Nat → List Value → tM → tO} {M : tM} {L : tL} {x : Int64} {S : List Value} : rn ca C_X8_lowestBits 39 L (.long x :: S) M = rn ca C_X8_lowestBits 40 L (.int x.toInt32 :: S) M := (rn_at k_X8_lowestBits_39).trans rfl
theorem k_X8_lowestBits_40 : lk 40 C_X8_lowestBits = some (.i2l, (0, 0, 0, 0)) := by decide +kernel
theorem s_X8_lowestBits_40 {ca : Nat → List Value → tM → tO} {M : tM} {L : tL} {x : Int32} {S : List Value} : rn ca C_X8_lowestBits 40 L (.int x :: S) M = rn ca C_X8_lowestBits 41 L (.long x.toInt64 :: S) M := (rn_at k_X8_lowestBits_40).trans rfl
theorem k_X8_lowestBits_41 : lk 41 C_X8_lowestBits = some (.lreturn, (0, 0, 0, 0)) := by decide +kernel
theorem s_X8_lowestBits_41 {ca : Nat → List Value → tM → tO} {M : tM} {L : tL} {x : Int64} : rn ca C_X8_lowestBits 41 L [.long x] M = some (some (.long x), M) := (rn_at k_X8_lowestBits_41).trans rfl
theorem k_X8_lowestBits_42 : lk 42 C_X8_lowestBits = some (.lload_n 0, (0, 0, 0, 0)) := by decide +kernel
theorem s_X8_lowestBits_42 {ca : Nat → List Value → tM → tO} {M : tM} {a1 a2 : Option Value} {x : Int64} {S : List Value} : rn ca C_X8_lowestBits 42 [some (.long x), a1, a2] S M = rn ca C_X8_lowestBits 43 [some (.long x), a1, a2] (.long x :: S) M := (rn_at k_X8_lowestBits_42).trans rfl
theorem k_X8_lowestBits_43 : lk 43 C_X8_lowestBits = some (.lreturn, (0, 0, 0, 0)) := by decide +kernel
theorem s_X8_lowestBits_43 {ca : Nat → List Value → tM → tO} {M : tM} {L : tL} {x : Int64} : rn ca C_X8_lowestBits 43 L [.long x] M = some (some (.long x), M) := (rn_at k_X8_lowestBits_43).trans rfl
theorem k_X8_hasPart_0 : lk 0 C_X8_hasPart = some (.iload_n 2, (0, 0, 0, 0)) := by decide +kernel
theorem s_X8_hasPart_0 {ca : Nat → List Value → tM → tO} {M : tM} {a0 a1 a3 : Option Value} {x : Int32} {S : List Value} : rn ca C_X8_hasPart 0 [a0, a1, some (.int x), a3] S M = rn ca C_X8_hasPart 1 [a0, a1, some (.int x), a3] (.int x :: S) M := (rn_at k_X8_hasPart_0).trans rfl
theorem k_X8_hasPart_1 : lk 1 C_X8_hasPart = some (.ifCond .lt 31, (32, 0, 0, 0)) := by decide +kernel
theorem s_X8_hasPart_1 {ca : Nat → List Value → tM → tO} {M : tM} {L : tL} {x : Int32} {S : List Value} : rn ca C_X8_hasPart 1 L (.int x :: S) M = if x < iI 0 then rn ca C_X8_hasPart 32 L S M else rn ca C_X8_hasPart 4 L S M := (rn_at k_X8_hasPart_1).trans rnx_ite
theorem k_X8_hasPart_4 : lk 4 C_X8_hasPart = some (.iload_n 3, (0, 0, 0, 0)) := by decide +kernel
theorem s_X8_hasPart_4 {ca : Nat → List Value → tM → tO} {M : tM} {a0 a1 a2 : Option Value} {x : Int32} {S : List Value} : rn ca C_X8_hasPart 4 [a0, a1, a2, some (.int x)] S M = rn ca C_X8_hasPart 5 [a0, a1, a2, some (.int x)] (.int x :: S) M := (rn_at k_X8_hasPart_4).trans rfl
theorem k_X8_hasPart_5 : lk 5 C_X8_hasPart = some (.ifCond .lt 27, (32, 0, 0, 0)) := by decide +kernel
theorem s_X8_hasPart_5 {ca : Nat → List Value → tM → tO} {M : tM} {L : tL} {x : Int32} {S : List Value} : rn ca C_X8_hasPart 5 L (.int x :: S) M = if x < iI 0 then rn ca C_X8_hasPart 32 L S M else rn ca C_X8_hasPart 8 L S M := (rn_at k_X8_hasPart_5).trans rnx_ite
theorem k_X8_hasPart_8 : lk 8 C_X8_hasPart = some (.iload_n 3, (0, 0, 0, 0)) := by decide +kernel
theorem s_X8_hasPart_8 {ca : Nat → List Value → tM → tO} {M : tM} {a0 a1 a2 : Option Value} {x : Int32} {S : List Value} : rn ca C_X8_hasPart 8 [a0, a1, a2, some (.int x)] S M = rn ca C_X8_hasPart 9 [a0, a1, a2, some (.int x)] (.int x :: S) M := (rn_at k_X8_hasPart_8).trans rfl
theorem k_X8_hasPart_9 : lk 9 C_X8_hasPart = some (.aload_n 0, (0, 0, 0, 0)) := by decide +kernel
theorem s_X8_hasPart_9 {ca : Nat → List Value → tM → tO} {M : tM} {a1 a2 a3 : Option Value} {x : Nat} {S : List Value} : rn ca C_X8_hasPart 9 [some (.ref x), a1, a2, a3] S M = rn ca C_X8_hasPart 10 [some (.ref x), a1, a2, a3] (.ref x :: S) M := (rn_at k_X8_hasPart_9).trans rfl
theorem k_X8_hasPart_10 : lk 10 C_X8_hasPart = some (.iload_n 1, (0, 0, 0, 0)) := by decide +kernel
theorem s_X8_hasPart_10 {ca : Nat → List Value → tM → tO} {M : tM} {a0 a2 a3 : Option Value} {x : Int32} {S : List Value} : rn ca C_X8_hasPart 10 [a0, some (.int x), a2, a3] S M = rn ca C_X8_hasPart 11 [a0, some (.int x), a2, a3] (.int x :: S) M := (rn_at k_X8_hasPart_10).trans rfl
theorem k_X8_hasPart_11 : lk 11 C_X8_hasPart = some (.invokevirtual 33, (68, 1, 8, 228)) := by decide +kernel
theorem s_X8_hasPart_11 {ca : Nat → List Value → tM → tO} {M : tM} {L : tL} {v1 : Value} {r0 : Int32} {b : Nat} : rn ca C_X8_hasPart 11 L [v1, .ref b, .int r0] M = if clsO b = some 8 then rnk ca C_X8_hasPart 14 L [.int r0] (ca m_X8_sizeOf [.ref b, v1] M) else none := (rn_at k_X8_hasPart_11).trans rnx_ite
theorem k_X8_hasPart_14 : lk 14 C_X8_hasPart = some (.if_icmp .gt 18, (32, 0, 0, 0)) := by decide +kernel
theorem s_X8_hasPart_14 {ca : Nat → List Value → tM → tO} {M : tM} {L : tL} {x y : Int32} {S : List Value} : rn ca C_X8_hasPart 14 L (.int y :: .int x :: S) M = if y < x then rn ca C_X8_hasPart 32 L S M else rn ca C_X8_hasPart 17 L S M := (rn_at k_X8_hasPart_14).trans rnx_ite
theorem k_X8_hasPart_17 : lk 17 C_X8_hasPart = some (.iload_n 2, (0, 0, 0, 0)) := by decide +kernel
theorem s_X8_hasPart_17 {ca : Nat → List Value → tM → tO} {M : tM} {a0 a1 a3 : Option Value} {x : Int32} {S : List Value} : rn ca C_X8_hasPart 17 [a0, a1, some (.int x), a3] S M = rn ca C_X8_hasPart 18 [a0, a1, some (.int x), a3] (.int x :: S) M := (rn_at k_X8_hasPart_17).trans rfl
theorem k_X8_hasPart_18 : lk 18 C_X8_hasPart = some (.aload_n 0, (0, 0, 0, 0)) := by decide +kernel
theorem s_X8_hasPart_18 {ca : Nat → List Value → tM → tO} {M : tM} {a1 a2 a3 : Option Value} {x : Nat} {S : List Value} : rn ca C_X8_hasPart 18 [some (.ref x), a1, a2, a3] S M = rn ca C_X8_hasPart 19 [some (.ref x), a1, a2, a3] (.ref x :: S) M := (rn_at k_X8_hasPart_18).trans rfl
theorem k_X8_hasPart_19 : lk 19 C_X8_hasPart = some (.iload_n 1, (0, 0, 0, 0)) := by decide +kernel
theorem s_X8_hasPart_19 {ca : Nat → List Value → tM → tO} {M : tM} {a0 a2 a3 : Option Value} {x : Int32} {S : List Value} : rn ca C_X8_hasPart 19 [a0, some (.int x), a2, a3] S M = rn ca C_X8_hasPart 20 [a0, some (.int x), a2, a3] (.int x :: S) M := (rn_at k_X8_hasPart_19).trans rfl
theorem k_X8_hasPart_20 : lk 20 C_X8_hasPart = some (.invokevirtual 33, (68, 1, 8, 228)) := by decide +kernel
theorem s_X8_hasPart_20 {ca : Nat → List Value → tM → tO} {M : tM} {L : tL} {v1 : Value} {r0 : Int32} {b : Nat} : rn ca C_X8_hasPart 20 L [v1, .ref b, .int r0] M = if clsO b = some 8 then rnk ca C_X8_hasPart 23 L [.int r0] (ca m_X8_sizeOf [.ref b, v1] M) else none := (rn_at k_X8_hasPart_20).trans rnx_ite
theorem k_X8_hasPart_23 : lk 23 C_X8_hasPart = some (.iload_n 3, (0, 0, 0, 0)) := by decide +kernel
theorem s_X8_hasPart_23 {ca : Nat → List Value → tM → tO} {M : tM} {a0 a1 a2 : Option Value} {x : Int32} {S : List Value} : rn ca C_X8_hasPart 23 [a0, a1, a2, some (.int x)] S M = rn ca C_X8_hasPart 24 [a0, a1, a2, some (.int x)] (.int x :: S) M := (rn_at k_X8_hasPart_23).trans rfl
theorem k_X8_hasPart_24 : lk 24 C_X8_hasPart = some (.isub, (0, 0, 0, 0)) := by decide +kernel
theorem s_X8_hasPart_24 {ca : Nat → List Value → tM → tO} {M : tM} {L : tL} {x y : Int32} {S : List Value} : rn ca C_X8_hasPart 24 L (.int y :: .int x :: S) M = rn ca C_X8_hasPart 25 L (.int (x - y) :: S) M := (rn_at k_X8_hasPart_24).trans rfl
theorem k_X8_hasPart_25 : lk 25 C_X8_hasPart = some (.if_icmp .gt 7, (32, 0, 0, 0)) := by decide +kernel
theorem s_X8_hasPart_25 {ca : Nat → List Value → tM → tO} {M : tM} {L : tL} {x y : Int32} {S : List Value} : rn ca C_X8_hasPart 25 L (.int y :: .int x :: S) M = if y < x then rn ca C_X8_hasPart 32 L S M else rn ca C_X8_hasPart 28 L S M := (rn_at k_X8_hasPart_25).trans rnx_ite
theorem k_X8_hasPart_28 : lk 28 C_X8_hasPart = some (.iconst 1, (0, 0, 0, 0)) := by decide +kernel
theorem s_X8_hasPart_28 {ca : Nat → List Value → tM → tO} {M : tM} {L : tL} {S : List Value} : rn ca C_X8_hasPart 28 L S M = rn ca C_X8_hasPart 29 L (.int (iI 1) :: S) M := (rn_at k_X8_hasPart_28).trans rfl
theorem k_X8_hasPart_29 : lk 29 C_X8_hasPart = some (.goto 4, (33, 0, 0, 0)) := by decide +kernel
theorem s_X8_hasPart_29 {ca : Nat → List Value → tM → tO} {M : tM} {L : tL} {S : List Value} : rn ca C_X8_hasPart 29 L S M = rn ca C_X8_hasPart 33 L S M := (rn_at k_X8_hasPart_29).trans rfl
theorem k_X8_hasPart_32 : lk 32 C_X8_hasPart = some (.iconst 0, (0, 0, 0, 0)) := by decide +kernel
theorem s_X8_hasPart_32 {ca : Nat → List Value → tM → tO} {M : tM} {L : tL} {S : List Value} : rn ca C_X8_hasPart 32 L S M = rn ca C_X8_hasPart 33 L (.int (iI 0) :: S) M := (rn_at k_X8_hasPart_32).trans rfl
theorem k_X8_hasPart_33 : lk 33 C_X8_hasPart = some (.ireturn, (1, 0, 0, 0)) := by decide +kernel
theorem s_X8_hasPart_33 {ca : Nat → List Value → tM → tO} {M : tM} {L : tL} {x : Int32} : rn ca C_X8_hasPart 33 L [.int x] M = if x = iI 0 ∨ x = iI 1 then some (some (.int x), M) else none := (rn_at k_X8_hasPart_33).trans rnx_ite
theorem k_X8_copyPart_0 : lk 0 C_X8_copyPart = some (.aload_n 0, (0, 0, 0, 0)) := by decide +kernel
theorem s_X8_copyPart_0 {ca : Nat → List Value → tM → tO} {M : tM} {a1 a2 a3 a4 a5 : Option Value} {x : Nat} {S : List Value} : rn ca C_X8_copyPart 0 [some (.ref x), a1, a2, a3, a4, a5] S M = rn ca C_X8_copyPart 1 [some (.ref x), a1, a2, a3, a4, a5] (.ref x :: S) M := (rn_at k_X8_copyPart_0).trans rfl
theorem k_X8_copyPart_1 : lk 1 C_X8_copyPart = some (.iload_n 1, (0, 0, 0, 0)) := by decide +kernel
theorem s_X8_copyPart_1 {ca : Nat → List Value → tM → tO} {M : tM} {a0 a2 a3 a4 a5 : Option Value} {x : Int32} {S : List Value} : rn ca C_X8_copyPart 1 [a0, some (.int x), a2, a3, a4, a5] S M = rn ca C_X8_copyPart 2 [a0, some (.int x), a2, a3, a4, a5] (.int x :: S) M := (rn_at k_X8_copyPart_1).trans rfl
theorem k_X8_copyPart_2 : lk 2 C_X8_copyPart = some (.invokevirtual 49, (66, 1, 8, 260)) := by decide +kernel
theorem s_X8_copyPart_2 {ca : Nat → List Value → tM → tO} {M : tM} {L : tL} {v1 : Value} {b : Nat} : rn ca C_X8_copyPart 2 L [v1, .ref b] M = if clsO b = some 8 then rnk ca C_X8_copyPart 5 L [] (ca m_X8_hasRow [.ref b, v1] M) else none := (rn_at k_X8_copyPart_2).trans rnx_ite
theorem k_X8_copyPart_5 : lk 5 C_X8_copyPart = some (.ifCond .eq 54, (59, 0, 0, 0)) := by decide +kernel
theorem s_X8_copyPart_5 {ca : Nat → List Value → tM → tO} {M : tM} {L : tL} {x : Int32} {S : List Value} : rn ca C_X8_copyPart 5 L (.int x :: S) M = if x = iI 0 then rn ca C_X8_copyPart 59 L S M else rn ca C_X8_copyPart 8 L S M := (rn_at k_X8_copyPart_5).trans rnx_ite
theorem k_X8_copyPart_8 : lk 8 C_X8_copyPart = some (.aload_n 0, (0, 0, 0, 0)) := by decide +kernel
theorem s_X8_copyPart_8 {ca : Nat → List Value → tM → tO} {M : tM} {a1 a2 a3 a4 a5 : Option Value} {x : Nat} {S : List Value} : rn ca C_X8_copyPart 8 [some (.ref x), a1, a2, a3, a4, a5] S M = rn ca C_X8_copyPart 9 [some (.ref x), a1, a2, a3, a4, a5] (.ref x :: S) M := (rn_at k_X8_copyPart_8).trans rfl
theorem k_X8_copyPart_9 : lk 9 C_X8_copyPart = some (.iload_n 2, (0, 0, 0, 0)) := by decide +kernel
theorem s_X8_copyPart_9 {ca : Nat → List Value → tM → tO} {M : tM} {a0 a1 a3 a4 a5 : Option Value} {x : Int32} {S : List Value} : rn ca C_X8_copyPart 9 [a0, a1, some (.int x), a3, a4, a5] S M = rn ca C_X8_copyPart 10 [a0, a1, some (.int x), a3, a4, a5] (.int x :: S) M := (rn_at k_X8_copyPart_9).trans rfl
theorem k_X8_copyPart_10 : lk 10 C_X8_copyPart = some (.invokevirtual 49, (66, 1, 8, 260)) := by decide +kernel
theorem s_X8_copyPart_10 {ca : Nat → List Value → tM → tO} {M : tM} {L : tL} {v1 : Value} {b : Nat} : rn ca C_X8_copyPart 10 L [v1, .ref b] M = if clsO b = some 8 then rnk ca C_X8_copyPart 13 L [] (ca m_X8_hasRow [.ref b, v1] M) else none := (rn_at k_X8_copyPart_10).trans rnx_ite
theorem k_X8_copyPart_13 : lk 13 C_X8_copyPart = some (.ifCond .eq 46, (59, 0, 0, 0)) := by decide +kernel
theorem s_X8_copyPart_13 {ca : Nat → List Value → tM → tO} {M : tM} {L : tL} {x : Int32} {S : List Value} : rn ca C_X8_copyPart 13 L (.int x :: S) M = if x = iI 0 then rn ca C_X8_copyPart 59 L S M else rn ca C_X8_copyPart 16 L S M := (rn_at k_X8_copyPart_13).trans rnx_ite
theorem k_X8_copyPart_16 : lk 16 C_X8_copyPart = some (.aload_n 0, (0, 0, 0, 0)) := by decide +kernel
theorem s_X8_copyPart_16 {ca : Nat → List Value → tM → tO} {M : tM} {a1 a2 a3 a4 a5 : Option Value} {x : Nat} {S : List Value} : rn ca C_X8_copyPart 16 [some (.ref x), a1, a2, a3, a4, a5] S M = rn ca C_X8_copyPart 17 [some (.ref x), a1, a2, a3, a4, a5] (.ref x :: S) M := (rn_at k_X8_copyPart_16).trans rfl
theorem k_X8_copyPart_17 : lk 17 C_X8_copyPart = some (.iload_n 1, (0, 0, 0, 0)) := by decide +kernel
theorem s_X8_copyPart_17 {ca : Nat → List Value → tM → tO} {M : tM} {a0 a2 a3 a4 a5 : Option Value} {x : Int32} {S : List Value} : rn ca C_X8_copyPart 17 [a0, some (.int x), a2, a3, a4, a5] S M = rn ca C_X8_copyPart 18 [a0, some (.int x), a2, a3, a4, a5] (.int x :: S) M := (rn_at k_X8_copyPart_17).trans rfl
theorem k_X8_copyPart_18 : lk 18 C_X8_copyPart = some (.iload_n 3, (0, 0, 0, 0)) := by decide +kernel
theorem s_X8_copyPart_18 {ca : Nat → List Value → tM → tO} {M : tM} {a0 a1 a2 a4 a5 : Option Value} {x : Int32} {S : List Value} : rn ca C_X8_copyPart 18 [a0, a1, a2, some (.int x), a4, a5] S M = rn ca C_X8_copyPart 19 [a0, a1, a2, some (.int x), a4, a5] (.int x :: S) M := (rn_at k_X8_copyPart_18).trans rfl
theorem k_X8_copyPart_19 : lk 19 C_X8_copyPart = some (.iload 5, (0, 0, 0, 0)) := by decide +kernel
theorem s_X8_copyPart_19 {ca : Nat → List Value → tM → tO} {M : tM} {a0 a1 a2 a3 a4 : Option Value} {x : Int32} {S : List Value} : rn ca C_X8_copyPart 19 [a0, a1, a2, a3, a4, some (.int x)] S M = rn ca C_X8_copyPart 21 [a0, a1, a2, a3, a4, some (.int x)] (.int x :: S) M := (rn_at k_X8_copyPart_19).trans rfl
theorem k_X8_copyPart_21 : lk 21 C_X8_copyPart = some (.invokevirtual 52, (76, 3, 8, 264)) := by decide +kernel
theorem s_X8_copyPart_21 {ca : Nat → List Value → tM → tO} {M : tM} {L : tL} {v1 v2 v3 : Value} {b : Nat} : rn ca C_X8_copyPart 21 L [v3, v2, v1, .ref b] M = if clsO b = some 8 then rnk ca C_X8_copyPart 24 L [] (ca m_X8_hasPart [.ref b, v1, v2, v3] M) else none := (rn_at k_X8_copyPart_21).trans rnx_ite
theorem k_X8_copyPart_24 : lk 24 C_X8_copyPart = some (.ifCond .eq 35, (59, 0, 0, 0)) := by decide +kernel
theorem s_X8_copyPart_24 {ca : Nat → List Value → tM → tO} {M : tM} {L : tL} {x : Int32} {S : List Value} : rn ca C_X8_copyPart 24 L (.int x :: S) M = if x = iI 0 then rn ca C_X8_copyPart 59 L S M else rn ca C_X8_copyPart 27 L S M := (rn_at k_X8_copyPart_24).trans rnx_ite
theorem k_X8_copyPart_27 : lk 27 C_X8_copyPart = some (.aload_n 0, (0, 0, 0, 0)) := by decide +kernel
theorem s_X8_copyPart_27 {ca : Nat → List Value → tM → tO} {M : tM} {a1 a2 a3 a4 a5 : Option Value} {x : Nat} {S : List Value} : rn ca C_X8_copyPart 27 [some (.ref x), a1, a2, a3, a4, a5] S M = rn ca C_X8_copyPart 28 [some (.ref x), a1, a2, a3, a4, a5] (.ref x :: S) M := (rn_at k_X8_copyPart_27).trans rfl
theorem k_X8_copyPart_28 : lk 28 C_X8_copyPart = some (.iload_n 2, (0, 0, 0, 0)) := by decide +kernel
theorem s_X8_copyPart_28 {ca : Nat → List Value → tM → tO} {M : tM} {a0 a1 a3 a4 a5 : Option Value} {x : Int32} {S : List Value} : rn ca C_X8_copyPart 28 [a0, a1, some (.int x), a3, a4, a5] S M = rn ca C_X8_copyPart 29 [a0, a1, some (.int x), a3, a4, a5] (.int x :: S) M := (rn_at k_X8_copyPart_28).trans rfl
theorem k_X8_copyPart_29 : lk 29 C_X8_copyPart = some (.iload 4, (0, 0, 0, 0)) := by decide +kernel
theorem s_X8_copyPart_29 {ca : Nat → List Value → tM → tO} {M : tM} {a0 a1 a2 a3 a5 : Option Value} {x : Int32} {S : List Value} : rn ca C_X8_copyPart 29 [a0, a1, a2, a3, some (.int x), a5] S M = rn ca C_X8_copyPart 31 [a0, a1, a2, a3, some (.int x), a5] (.int x :: S) M := (rn_at k_X8_copyPart_29).trans rfl
theorem k_X8_copyPart_31 : lk 31 C_X8_copyPart = some (.iload 5, (0, 0, 0, 0)) := by decide +kernel
theorem s_X8_copyPart_31 {ca : Nat → List Value → tM → tO} {M : tM} {a0 a1 a2 a3 a4 : Option Value} {x : Int32} {S : List Value} : rn ca C_X8_copyPart 31 [a0, a1, a2, a3, a4, some (.int x)] S M = rn ca C_X8_copyPart 33 [a0, a1, a2, a3, a4, some (.int x)] (.int x :: S) M := (rn_at k_X8_copyPart_31).trans rfl
theorem k_X8_copyPart_33 : lk 33 C_X8_copyPart = some (.invokevirtual 52, (76, 3, 8, 264)) := by decide +kernel
theorem s_X8_copyPart_33 {ca : Nat → List Value → tM → tO} {M : tM} {L : tL} {v1 v2 v3 : Value} {b : Nat} : rn ca C_X8_copyPart 33 L [v3, v2, v1, .ref b] M = if clsO b = some 8 then rnk ca C_X8_copyPart 36 L [] (ca m_X8_hasPart [.ref b, v1, v2, v3] M) else none := (rn_at k_X8_copyPart_33).trans rnx_ite
theorem k_X8_copyPart_36 : lk 36 C_X8_copyPart = some (.ifCond .eq 23, (59, 0, 0, 0)) := by decide +kernel
theorem s_X8_copyPart_36 {ca : Nat → List Value → tM → tO} {M : tM} {L : tL} {x : Int32} {S : List Value} : rn ca C_X8_copyPart 36 L (.int x :: S) M = if x = iI 0 then rn ca C_X8_copyPart 59 L S M else rn ca C_X8_copyPart 39 L S M := (rn_at k_X8_copyPart_36).trans rnx_ite
theorem k_X8_copyPart_39 : lk 39 C_X8_copyPart = some (.aload_n 0, (0, 0, 0, 0)) := by decide +kernel
theorem s_X8_copyPart_39 {ca : Nat → List Value → tM → tO} {M : tM} {a1 a2 a3 a4 a5 : Option Value} {x : Nat} {S : List Value} : rn ca C_X8_copyPart 39 [some (.ref x), a1, a2, a3, a4, a5] S M = rn ca C_X8_copyPart 40 [some (.ref x), a1, a2, a3, a4, a5] (.ref x :: S) M := (rn_at k_X8_copyPart_39).trans rfl
theorem k_X8_copyPart_40 : lk 40 C_X8_copyPart = some (.getfield 20, (8, 2, 0, 85)) := by decide +kernel
theorem s_X8_copyPart_40 {ca : Nat → List Value → tM → tO} {M : tM} {L : tL} {b : Nat} {S : List Value} : rn ca C_X8_copyPart 40 L (.ref b :: S) M = if clsO b = some 8 then rn ca C_X8_copyPart 43 L (fv M b 2 :: S) M else none := (rn_at k_X8_copyPart_40).trans rnx_ite
theorem k_X8_copyPart_43 : lk 43 C_X8_copyPart = some (.iload_n 1, (0, 0, 0, 0)) := by decide +kernel
theorem s_X8_copyPart_43 {ca : Nat → List Value → tM → tO} {M : tM} {a0 a2 a3 a4 a5 : Option Value} {x : Int32} {S : List Value} : rn ca C_X8_copyPart 43 [a0, some (.int x), a2, a3, a4, a5] S M = rn ca C_X8_copyPart 44 [a0, some (.int x), a2, a3, a4, a5] (.int x :: S) M := (rn_at k_X8_copyPart_43).trans rfl
theorem k_X8_copyPart_44 : lk 44 C_X8_copyPart = some (.aaload, (0, 0, 0, 0)) := by decide +kernel
theorem s_X8_copyPart_44 {ca : Nat → List Value → tM → tO} {M : tM} {L : tL} {a : Nat} {i : Int32} {S : List Value} : rn ca C_X8_copyPart 44 L (.int i :: .ref a :: S) M = if (akind a = 3 ∨ akind a = 4 ∨ akind a = 5) ∧ inb i (alen M a) then rn ca C_X8_copyPart 45 L (.ref (rfe a i.toInt.toNat) :: S) M else none := (rn_at k_X8_copyPart_44).trans rnx_ite
theorem k_X8_copyPart_45 : lk 45 C_X8_copyPart = some (.iload_n 3, (0, 0, 0, 0)) := by decide +kernel
theorem s_X8_copyPart_45 {ca : Nat → List Value → tM → tO} {M : tM} {a0 a1 a2 a4 a5 : Option Value} {x : Int32} {S : List Value} : rn ca C_X8_copyPart 45 [a0, a1, a2, some (.int x), a4, a5] S M = rn ca C_X8_copyPart 46 [a0, a1, a2, some (.int x), a4, a5] (.int x :: S) M := (rn_at k_X8_copyPart_45).trans rfl
theorem k_X8_copyPart_46 : lk 46 C_X8_copyPart = some (.aload_n 0, (0, 0, 0, 0)) := by decide +kernel
theorem s_X8_copyPart_46 {ca : Nat → List Value → tM → tO} {M : tM} {a1 a2 a3 a4 a5 : Option Value} {x : Nat} {S : List Value} : rn ca C_X8_copyPart 46 [some (.ref x), a1, a2, a3, a4, a5] S M = rn ca C_X8_copyPart 47 [some (.ref x), a1, a2, a3, a4, a5] (.ref x :: S) M := (rn_at k_X8_copyPart_46).trans rfl
theorem k_X8_copyPart_47 : lk 47 C_X8_copyPart = some (.getfield 20, (8, 2, 0, 85)) := by decide +kernel
theorem s_X8_copyPart_47 {ca : Nat → List Value → tM → tO} {M : tM} {L : tL} {b : Nat} {S : List Value} : rn ca C_X8_copyPart 47 L (.ref b :: S) M = if clsO b = some 8 then rn ca C_X8_copyPart 50 L (fv M b 2 :: S) M else none := (rn_at k_X8_copyPart_47).trans rnx_ite
theorem k_X8_copyPart_50 : lk 50 C_X8_copyPart = some (.iload_n 2, (0, 0, 0, 0)) := by decide +kernel
theorem s_X8_copyPart_50 {ca : Nat → List Value → tM → tO} {M : tM} {a0 a1 a3 a4 a5 : Option Value} {x : Int32} {S : List Value} : rn ca C_X8_copyPart 50 [a0, a1, some (.int x), a3, a4, a5] S M = rn ca C_X8_copyPart 51 [a0, a1, some (.int x), a3, a4, a5] (.int x :: S) M := (rn_at k_X8_copyPart_50).trans rfl
theorem k_X8_copyPart_51 : lk 51 C_X8_copyPart = some (.aaload, (0, 0, 0, 0)) := by decide +kernel
theorem s_X8_copyPart_51 {ca : Nat → List Value → tM → tO} {M : tM} {L : tL} {a : Nat} {i : Int32} {S : List Value} : rn ca C_X8_copyPart 51 L (.int i :: .ref a :: S) M = if (akind a = 3 ∨ akind a = 4 ∨ akind a = 5) ∧ inb i (alen M a) then rn ca C_X8_copyPart 52 L (.ref (rfe a i.toInt.toNat) :: S) M else none := (rn_at k_X8_copyPart_51).trans rnx_ite
theorem k_X8_copyPart_52 : lk 52 C_X8_copyPart = some (.iload 4, (0, 0, 0, 0)) := by decide +kernel
theorem s_X8_copyPart_52 {ca : Nat → List Value → tM → tO} {M : tM} {a0 a1 a2 a3 a5 : Option Value} {x : Int32} {S : List Value} : rn ca C_X8_copyPart 52 [a0, a1, a2, a3, some (.int x), a5] S M = rn ca C_X8_copyPart 54 [a0, a1, a2, a3, some (.int x), a5] (.int x :: S) M := (rn_at k_X8_copyPart_52).trans rfl
theorem k_X8_copyPart_54 : lk 54 C_X8_copyPart = some (.iload 5, (0, 0, 0, 0)) := by decide +kernel
theorem s_X8_copyPart_54 {ca : Nat → List Value → tM → tO} {M : tM} {a0 a1 a2 a3 a4 : Option Value} {x : Int32} {S : List Value} : rn ca C_X8_copyPart 54 [a0, a1, a2, a3, a4, some (.int x)] S M = rn ca C_X8_copyPart 56 [a0, a1, a2, a3, a4, some (.int x)] (.int x :: S) M := (rn_at k_X8_copyPart_54).trans rfl
theorem k_X8_copyPart_56 : lk 56 C_X8_copyPart = some (.invokestatic 56, (0, 0, 1, 256)) := by decide +kernel
theorem s_X8_copyPart_56 {ca : Nat → List Value → tM → tO} {M : tM} {L : tL} {s d : Nat} {sp dp n : Int32} : rn ca C_X8_copyPart 56 L [.int n, .int dp, .ref d, .int sp, .ref s] M = if akind s = 0 ∧ akind d = 0 ∧ 0 ≤ sp.toInt ∧ 0 ≤ dp.toInt ∧ 0 ≤ n.toInt ∧ sp.toInt + n.toInt ≤ (alen M s : Int) ∧ dp.toInt + n.toInt ≤ (alen M d : Int) then rn ca C_X8_copyPart 59 L [] (rI M d (cpy (M.1 s) (M.1 d) sp.toInt.toNat dp.toInt.toNat n.toInt.toNat)) else if akind s = 2 ∧ akind d = 2 ∧ 0 ≤ sp.toInt ∧ 0 ≤ dp.toInt ∧ 0 ≤ n.toInt ∧ sp.toInt + n.toInt ≤ (alen M s : Int) ∧ dp.toInt + n.toInt ≤ (alen M d : Int) then rn ca C_X8_copyPart 59 L [] (rJ M d (cpy (M.2 s) (M.2 d) sp.toInt.toNat dp.toInt.toNat n.toInt.toNat)) else none := by rw [rn_at k_X8_copyPart_56]; simp only [ta, rnx_ite]; rfl
theorem k_X8_copyPart_59 : lk 59 C_X8_copyPart = some (.return_, (0, 0, 0, 0)) := by decide +kernel
theorem s_X8_copyPart_59 {ca : Nat → List Value → tM → tO} {M : tM} {L : tL} : rn ca C_X8_copyPart 59 L [] M = some (none, M) := (rn_at k_X8_copyPart_59).trans rfl
theorem k_X8_dropCapsulesFrom_0 : lk 0 C_X8_dropCapsulesFrom = some (.iconst 0, (0, 0, 0, 0)) := by decide +kernel
theorem s_X8_dropCapsulesFrom_0 {ca : Nat → List Value → tM → tO} {M : tM} {L : tL} {S : List Value} : rn ca C_X8_dropCapsulesFrom 0 L S M = rn ca C_X8_dropCapsulesFrom 1 L (.int (iI 0) :: S) M := (rn_at k_X8_dropCapsulesFrom_0).trans rfl
theorem k_X8_dropCapsulesFrom_1 : lk 1 C_X8_dropCapsulesFrom = some (.istore_n 2, (0, 0, 0, 0)) := by decide +kernel
theorem s_X8_dropCapsulesFrom_1 {ca : Nat → List Value → tM → tO} {M : tM} {a0 a1 a2 : Option Value} {x : Int32} {S : List Value} : rn ca C_X8_dropCapsulesFrom 1 [a0, a1, a2] (.int x :: S) M = rn ca C_X8_dropCapsulesFrom 2 [a0, a1, some (.int x)] S M := (rn_at k_X8_dropCapsulesFrom_1).trans rfl
theorem k_X8_dropCapsulesFrom_2 : lk 2 C_X8_dropCapsulesFrom = some (.iload_n 2, (0, 0, 0, 0)) := by decide +kernel
theorem s_X8_dropCapsulesFrom_2 {ca : Nat → List Value → tM → tO} {M : tM} {a0 a1 : Option Value} {x : Int32} {S : List Value} : rn ca C_X8_dropCapsulesFrom 2 [a0, a1, some (.int x)] S M = rn ca C_X8_dropCapsulesFrom 3 [a0, a1, some (.int x)] (.int x :: S) M := (rn_at k_X8_dropCapsulesFrom_2).trans rfl
theorem k_X8_dropCapsulesFrom_3 : lk 3 C_X8_dropCapsulesFrom = some (.bipush 8, (0, 0, 0, 0)) := by decide +kernel
theorem s_X8_dropCapsulesFrom_3 {ca : Nat → List Value → tM → tO} {M : tM} {L : tL} {S : List Value} : rn ca C_X8_dropCapsulesFrom 3 L S M = rn ca C_X8_dropCapsulesFrom 5 L (.int (iI 8) :: S) M := (rn_at k_X8_dropCapsulesFrom_3).trans rfl
theorem k_X8_dropCapsulesFrom_5 : lk 5 C_X8_dropCapsulesFrom = some (.if_icmp .ge 37, (42, 0, 0, 0)) := by decide +kernel
theorem s_X8_dropCapsulesFrom_5 {ca : Nat → List Value → tM → tO} {M : tM} {L : tL} {x y : Int32} {S : List Value} : rn ca C_X8_dropCapsulesFrom 5 L (.int y :: .int x :: S) M = if y ≤ x then rn ca C_X8_dropCapsulesFrom 42 L S M else rn ca C_X8_dropCapsulesFrom 8 L S M := (rn_at k_X8_dropCapsulesFrom_5).trans rnx_ite
theorem k_X8_dropCapsulesFrom_8 : lk 8 C_X8_dropCapsulesFrom = some (.aload_n 0, (0, 0, 0, 0)) := by decide +kernel
theorem s_X8_dropCapsulesFrom_8 {ca : Nat → List Value → tM → tO} {M : tM} {a1 a2 : Option Value} {x : Nat} {S : List Value} : rn ca C_X8_dropCapsulesFrom 8 [some (.ref x), a1, a2] S M = rn ca C_X8_dropCapsulesFrom 9 [some (.ref x), a1, a2] (.ref x :: S) M := (rn_at k_X8_dropCapsulesFrom_8).trans rfl
theorem k_X8_dropCapsulesFrom_9 : lk 9 C_X8_dropCapsulesFrom = some (.getfield 9, (8, 0, 0, 81)) := by decide +kernel
theorem s_X8_dropCapsulesFrom_9 {ca : Nat → List Value → tM → tO} {M : tM} {L : tL} {b : Nat} {S : List Value} : rn ca C_X8_dropCapsulesFrom 9 L (.ref b :: S) M = if clsO b = some 8 then rn ca C_X8_dropCapsulesFrom 12 L (fv M b 0 :: S) M else none := (rn_at k_X8_dropCapsulesFrom_9).trans rnx_ite
theorem k_X8_dropCapsulesFrom_12 : lk 12 C_X8_dropCapsulesFrom = some (.iload_n 2, (0, 0, 0, 0)) := by decide +kernel
theorem s_X8_dropCapsulesFrom_12 {ca : Nat → List Value → tM → tO} {M : tM} {a0 a1 : Option Value} {x : Int32} {S : List Value} : rn ca C_X8_dropCapsulesFrom 12 [a0, a1, some (.int x)] S M = rn ca C_X8_dropCapsulesFrom 13 [a0, a1, some (.int x)] (.int x :: S) M := (rn_at k_X8_dropCapsulesFrom_12).trans rfl
theorem k_X8_dropCapsulesFrom_13 : lk 13 C_X8_dropCapsulesFrom = some (.iaload, (0, 0, 0, 0)) := by decide +kernel
theorem s_X8_dropCapsulesFrom_13 {ca : Nat → List Value → tM → tO} {M : tM} {L : tL} {a : Nat} {i : Int32} {S : List Value} : rn ca C_X8_dropCapsulesFrom 13 L (.int i :: .ref a :: S) M = if (akind a = 0 ∨ akind a = 6 ∨ akind a = 7) ∧ inb i (alen M a) then rn ca C_X8_dropCapsulesFrom 14 L (.int (M.1 a i.toInt.toNat) :: S) M else none := (rn_at k_X8_dropCapsulesFrom_13).trans rnx_ite
theorem k_X8_dropCapsulesFrom_14 : lk 14 C_X8_dropCapsulesFrom = some (.iload_n 1, (0, 0, 0, 0)) := by decide +kernel
theorem s_X8_dropCapsulesFrom_14 {ca : Nat → List Value → tM → tO} {M : tM} {a0 a2 : Option Value} {x : Int32} {S : List Value} : rn ca C_X8_dropCapsulesFrom 14 [a0, some (.int x), a2] S M = rn ca C_X8_dropCapsulesFrom 15 [a0, some (.int x), a2] (.int x :: S) M := (rn_at k_X8_dropCapsulesFrom_14).trans rfl
theorem k_X8_dropCapsulesFrom_15 : lk 15 C_X8_dropCapsulesFrom = some (.if_icmp .lt 21, (36, 0, 0, 0)) := by decide +kernel
theorem s_X8_dropCapsulesFrom_15 {ca : Nat → List Value → tM → tO} {M : tM} {L : tL} {x y : Int32} {S : List Value} : rn ca C_X8_dropCapsulesFrom 15 L (.int y :: .int x :: S) M = if x < y then rn ca C_X8_dropCapsulesFrom 36 L S M else rn ca C_X8_dropCapsulesFrom 18 L S M := (rn_at k_X8_dropCapsulesFrom_15).trans rnx_ite
theorem k_X8_dropCapsulesFrom_18 : lk 18 C_X8_dropCapsulesFrom = some (.aload_n 0, (0, 0, 0, 0)) := by decide +kernel
theorem s_X8_dropCapsulesFrom_18 {ca : Nat → List Value → tM → tO} {M : tM} {a1 a2 : Option Value} {x : Nat} {S : List Value} : rn ca C_X8_dropCapsulesFrom 18 [some (.ref x), a1, a2] S M = rn ca C_X8_dropCapsulesFrom 19 [some (.ref x), a1, a2] (.ref x :: S) M := (rn_at k_X8_dropCapsulesFrom_18).trans rfl
theorem k_X8_dropCapsulesFrom_19 : lk 19 C_X8_dropCapsulesFrom = some (.getfield 9, (8, 0, 0, 81)) := by decide +kernel
theorem s_X8_dropCapsulesFrom_19 {ca : Nat → List Value → tM → tO} {M : tM} {L : tL} {b : Nat} {S : List Value} : rn ca C_X8_dropCapsulesFrom 19 L (.ref b :: S) M = if clsO b = some 8 then rn ca C_X8_dropCapsulesFrom 22 L (fv M b 0 :: S) M else none := (rn_at k_X8_dropCapsulesFrom_19).trans rnx_ite
theorem k_X8_dropCapsulesFrom_22 : lk 22 C_X8_dropCapsulesFrom = some (.iload_n 2, (0, 0, 0, 0)) := by decide +kernel
theorem s_X8_dropCapsulesFrom_22 {ca : Nat → List Value → tM → tO} {M : tM} {a0 a1 : Option Value} {x : Int32} {S : List Value} : rn ca C_X8_dropCapsulesFrom 22 [a0, a1, some (.int x)] S M = rn ca C_X8_dropCapsulesFrom 23 [a0, a1, some (.int x)] (.int x :: S) M := (rn_at k_X8_dropCapsulesFrom_22).trans rfl
theorem k_X8_dropCapsulesFrom_23 : lk 23 C_X8_dropCapsulesFrom = some (.iaload, (0, 0, 0, 0)) := by decide +kernel
theorem s_X8_dropCapsulesFrom_23 {ca : Nat → List Value → tM → tO} {M : tM} {L : tL} {a : Nat} {i : Int32} {S : List Value} : rn ca C_X8_dropCapsulesFrom 23 L (.int i :: .ref a :: S) M = if (akind a = 0 ∨ akind a = 6 ∨ akind a = 7) ∧ inb i (alen M a) then rn ca C_X8_dropCapsulesFrom 24 L (.int (M.1 a i.toInt.toNat) :: S) M else none := (rn_at k_X8_dropCapsulesFrom_23).trans rnx_ite
theorem k_X8_dropCapsulesFrom_24 : lk 24 C_X8_dropCapsulesFrom = some (.bipush 100, (0, 0, 0, 0)) := by decide +kernel
theorem s_X8_dropCapsulesFrom_24 {ca : Nat → List Value → tM → tO} {M : tM} {L : tL} {S : List Value} : rn ca C_X8_dropCapsulesFrom 24 L S M = rn ca C_X8_dropCapsulesFrom 26 L (.int (iI 100) :: S) M := (rn_at k_X8_dropCapsulesFrom_24).trans rfl
theorem k_X8_dropCapsulesFrom_26 : lk 26 C_X8_dropCapsulesFrom = some (.if_icmp .ge 10, (36, 0, 0, 0)) := by decide +kernel
theorem s_X8_dropCapsulesFrom_26 {ca : Nat → List Value → tM → tO} {M : tM} {L : tL} {x y : Int32} {S : List Value} : rn ca C_X8_dropCapsulesFrom 26 L (.int y :: .int x :: S) M = if y ≤ x then rn ca C_X8_dropCapsulesFrom 36 L S M else rn ca C_X8_dropCapsulesFrom 29 L S M := (rn_at k_X8_dropCapsulesFrom_26).trans rnx_ite
theorem k_X8_dropCapsulesFrom_29 : lk 29 C_X8_dropCapsulesFrom = some (.aload_n 0, (0, 0, 0, 0)) := by decide +kernel
theorem s_X8_dropCapsulesFrom_29 {ca : Nat → List Value → tM → tO} {M : tM} {a1 a2 : Option Value} {x : Nat} {S : List Value} : rn ca C_X8_dropCapsulesFrom 29 [some (.ref x), a1, a2] S M = rn ca C_X8_dropCapsulesFrom 30 [some (.ref x), a1, a2] (.ref x :: S) M := (rn_at k_X8_dropCapsulesFrom_29).trans rfl
theorem k_X8_dropCapsulesFrom_30 : lk 30 C_X8_dropCapsulesFrom = some (.getfield 9, (8, 0, 0, 81)) := by decide +kernel
theorem s_X8_dropCapsulesFrom_30 {ca : Nat → List Value → tM → tO} {M : tM} {L : tL} {b : Nat} {S : List Value} : rn ca C_X8_dropCapsulesFrom 30 L (.ref b :: S) M = if clsO b = some 8 then rn ca C_X8_dropCapsulesFrom 33 L (fv M b 0 :: S) M else none := (rn_at k_X8_dropCapsulesFrom_30).trans rnx_ite
theorem k_X8_dropCapsulesFrom_33 : lk 33 C_X8_dropCapsulesFrom = some (.iload_n 2, (0, 0, 0, 0)) := by decide +kernel
theorem s_X8_dropCapsulesFrom_33 {ca : Nat → List Value → tM → tO} {M : tM} {a0 a1 : Option Value} {x : Int32} {S : List Value} : rn ca C_X8_dropCapsulesFrom 33 [a0, a1, some (.int x)] S M = rn ca C_X8_dropCapsulesFrom 34 [a0, a1, some (.int x)] (.int x :: S) M := (rn_at k_X8_dropCapsulesFrom_33).trans rfl
theorem k_X8_dropCapsulesFrom_34 : lk 34 C_X8_dropCapsulesFrom = some (.iconst (-1), (0, 0, 0, 0)) := by decide +kernel
theorem s_X8_dropCapsulesFrom_34 {ca : Nat → List Value → tM → tO} {M : tM} {L : tL} {S : List Value} : rn ca C_X8_dropCapsulesFrom 34 L S M = rn ca C_X8_dropCapsulesFrom 35 L (.int (iI (-1)) :: S) M := (rn_at k_X8_dropCapsulesFrom_34).trans rfl
theorem k_X8_dropCapsulesFrom_35 : lk 35 C_X8_dropCapsulesFrom = some (.iastore, (0, 0, 0, 0)) := by decide +kernel
theorem s_X8_dropCapsulesFrom_35 {ca : Nat → List Value → tM → tO} {M : tM} {L : tL} {a : Nat} {i x : Int32} {S : List Value} : rn ca C_X8_dropCapsulesFrom 35 L (.int x :: .int i :: .ref a :: S) M = if akind a = 0 ∧ inb i (alen M a) then rn ca C_X8_dropCapsulesFrom 36 L S (sI M a i.toInt.toNat x) else none := (rn_at k_X8_dropCapsulesFrom_35).trans rnx_ite
theorem k_X8_dropCapsulesFrom_36 : lk 36 C_X8_dropCapsulesFrom = some (.iinc 2 1, (0, 0, 0, 0)) := by decide +kernel
theorem s_X8_dropCapsulesFrom_36 {ca : Nat → List Value → tM → tO} {M : tM} {a0 a1 : Option Value} {x : Int32} {S : List Value} : rn ca C_X8_dropCapsulesFrom 36 [a0, a1, some (.int x)] S M = rn ca C_X8_dropCapsulesFrom 39 [a0, a1, some (.int (x + iI 1))] S M := (rn_at k_X8_dropCapsulesFrom_36).trans rfl
theorem k_X8_dropCapsulesFrom_39 : lk 39 C_X8_dropCapsulesFrom = some (.goto (-37), (2, 0, 0, 0)) := by decide +kernel
theorem s_X8_dropCapsulesFrom_39 {ca : Nat → List Value → tM → tO} {M : tM} {L : tL} {S : List Value} : rn ca C_X8_dropCapsulesFrom 39 L S M = rn ca C_X8_dropCapsulesFrom 2 L S M := (rn_at k_X8_dropCapsulesFrom_39).trans rfl
theorem k_X8_dropCapsulesFrom_42 : lk 42 C_X8_dropCapsulesFrom = some (.return_, (0, 0, 0, 0)) := by decide +kernel
theorem s_X8_dropCapsulesFrom_42 {ca : Nat → List Value → tM → tO} {M : tM} {L : tL} : rn ca C_X8_dropCapsulesFrom 42 L [] M = some (none, M) := (rn_at k_X8_dropCapsulesFrom_42).trans rfl
theorem k_X9_prepareFor_0 : lk 0 C_X9_prepareFor = some (.iconst 0, (0, 0, 0, 0)) := by decide +kernel
theorem s_X9_prepareFor_0 {ca : Nat → List Value → tM → tO} {M : tM} {L : tL} {S : List Value} : rn ca C_X9_prepareFor 0 L S M = rn ca C_X9_prepareFor 1 L (.int (iI 0) :: S) M := (rn_at k_X9_prepareFor_0).trans rfl
theorem k_X9_prepareFor_1 : lk 1 C_X9_prepareFor = some (.istore 4, (0, 0, 0, 0)) := by decide +kernel
theorem s_X9_prepareFor_1 {ca : Nat → List Value → tM → tO} {M : tM} {a0 a1 a2 a3 a4 : Option Value} {x : Int32} {S : List Value} : rn ca C_X9_prepareFor 1 [a0, a1, a2, a3, a4] (.int x :: S) M = rn ca C_X9_prepareFor 3 [a0, a1, a2, a3, some (.int x)] S M := (rn_at k_X9_prepareFor_1).trans rfl
theorem k_X9_prepareFor_3 : lk 3 C_X9_prepareFor = some (.iload 4, (0, 0, 0, 0)) := by decide +kernel
theorem s_X9_prepareFor_3 {ca : Nat → List Value → tM → tO} {M : tM} {a0 a1 a2 a3 : Option Value} {x : Int32} {S : List Value} : rn ca C_X9_prepareFor 3 [a0, a1, a2, a3, some (.int x)] S M = rn ca C_X9_prepareFor 5 [a0, a1, a2, a3, some (.int x)] (.int x :: S) M := (rn_at k_X9_prepareFor_3).trans rfl
theorem k_X9_prepareFor_5 : lk 5 C_X9_prepareFor = some (.aload_n 1, (0, 0, 0, 0)) := by decide +kernel
theorem s_X9_prepareFor_5 {ca : Nat → List Value → tM → tO} {M : tM} {a0 a2 a3 a4 : Option Value} {x : Nat} {S : List Value} : rn ca C_X9_prepareFor 5 [a0, some (.ref x), a2, a3, a4] S M = rn ca C_X9_prepareFor 6 [a0, some (.ref x), a2, a3, a4] (.ref x :: S) M := (rn_at k_X9_prepareFor_5).trans rfl
theorem k_X9_prepareFor_6 : lk 6 C_X9_prepareFor = some (.getfield 33, (4, 2, 0, 100006)) := by decide +kernel
theorem s_X9_prepareFor_6 {ca : Nat → List Value → tM → tO} {M : tM} {L : tL} {b : Nat} {S : List Value} : rn ca C_X9_prepareFor 6 L (.ref b :: S) M = if clsO b = some 4 then rn ca C_X9_prepareFor 9 L (fv M b 2 :: S) M else none := (rn_at k_X9_prepareFor_6).trans rnx_ite
theorem k_X9_prepareFor_9 : lk 9 C_X9_prepareFor = some (.if_icmp .ge 61, (70, 0, 0, 0)) := by decide +kernel
theorem s_X9_prepareFor_9 {ca : Nat → List Value → tM → tO} {M : tM} {L : tL} {x y : Int32} {S : List Value} : rn ca C_X9_prepareFor 9 L (.int y :: .int x :: S) M = if y ≤ x then rn ca C_X9_prepareFor 70 L S M else rn ca C_X9_prepareFor 12 L S M := (rn_at k_X9_prepareFor_9).trans rnx_ite
theorem k_X9_prepareFor_12 : lk 12 C_X9_prepareFor = some (.iload 4, (0, 0, 0, 0)) := by decide +kernel
theorem s_X9_prepareFor_12 {ca : Nat → List Value → tM → tO} {M : tM} {a0 a1 a2 a3 : Option Value} {x : Int32} {S : List Value} : rn ca C_X9_prepareFor 12 [a0, a1, a2, a3, some (.int x)] S M = rn ca C_X9_prepareFor 14 [a0, a1, a2, a3, some (.int x)] (.int x :: S) M := (rn_at k_X9_prepareFor_12).trans rfl
theorem k_X9_prepareFor_14 : lk 14 C_X9_prepareFor = some (.bipush 16, (0, 0, 0, 0)) := by decide +kernel
theorem s_X9_prepareFor_14 {ca : Nat → List Value → tM → tO} {M : tM} {L : tL} {S : List Value} : rn ca C_X9_prepareFor 14 L S M = rn ca C_X9_prepareFor 16 L (.int (iI 16) :: S) M := (rn_at k_X9_prepareFor_14).trans rfl
theorem k_X9_prepareFor_16 : lk 16 C_X9_prepareFor = some (.if_icmp .ge 54, (70, 0, 0, 0)) := by decide +kernel
theorem s_X9_prepareFor_16 {ca : Nat → List Value → tM → tO} {M : tM} {L : tL} {x y : Int32} {S : List Value} : rn ca C_X9_prepareFor 16 L (.int y :: .int x :: S) M = if y ≤ x then rn ca C_X9_prepareFor 70 L S M else rn ca C_X9_prepareFor 19 L S M := (rn_at k_X9_prepareFor_16).trans rnx_ite
theorem k_X9_prepareFor_19 : lk 19 C_X9_prepareFor = some (.aload_n 0, (0, 0, 0, 0)) := by decide +kernel
theorem s_X9_prepareFor_19 {ca : Nat → List Value → tM → tO} {M : tM} {a1 a2 a3 a4 : Option Value} {x : Nat} {S : List Value} : rn ca C_X9_prepareFor 19 [some (.ref x), a1, a2, a3, a4] S M = rn ca C_X9_prepareFor 20 [some (.ref x), a1, a2, a3, a4] (.ref x :: S) M := (rn_at k_X9_prepareFor_19).trans rfl
theorem k_X9_prepareFor_20 : lk 20 C_X9_prepareFor = some (.getfield 9, (9, 0, 0, 89)) := by decide +kernel
theorem s_X9_prepareFor_20 {ca : Nat → List Value → tM → tO} {M : tM} {L : tL} {b : Nat} {S : List Value} : rn ca C_X9_prepareFor 20 L (.ref b :: S) M = if clsO b = some 9 then rn ca C_X9_prepareFor 23 L (fv M b 0 :: S) M else none := (rn_at k_X9_prepareFor_20).trans rnx_ite
theorem k_X9_prepareFor_23 : lk 23 C_X9_prepareFor = some (.iload 4, (0, 0, 0, 0)) := by decide +kernel
theorem s_X9_prepareFor_23 {ca : Nat → List Value → tM → tO} {M : tM} {a0 a1 a2 a3 : Option Value} {x : Int32} {S : List Value} : rn ca C_X9_prepareFor 23 [a0, a1, a2, a3, some (.int x)] S M = rn ca C_X9_prepareFor 25 [a0, a1, a2, a3, some (.int x)] (.int x :: S) M := (rn_at k_X9_prepareFor_23).trans rfl
theorem k_X9_prepareFor_25 : lk 25 C_X9_prepareFor = some (.aload_n 1, (0, 0, 0, 0)) := by decide +kernel
theorem s_X9_prepareFor_25 {ca : Nat → List Value → tM → tO} {M : tM} {a0 a2 a3 a4 : Option Value} {x : Nat} {S : List Value} : rn ca C_X9_prepareFor 25 [a0, some (.ref x), a2, a3, a4] S M = rn ca C_X9_prepareFor 26 [a0, some (.ref x), a2, a3, a4] (.ref x :: S) M := (rn_at k_X9_prepareFor_25).trans rfl
theorem k_X9_prepareFor_26 : lk 26 C_X9_prepareFor = some (.iload_n 2, (0, 0, 0, 0)) := by decide +kernel
theorem s_X9_prepareFor_26 {ca : Nat → List Value → tM → tO} {M : tM} {a0 a1 a3 a4 : Option Value} {x : Int32} {S : List Value} : rn ca C_X9_prepareFor 26 [a0, a1, some (.int x), a3, a4] S M = rn ca C_X9_prepareFor 27 [a0, a1, some (.int x), a3, a4] (.int x :: S) M := (rn_at k_X9_prepareFor_26).trans rfl
theorem k_X9_prepareFor_27 : lk 27 C_X9_prepareFor = some (.iload 4, (0, 0, 0, 0)) := by decide +kernel
theorem s_X9_prepareFor_27 {ca : Nat → List Value → tM → tO} {M : tM} {a0 a1 a2 a3 : Option Value} {x : Int32} {S : List Value} : rn ca C_X9_prepareFor 27 [a0, a1, a2, a3, some (.int x)] S M = rn ca C_X9_prepareFor 29 [a0, a1, a2, a3, some (.int x)] (.int x :: S) M := (rn_at k_X9_prepareFor_27).trans rfl
theorem k_X9_prepareFor_29 : lk 29 C_X9_prepareFor = some (.iload_n 3, (0, 0, 0, 0)) := by decide +kernel
theorem s_X9_prepareFor_29 {ca : Nat → List Value → tM → tO} {M : tM} {a0 a1 a2 a4 : Option Value} {x : Int32} {S : List Value} : rn ca C_X9_prepareFor 29 [a0, a1, a2, some (.int x), a4] S M = rn ca C_X9_prepareFor 30 [a0, a1, a2, some (.int x), a4] (.int x :: S) M := (rn_at k_X9_prepareFor_29).trans rfl
theorem k_X9_prepareFor_30 : lk 30 C_X9_prepareFor = some (.invokevirtual 39, (30, 3, 4, 704)) := by decide +kernel
theorem s_X9_prepareFor_30 {ca : Nat → List Value → tM → tO} {M : tM} {L : tL} {v1 v2 v3 : Value} {r0 : Int32} {r1 : Nat} {b : Nat} : rn ca C_X9_prepareFor 30 L [v3, v2, v1, .ref b, .int r0, .ref r1] M = if clsO b = some 4 then rnk ca C_X9_prepareFor 33 L [.int r0, .ref r1] (ca m_X4_minutesThrough [.ref b, v1, v2, v3] M) else none := (rn_at k_X9_prepareFor_30).trans rnx_ite
theorem k_X9_prepareFor_33 : lk 33 C_X9_prepareFor = some (.iastore, (0, 0, 0, 0)) := by decide +kernel
theorem s_X9_prepareFor_33 {ca : Nat → List Value → tM → tO} {M : tM} {L : tL} {a : Nat} {i x : Int32} {S : List Value} : rn ca C_X9_prepareFor 33 L (.int x :: .int i :: .ref a :: S) M = if akind a = 0 ∧ inb i (alen M a) then rn ca C_X9_prepareFor 34 L S (sI M a i.toInt.toNat x) else none := (rn_at k_X9_prepareFor_33).trans rnx_ite
theorem k_X9_prepareFor_34 : lk 34 C_X9_prepareFor = some (.aload_n 0, (0, 0, 0, 0)) := by decide +kernel
theorem s_X9_prepareFor_34 {ca : Nat → List Value → tM → tO} {M : tM} {a1 a2 a3 a4 : Option Value} {x : Nat} {S : List Value} : rn ca C_X9_prepareFor 34 [some (.ref x), a1, a2, a3, a4] S M = rn ca C_X9_prepareFor 35 [some (.ref x), a1, a2, a3, a4] (.ref x :: S) M := (rn_at k_X9_prepareFor_34).trans rfl
theorem k_X9_prepareFor_35 : lk 35 C_X9_prepareFor = some (.getfield 15, (9, 1, 0, 91)) := by decide +kernel
theorem s_X9_prepareFor_35 {ca : Nat → List Value → tM → tO} {M : tM} {L : tL} {b : Nat} {S : List Value} : rn ca C_X9_prepareFor 35 L (.ref b :: S) M = if clsO b = some 9 then rn ca C_X9_prepareFor 38 L (fv M b 1 :: S) M else none := (rn_at k_X9_prepareFor_35).trans rnx_ite
theorem k_X9_prepareFor_38 : lk 38 C_X9_prepareFor = some (.iload 4, (0, 0, 0, 0)) := by decide +kernel
theorem s_X9_prepareFor_38 {ca : Nat → List Value → tM → tO} {M : tM} {a0 a1 a2 a3 : Option Value} {x : Int32} {S : List Value} : rn ca C_X9_prepareFor 38 [a0, a1, a2, a3, some (.int x)] S M = rn ca C_X9_prepareFor 40 [a0, a1, a2, a3, some (.int x)] (.int x :: S) M := (rn_at k_X9_prepareFor_38).trans rfl
theorem k_X9_prepareFor_40 : lk 40 C_X9_prepareFor = some (.aload_n 1, (0, 0, 0, 0)) := by decide +kernel
theorem s_X9_prepareFor_40 {ca : Nat → List Value → tM → tO} {M : tM} {a0 a2 a3 a4 : Option Value} {x : Nat} {S : List Value} : rn ca C_X9_prepareFor 40 [a0, some (.ref x), a2, a3, a4] S M = rn ca C_X9_prepareFor 41 [a0, some (.ref x), a2, a3, a4] (.ref x :: S) M := (rn_at k_X9_prepareFor_40).trans rfl
theorem k_X9_prepareFor_41 : lk 41 C_X9_prepareFor = some (.iload_n 2, (0, 0, 0, 0)) := by decide +kernel
theorem s_X9_prepareFor_41 {ca : Nat → List Value → tM → tO} {M : tM} {a0 a1 a3 a4 : Option Value} {x : Int32} {S : List Value} : rn ca C_X9_prepareFor 41 [a0, a1, some (.int x), a3, a4] S M = rn ca C_X9_prepareFor 42 [a0, a1, some (.int x), a3, a4] (.int x :: S) M := (rn_at k_X9_prepareFor_41).trans rfl
theorem k_X9_prepareFor_42 : lk 42 C_X9_prepareFor = some (.iload 4, (0, 0, 0, 0)) := by decide +kernel
theorem s_X9_prepareFor_42 {ca : Nat → List Value → tM → tO} {M : tM} {a0 a1 a2 a3 : Option Value} {x : Int32} {S : List Value} : rn ca C_X9_prepareFor 42 [a0, a1, a2, a3, some (.int x)] S M = rn ca C_X9_prepareFor 44 [a0, a1, a2, a3, some (.int x)] (.int x :: S) M := (rn_at k_X9_prepareFor_42).trans rfl
theorem k_X9_prepareFor_44 : lk 44 C_X9_prepareFor = some (.iconst 1, (0, 0, 0, 0)) := by decide +kernel
theorem s_X9_prepareFor_44 {ca : Nat → List Value → tM → tO} {M : tM} {L : tL} {S : List Value} : rn ca C_X9_prepareFor 44 L S M = rn ca C_X9_prepareFor 45 L (.int (iI 1) :: S) M := (rn_at k_X9_prepareFor_44).trans rfl
theorem k_X9_prepareFor_45 : lk 45 C_X9_prepareFor = some (.invokevirtual 43, (32, 3, 4, 705)) := by decide +kernel
theorem s_X9_prepareFor_45 {ca : Nat → List Value → tM → tO} {M : tM} {L : tL} {v1 v2 v3 : Value} {r0 : Int32} {r1 : Nat} {b : Nat} : rn ca C_X9_prepareFor 45 L [v3, v2, v1, .ref b, .int r0, .ref r1] M = if clsO b = some 4 then rnk ca C_X9_prepareFor 48 L [.int r0, .ref r1] (ca m_X4_mayGo [.ref b, v1, v2, v3] M) else none := (rn_at k_X9_prepareFor_45).trans rnx_ite
theorem k_X9_prepareFor_48 : lk 48 C_X9_prepareFor = some (.bastore, (0, 0, 0, 0)) := by decide +kernel
theorem s_X9_prepareFor_48 {ca : Nat → List Value → tM → tO} {M : tM} {L : tL} {a : Nat} {i x : Int32} {S : List Value} : rn ca C_X9_prepareFor 48 L (.int x :: .int i :: .ref a :: S) M = if akind a = 1 ∧ inb i (alen M a) then (if x = iI 0 ∨ x = iI 1 then rn ca C_X9_prepareFor 49 L S (sI M a i.toInt.toNat x) else none) else none := by rw [rn_at k_X9_prepareFor_48]; simp only [ta, rnx_ite]; rfl
theorem k_X9_prepareFor_49 : lk 49 C_X9_prepareFor = some (.aload_n 0, (0, 0, 0, 0)) := by decide +kernel
theorem s_X9_prepareFor_49 {ca : Nat → List Value → tM → tO} {M : tM} {a1 a2 a3 a4 : Option Value} {x : Nat} {S : List Value} : rn ca C_X9_prepareFor 49 [some (.ref x), a1, a2, a3, a4] S M = rn ca C_X9_prepareFor 50 [some (.ref x), a1, a2, a3, a4] (.ref x :: S) M := (rn_at k_X9_prepareFor_49).trans rfl
theorem k_X9_prepareFor_50 : lk 50 C_X9_prepareFor = some (.getfield 19, (9, 2, 0, 92)) := by decide +kernel
theorem s_X9_prepareFor_50 {ca : Nat → List Value → tM → tO} {M : tM} {L : tL} {b : Nat} {S : List Value} : rn ca C_X9_prepareFor 50 L (.ref b :: S) M = if clsO b = some 9 then rn ca C_X9_prepareFor 53 L (fv M b 2 :: S) M else none := (rn_at k_X9_prepareFor_50).trans rnx_ite
theorem k_X9_prepareFor_53 : lk 53 C_X9_prepareFor = some (.iload 4, (0, 0, 0, 0)) := by decide +kernel
theorem s_X9_prepareFor_53 {ca : Nat → List Value → tM → tO} {M : tM} {a0 a1 a2 a3 : Option Value} {x : Int32} {S : List Value} : rn ca C_X9_prepareFor 53 [a0, a1, a2, a3, some (.int x)] S M = rn ca C_X9_prepareFor 55 [a0, a1, a2, a3, some (.int x)] (.int x :: S) M := (rn_at k_X9_prepareFor_53).trans rfl
theorem k_X9_prepareFor_55 : lk 55 C_X9_prepareFor = some (.aload_n 1, (0, 0, 0, 0)) := by decide +kernel
theorem s_X9_prepareFor_55 {ca : Nat → List Value → tM → tO} {M : tM} {a0 a2 a3 a4 : Option Value} {x : Nat} {S : List Value} : rn ca C_X9_prepareFor 55 [a0, some (.ref x), a2, a3, a4] S M = rn ca C_X9_prepareFor 56 [a0, some (.ref x), a2, a3, a4] (.ref x :: S) M := (rn_at k_X9_prepareFor_55).trans rfl
theorem k_X9_prepareFor_56 : lk 56 C_X9_prepareFor = some (.iload_n 2, (0, 0, 0, 0)) := by decide +kernel
theorem s_X9_prepareFor_56 {ca : Nat → List Value → tM → tO} {M : tM} {a0 a1 a3 a4 : Option Value} {x : Int32} {S : List Value} : rn ca C_X9_prepareFor 56 [a0, a1, some (.int x), a3, a4] S M = rn ca C_X9_prepareFor 57 [a0, a1, some (.int x), a3, a4] (.int x :: S) M := (rn_at k_X9_prepareFor_56).trans rfl
theorem k_X9_prepareFor_57 : lk 57 C_X9_prepareFor = some (.iload 4, (0, 0, 0, 0)) := by decide +kernel
theorem s_X9_prepareFor_57 {ca : Nat → List Value → tM → tO} {M : tM} {a0 a1 a2 a3 : Option Value} {x : Int32} {S : List Value} : rn ca C_X9_prepareFor 57 [a0, a1, a2, a3, some (.int x)] S M = rn ca C_X9_prepareFor 59 [a0, a1, a2, a3, some (.int x)] (.int x :: S) M := (rn_at k_X9_prepareFor_57).trans rfl
theorem k_X9_prepareFor_59 : lk 59 C_X9_prepareFor = some (.iconst 0, (0, 0, 0, 0)) := by decide +kernel
theorem s_X9_prepareFor_59 {ca : Nat → List Value → tM → tO} {M : tM} {L : tL} {S : List Value} : rn ca C_X9_prepareFor 59 L S M = rn ca C_X9_prepareFor 60 L (.int (iI 0) :: S) M := (rn_at k_X9_prepareFor_59).trans rfl
theorem k_X9_prepareFor_60 : lk 60 C_X9_prepareFor = some (.invokevirtual 43, (32, 3, 4, 705)) := by decide +kernel
theorem s_X9_prepareFor_60 {ca : Nat → List Value → tM → tO} {M : tM} {L : tL} {v1 v2 v3 : Value} {r0 : Int32} {r1 : Nat} {b : Nat} : rn ca C_X9_prepareFor 60 L [v3, v2, v1, .ref b, .int r0, .ref r1] M = if clsO b = some 4 then rnk ca C_X9_prepareFor 63 L [.int r0, .ref r1] (ca m_X4_mayGo [.ref b, v1, v2, v3] M) else none := (rn_at k_X9_prepareFor_60).trans rnx_ite
theorem k_X9_prepareFor_63 : lk 63 C_X9_prepareFor = some (.bastore, (0, 0, 0, 0)) := by decide +kernel
theorem s_X9_prepareFor_63 {ca : Nat → List Value → tM → tO} {M : tM} {L : tL} {a : Nat} {i x : Int32} {S : List Value} : rn ca C_X9_prepareFor 63 L (.int x :: .int i :: .ref a :: S) M = if akind a = 1 ∧ inb i (alen M a) then (if x = iI 0 ∨ x = iI 1 then rn ca C_X9_prepareFor 64 L S (sI M a i.toInt.toNat x) else none) else none := by rw [rn_at k_X9_prepareFor_63]; simp only [ta, rnx_ite]; rfl
theorem k_X9_prepareFor_64 : lk 64 C_X9_prepareFor = some (.iinc 4 1, (0, 0, 0, 0)) := by decide +kernel
theorem s_X9_prepareFor_64 {ca : Nat → List Value → tM → tO} {M : tM} {a0 a1 a2 a3 : Option Value} {x : Int32} {S : List Value} : rn ca C_X9_prepareFor 64 [a0, a1, a2, a3, some (.int x)] S M = rn ca C_X9_prepareFor 67 [a0, a1, a2, a3, some (.int (x + iI 1))] S M := (rn_at k_X9_prepareFor_64).trans rfl
theorem k_X9_prepareFor_67 : lk 67 C_X9_prepareFor = some (.goto (-64), (3, 0, 0, 0)) := by decide +kernel
theorem s_X9_prepareFor_67 {ca : Nat → List Value → tM → tO} {M : tM} {L : tL} {S : List Value} : rn ca C_X9_prepareFor 67 L S M = rn ca C_X9_prepareFor 3 L S M := (rn_at k_X9_prepareFor_67).trans rfl
theorem k_X9_prepareFor_70 : lk 70 C_X9_prepareFor = some (.return_, (0, 0, 0, 0)) := by decide +kernel
theorem s_X9_prepareFor_70 {ca : Nat → List Value → tM → tO} {M : tM} {L : tL} : rn ca C_X9_prepareFor 70 L [] M = some (none, M) := (rn_at k_X9_prepareFor_70).trans rfl
theorem k_X9_prepareForKnocks_0 : lk 0 C_X9_prepareForKnocks = some (.iconst 0, (0, 0, 0, 0)) := by decide +kernel
theorem s_X9_prepareForKnocks_0 {ca : Nat → List Value → tM → tO} {M : tM} {L : tL} {S : List Value} : rn ca C_X9_prepareForKnocks 0 L S M = rn ca C_X9_prepareForKnocks 1 L (.int (iI 0) :: S) M := (rn_at k_X9_prepareForKnocks_0).trans rfl
theorem k_X9_prepareForKnocks_1 : lk 1 C_X9_prepareForKnocks = some (.istore_n 2, (0, 0, 0, 0)) := by decide +kernel
theorem s_X9_prepareForKnocks_1 {ca : Nat → List Value → tM → tO} {M : tM} {a0 a1 a2 : Option Value} {x : Int32} {S : List Value} : rn ca C_X9_prepareForKnocks 1 [a0, a1, a2] (.int x :: S) M = rn ca C_X9_prepareForKnocks 2 [a0, a1, some (.int x)] S M := (rn_at k_X9_prepareForKnocks_1).trans rfl
theorem k_X9_prepareForKnocks_2 : lk 2 C_X9_prepareForKnocks = some (.iload_n 2, (0, 0, 0, 0)) := by decide +kernel
theorem s_X9_prepareForKnocks_2 {ca : Nat → List Value → tM → tO} {M : tM} {a0 a1 : Option Value} {x : Int32} {S : List Value} : rn ca C_X9_prepareForKnocks 2 [a0, a1, some (.int x)] S M = rn ca C_X9_prepareForKnocks 3 [a0, a1, some (.int x)] (.int x :: S) M := (rn_at k_X9_prepareForKnocks_2).trans rfl
theorem k_X9_prepareForKnocks_3 : lk 3 C_X9_prepareForKnocks = some (.aload_n 1, (0, 0, 0, 0)) := by decide +kernel
theorem s_X9_prepareForKnocks_3 {ca : Nat → List Value → tM → tO} {M : tM} {a0 a2 : Option Value} {x : Nat} {S : List Value} : rn ca C_X9_prepareForKnocks 3 [a0, some (.ref x), a2] S M = rn ca C_X9_prepareForKnocks 4 [a0, some (.ref x), a2] (.ref x :: S) M := (rn_at k_X9_prepareForKnocks_3).trans rfl
theorem k_X9_prepareForKnocks_4 : lk 4 C_X9_prepareForKnocks = some (.getfield 33, (4, 2, 0, 100006)) := by decide +kernel
theorem s_X9_prepareForKnocks_4 {ca : Nat → List Value → tM → tO} {M : tM} {L : tL} {b : Nat} {S : List Value} : rn ca C_X9_prepareForKnocks 4 L (.ref b :: S) M = if clsO b = some 4 then rn ca C_X9_prepareForKnocks 7 L (fv M b 2 :: S) M else none := (rn_at k_X9_prepareForKnocks_4).trans rnx_ite
theorem k_X9_prepareForKnocks_7 : lk 7 C_X9_prepareForKnocks = some (.if_icmp .ge 65, (72, 0, 0, 0)) := by decide +kernel
theorem s_X9_prepareForKnocks_7 {ca : Nat → List Value → tM → tO} {M : tM} {L : tL} {x y : Int32} {S : List Value} : rn ca C_X9_prepareForKnocks 7 L (.int y :: .int x :: S) M = if y ≤ x then rn ca C_X9_prepareForKnocks 72 L S M else rn ca C_X9_prepareForKnocks 10 L S M := (rn_at k_X9_prepareForKnocks_7).trans rnx_ite
theorem k_X9_prepareForKnocks_10 : lk 10 C_X9_prepareForKnocks = some (.iload_n 2, (0, 0, 0, 0)) := by decide +kernel
theorem s_X9_prepareForKnocks_10 {ca : Nat → List Value → tM → tO} {M : tM} {a0 a1 : Option Value} {x : Int32} {S : List Value} : rn ca C_X9_prepareForKnocks 10 [a0, a1, some (.int x)] S M = rn ca C_X9_prepareForKnocks 11 [a0, a1, some (.int x)] (.int x :: S) M := (rn_at k_X9_prepareForKnocks_10).trans rfl
theorem k_X9_prepareForKnocks_11 : lk 11 C_X9_prepareForKnocks = some (.bipush 16, (0, 0, 0, 0)) := by decide +kernel
theorem s_X9_prepareForKnocks_11 {ca : Nat → List Value → tM → tO} {M : tM} {L : tL} {S : List Value} : rn ca C_X9_prepareForKnocks 11 L S M = rn ca C_X9_prepareForKnocks 13 L (.int (iI 16) :: S) M := (rn_at k_X9_prepareForKnocks_11).trans rfl
theorem k_X9_prepareForKnocks_13 : lk 13 C_X9_prepareForKnocks = some (.if_icmp .ge 59, (72, 0, 0, 0)) := by decide +kernel
theorem s_X9_prepareForKnocks_13 {ca : Nat → List Value → tM → tO} {M : tM} {L : tL} {x y : Int32} {S : List Value} : rn ca C_X9_prepareForKnocks 13 L (.int y :: .int x :: S) M = if y ≤ x then rn ca C_X9_prepareForKnocks 72 L S M else rn ca C_X9_prepareForKnocks 16 L S M := (rn_at k_X9_prepareForKnocks_13).trans rnx_ite
theorem k_X9_prepareForKnocks_16 : lk 16 C_X9_prepareForKnocks = some (.aload_n 0, (0, 0, 0, 0)) := by decide +kernel
theorem s_X9_prepareForKnocks_16 {ca : Nat → List Value → tM → tO} {M : tM} {a1 a2 : Option Value} {x : Nat} {S : List Value} : rn ca C_X9_prepareForKnocks 16 [some (.ref x), a1, a2] S M = rn ca C_X9_prepareForKnocks 17 [some (.ref x), a1, a2] (.ref x :: S) M := (rn_at k_X9_prepareForKnocks_16).trans rfl
theorem k_X9_prepareForKnocks_17 : lk 17 C_X9_prepareForKnocks = some (.getfield 9, (9, 0, 0, 89)) := by decide +kernel
theorem s_X9_prepareForKnocks_17 {ca : Nat → List Value → tM → tO} {M : tM} {L : tL} {b : Nat} {S : List Value} : rn ca C_X9_prepareForKnocks 17 L (.ref b :: S) M = if clsO b = some 9 then rn ca C_X9_prepareForKnocks 20 L (fv M b 0 :: S) M else none := (rn_at k_X9_prepareForKnocks_17).trans rnx_ite
theorem k_X9_prepareForKnocks_20 : lk 20 C_X9_prepareForKnocks = some (.iload_n 2, (0, 0, 0, 0)) := by decide +kernel
theorem s_X9_prepareForKnocks_20 {ca : Nat → List Value → tM → tO} {M : tM} {a0 a1 : Option Value} {x : Int32} {S : List Value} : rn ca C_X9_prepareForKnocks 20 [a0, a1, some (.int x)] S M = rn ca C_X9_prepareForKnocks 21 [a0, a1, some (.int x)] (.int x :: S) M := (rn_at k_X9_prepareForKnocks_20).trans rfl
theorem k_X9_prepareForKnocks_21 : lk 21 C_X9_prepareForKnocks = some (.aload_n 1, (0, 0, 0, 0)) := by decide +kernel
theorem s_X9_prepareForKnocks_21 {ca : Nat → List Value → tM → tO} {M : tM} {a0 a2 : Option Value} {x : Nat} {S : List Value} : rn ca C_X9_prepareForKnocks 21 [a0, some (.ref x), a2] S M = rn ca C_X9_prepareForKnocks 22 [a0, some (.ref x), a2] (.ref x :: S) M := (rn_at k_X9_prepareForKnocks_21).trans rfl
theorem k_X9_prepareForKnocks_22 : lk 22 C_X9_prepareForKnocks = some (.getfield 47, (4, 5, 0, 100022)) := by decide +kernel
theorem s_X9_prepareForKnocks_22 {ca : Nat → List Value → tM → tO} {M : tM} {L : tL} {b : Nat} {S : List Value} : rn ca C_X9_prepareForKnocks 22 L (.ref b :: S) M = if clsO b = some 4 then rn ca C_X9_prepareForKnocks 25 L (fv M b 5 :: S) M else none := (rn_at k_X9_prepareForKnocks_22).trans rnx_ite
theorem k_X9_prepareForKnocks_25 : lk 25 C_X9_prepareForKnocks = some (.iload_n 2, (0, 0, 0, 0)) := by decide +kernel
theorem s_X9_prepareForKnocks_25 {ca : Nat → List Value → tM → tO} {M : tM} {a0 a1 : Option Value} {x : Int32} {S : List Value} : rn ca C_X9_prepareForKnocks 25 [a0, a1, some (.int x)] S M = rn ca C_X9_prepareForKnocks 26 [a0, a1, some (.int x)] (.int x :: S) M := (rn_at k_X9_prepareForKnocks_25).trans rfl
theorem k_X9_prepareForKnocks_26 : lk 26 C_X9_prepareForKnocks = some (.iaload, (0, 0, 0, 0)) := by decide +kernel
theorem s_X9_prepareForKnocks_26 {ca : Nat → List Value → tM → tO} {M : tM} {L : tL} {a : Nat} {i : Int32} {S : List Value} : rn ca C_X9_prepareForKnocks 26 L (.int i :: .ref a :: S) M = if (akind a = 0 ∨ akind a = 6 ∨ akind a = 7) ∧ inb i (alen M a) then rn ca C_X9_prepareForKnocks 27 L (.int (M.1 a i.toInt.toNat) :: S) M else none := (rn_at k_X9_prepareForKnocks_26).trans rnx_ite
theorem k_X9_prepareForKnocks_27 : lk 27 C_X9_prepareForKnocks = some (.iastore, (0, 0, 0, 0)) := by decide +kernel
theorem s_X9_prepareForKnocks_27 {ca : Nat → List Value → tM → tO} {M : tM} {L : tL} {a : Nat} {i x : Int32} {S : List Value} : rn ca C_X9_prepareForKnocks 27 L (.int x :: .int i :: .ref a :: S) M = if akind a = 0 ∧ inb i (alen M a) then rn ca C_X9_prepareForKnocks 28 L S (sI M a i.toInt.toNat x) else none := (rn_at k_X9_prepareForKnocks_27).trans rnx_ite
theorem k_X9_prepareForKnocks_28 : lk 28 C_X9_prepareForKnocks = some (.aload_n 0, (0, 0, 0, 0)) := by decide +kernel
theorem s_X9_prepareForKnocks_28 {ca : Nat → List Value → tM → tO} {M : tM} {a1 a2 : Option Value} {x : Nat} {S : List Value} : rn ca C_X9_prepareForKnocks 28 [some (.ref x), a1, a2] S M = rn ca C_X9_prepareForKnocks 29 [some (.ref x), a1, a2] (.ref x :: S) M := (rn_at k_X9_prepareForKnocks_28).trans rfl
theorem k_X9_prepareForKnocks_29 : lk 29 C_X9_prepareForKnocks = some (.getfield 15, (9, 1, 0, 91)) := by decide +kernel
theorem s_X9_prepareForKnocks_29 {ca : Nat → List Value → tM → tO} {M : tM} {L : tL} {b : Nat} {S : List Value} : rn ca C_X9_prepareForKnocks 29 L (.ref b :: S) M = if clsO b = some 9 then rn ca C_X9_prepareForKnocks 32 L (fv M b 1 :: S) M else none := (rn_at k_X9_prepareForKnocks_29).trans rnx_ite
theorem k_X9_prepareForKnocks_32 : lk 32 C_X9_prepareForKnocks = some (.iload_n 2, (0, 0, 0, 0)) := by decide +kernel
theorem s_X9_prepareForKnocks_32 {ca : Nat → List Value → tM → tO} {M : tM} {a0 a1 : Option Value} {x : Int32} {S : List Value} : rn ca C_X9_prepareForKnocks 32 [a0, a1, some (.int x)] S M = rn ca C_X9_prepareForKnocks 33 [a0, a1, some (.int x)] (.int x :: S) M := (rn_at k_X9_prepareForKnocks_32).trans rfl
theorem k_X9_prepareForKnocks_33 : lk 33 C_X9_prepareForKnocks = some (.aload_n 1, (0, 0, 0, 0)) := by decide +kernel
theorem s_X9_prepareForKnocks_33 {ca : Nat → List Value → tM → tO} {M : tM} {a0 a2 : Option Value} {x : Nat} {S : List Value} : rn ca C_X9_prepareForKnocks 33 [a0, some (.ref x), a2] S M = rn ca C_X9_prepareForKnocks 34 [a0, some (.ref x), a2] (.ref x :: S) M := (rn_at k_X9_prepareForKnocks_33).trans rfl
theorem k_X9_prepareForKnocks_34 : lk 34 C_X9_prepareForKnocks = some (.iload_n 2, (0, 0, 0, 0)) := by decide +kernel
theorem s_X9_prepareForKnocks_34 {ca : Nat → List Value → tM → tO} {M : tM} {a0 a1 : Option Value} {x : Int32} {S : List Value} : rn ca C_X9_prepareForKnocks 34 [a0, a1, some (.int x)] S M = rn ca C_X9_prepareForKnocks 35 [a0, a1, some (.int x)] (.int x :: S) M := (rn_at k_X9_prepareForKnocks_34).trans rfl
theorem k_X9_prepareForKnocks_35 : lk 35 C_X9_prepareForKnocks = some (.invokevirtual 50, (27, 1, 4, 959)) := by decide +kernel
theorem s_X9_prepareForKnocks_35 {ca : Nat → List Value → tM → tO} {M : tM} {L : tL} {v1 : Value} {r0 : Int32} {r1 : Nat} {b : Nat} : rn ca C_X9_prepareForKnocks 35 L [v1, .ref b, .int r0, .ref r1] M = if clsO b = some 4 then rnk ca C_X9_prepareForKnocks 38 L [.int r0, .ref r1] (ca m_X4_isShut [.ref b, v1] M) else none := (rn_at k_X9_prepareForKnocks_35).trans rnx_ite
theorem k_X9_prepareForKnocks_38 : lk 38 C_X9_prepareForKnocks = some (.ifCond .ne 7, (45, 0, 0, 0)) := by decide +kernel
theorem s_X9_prepareForKnocks_38 {ca : Nat → List Value → tM → tO} {M : tM} {L : tL} {x : Int32} {S : List Value} : rn ca C_X9_prepareForKnocks 38 L (.int x :: S) M = if ¬ x = iI 0 then rn ca C_X9_prepareForKnocks 45 L S M else rn ca C_X9_prepareForKnocks 41 L S M := (rn_at k_X9_prepareForKnocks_38).trans rnx_ite
theorem k_X9_prepareForKnocks_41 : lk 41 C_X9_prepareForKnocks = some (.iconst 1, (0, 0, 0, 0)) := by decide +kernel
theorem s_X9_prepareForKnocks_41 {ca : Nat → List Value → tM → tO} {M : tM} {L : tL} {S : List Value} : rn ca C_X9_prepareForKnocks 41 L S M = rn ca C_X9_prepareForKnocks 42 L (.int (iI 1) :: S) M := (rn_at k_X9_prepareForKnocks_41).trans rfl
theorem k_X9_prepareForKnocks_42 : lk 42 C_X9_prepareForKnocks = some (.goto 4, (46, 0, 0, 0)) := by decide +kernel
theorem s_X9_prepareForKnocks_42 {ca : Nat → List Value → tM → tO} {M : tM} {L : tL} {S : List Value} : rn ca C_X9_prepareForKnocks 42 L S M = rn ca C_X9_prepareForKnocks 46 L S M := (rn_at k_X9_prepareForKnocks_42).trans rfl
theorem k_X9_prepareForKnocks_45 : lk 45 C_X9_prepareForKnocks = some (.iconst 0, (0, 0, 0, 0)) := by decide +kernel
theorem s_X9_prepareForKnocks_45 {ca : Nat → List Value → tM → tO} {M : tM} {L : tL} {S : List Value} : rn ca C_X9_prepareForKnocks 45 L S M = rn ca C_X9_prepareForKnocks 46 L (.int (iI 0) :: S) M := (rn_at k_X9_prepareForKnocks_45).trans rfl
theorem k_X9_prepareForKnocks_46 : lk 46 C_X9_prepareForKnocks = some (.bastore, (0, 0, 0, 0)) := by decide +kernel
theorem s_X9_prepareForKnocks_46 {ca : Nat → List Value → tM → tO} {M : tM} {L : tL} {a : Nat} {i x : Int32} {S : List Value} : rn ca C_X9_prepareForKnocks 46 L (.int x :: .int i :: .ref a :: S) M = if akind a = 1 ∧ inb i (alen M a) then (if x = iI 0 ∨ x = iI 1 then rn ca C_X9_prepareForKnocks 47 L S (sI M a i.toInt.toNat x) else none) else none := by rw [rn_at k_X9_prepareForKnocks_46]; simp only [ta, rnx_ite]; rfl
theorem k_X9_prepareForKnocks_47 : lk 47 C_X9_prepareForKnocks = some (.aload_n 0, (0, 0, 0, 0)) := by decide +kernel
theorem s_X9_prepareForKnocks_47 {ca : Nat → List Value → tM → tO} {M : tM} {a1 a2 : Option Value} {x : Nat} {S : List Value} : rn ca C_X9_prepareForKnocks 47 [some (.ref x), a1, a2] S M = rn ca C_X9_prepareForKnocks 48 [some (.ref x), a1, a2] (.ref x :: S) M := (rn_at k_X9_prepareForKnocks_47).trans rfl
theorem k_X9_prepareForKnocks_48 : lk 48 C_X9_prepareForKnocks = some (.getfield 19, (9, 2, 0, 92)) := by decide +kernel
theorem s_X9_prepareForKnocks_48 {ca : Nat → List Value → tM → tO} {M : tM} {L : tL} {b : Nat} {S : List Value} : rn ca C_X9_prepareForKnocks 48 L (.ref b :: S) M = if clsO b = some 9 then rn ca C_X9_prepareForKnocks 51 L (fv M b 2 :: S) M else none := (rn_at k_X9_prepareForKnocks_48).trans rnx_ite
theorem k_X9_prepareForKnocks_51 : lk 51 C_X9_prepareForKnocks = some (.iload_n 2, (0, 0, 0, 0)) := by decide +kernel
theorem s_X9_prepareForKnocks_51 {ca : Nat → List Value → tM → tO} {M : tM} {a0 a1 : Option Value} {x : Int32} {S : List Value} : rn ca C_X9_prepareForKnocks 51 [a0, a1, some (.int x)] S M = rn ca C_X9_prepareForKnocks 52 [a0, a1, some (.int x)] (.int x :: S) M := (rn_at k_X9_prepareForKnocks_51).trans rfl
theorem k_X9_prepareForKnocks_52 : lk 52 C_X9_prepareForKnocks = some (.aload_n 1, (0, 0, 0, 0)) := by decide +kernel
theorem s_X9_prepareForKnocks_52 {ca : Nat → List Value → tM → tO} {M : tM} {a0 a2 : Option Value} {x : Nat} {S : List Value} : rn ca C_X9_prepareForKnocks 52 [a0, some (.ref x), a2] S M = rn ca C_X9_prepareForKnocks 53 [a0, some (.ref x), a2] (.ref x :: S) M := (rn_at k_X9_prepareForKnocks_52).trans rfl
theorem k_X9_prepareForKnocks_53 : lk 53 C_X9_prepareForKnocks = some (.iload_n 2, (0, 0, 0, 0)) := by decide +kernel
theorem s_X9_prepareForKnocks_53 {ca : Nat → List Value → tM → tO} {M : tM} {a0 a1 : Option Value} {x : Int32} {S : List Value} : rn ca C_X9_prepareForKnocks 53 [a0, a1, some (.int x)] S M = rn ca C_X9_prepareForKnocks 54 [a0, a1, some (.int x)] (.int x :: S) M := (rn_at k_X9_prepareForKnocks_53).trans rfl
theorem k_X9_prepareForKnocks_54 : lk 54 C_X9_prepareForKnocks = some (.invokevirtual 50, (27, 1, 4, 959)) := by decide +kernel
theorem s_X9_prepareForKnocks_54 {ca : Nat → List Value → tM → tO} {M : tM} {L : tL} {v1 : Value} {r0 : Int32} {r1 : Nat} {b : Nat} : rn ca C_X9_prepareForKnocks 54 L [v1, .ref b, .int r0, .ref r1] M = if clsO b = some 4 then rnk ca C_X9_prepareForKnocks 57 L [.int r0, .ref r1] (ca m_X4_isShut [.ref b, v1] M) else none := (rn_at k_X9_prepareForKnocks_54).trans rnx_ite
theorem k_X9_prepareForKnocks_57 : lk 57 C_X9_prepareForKnocks = some (.ifCond .ne 7, (64, 0, 0, 0)) := by decide +kernel
theorem s_X9_prepareForKnocks_57 {ca : Nat → List Value → tM → tO} {M : tM} {L : tL} {x : Int32} {S : List Value} : rn ca C_X9_prepareForKnocks 57 L (.int x :: S) M = if ¬ x = iI 0 then rn ca C_X9_prepareForKnocks 64 L S M else rn ca C_X9_prepareForKnocks 60 L S M := (rn_at k_X9_prepareForKnocks_57).trans rnx_ite
theorem k_X9_prepareForKnocks_60 : lk 60 C_X9_prepareForKnocks = some (.iconst 1, (0, 0, 0, 0)) := by decide +kernel
theorem s_X9_prepareForKnocks_60 {ca : Nat → List Value → tM → tO} {M : tM} {L : tL} {S : List Value} : rn ca C_X9_prepareForKnocks 60 L S M = rn ca C_X9_prepareForKnocks 61 L (.int (iI 1) :: S) M := (rn_at k_X9_prepareForKnocks_60).trans rfl
theorem k_X9_prepareForKnocks_61 : lk 61 C_X9_prepareForKnocks = some (.goto 4, (65, 0, 0, 0)) := by decide +kernel
theorem s_X9_prepareForKnocks_61 {ca : Nat → List Value → tM → tO} {M : tM} {L : tL} {S : List Value} : rn ca C_X9_prepareForKnocks 61 L S M = rn ca C_X9_prepareForKnocks 65 L S M := (rn_at k_X9_prepareForKnocks_61).trans rfl
theorem k_X9_prepareForKnocks_64 : lk 64 C_X9_prepareForKnocks = some (.iconst 0, (0, 0, 0, 0)) := by decide +kernel
theorem s_X9_prepareForKnocks_64 {ca : Nat → List Value → tM → tO} {M : tM} {L : tL} {S : List Value} : rn ca C_X9_prepareForKnocks 64 L S M = rn ca C_X9_prepareForKnocks 65 L (.int (iI 0) :: S) M := (rn_at k_X9_prepareForKnocks_64).trans rfl
theorem k_X9_prepareForKnocks_65 : lk 65 C_X9_prepareForKnocks = some (.bastore, (0, 0, 0, 0)) := by decide +kernel
theorem s_X9_prepareForKnocks_65 {ca : Nat → List Value → tM → tO} {M : tM} {L : tL} {a : Nat} {i x : Int32} {S : List Value} : rn ca C_X9_prepareForKnocks 65 L (.int x :: .int i :: .ref a :: S) M = if akind a = 1 ∧ inb i (alen M a) then (if x = iI 0 ∨ x = iI 1 then rn ca C_X9_prepareForKnocks 66 L S (sI M a i.toInt.toNat x) else none) else none := by rw [rn_at k_X9_prepareForKnocks_65]; simp only [ta, rnx_ite]; rfl
theorem k_X9_prepareForKnocks_66 : lk 66 C_X9_prepareForKnocks = some (.iinc 2 1, (0, 0, 0, 0)) := by decide +kernel
theorem s_X9_prepareForKnocks_66 {ca : Nat → List Value → tM → tO} {M : tM} {a0 a1 : Option Value} {x : Int32} {S : List Value} : rn ca C_X9_prepareForKnocks 66 [a0, a1, some (.int x)] S M = rn ca C_X9_prepareForKnocks 69 [a0, a1, some (.int (x + iI 1))] S M := (rn_at k_X9_prepareForKnocks_66).trans rfl
theorem k_X9_prepareForKnocks_69 : lk 69 C_X9_prepareForKnocks = some (.goto (-67), (2, 0, 0, 0)) := by decide +kernel
theorem s_X9_prepareForKnocks_69 {ca : Nat → List Value → tM → tO} {M : tM} {L : tL} {S : List Value} : rn ca C_X9_prepareForKnocks 69 L S M = rn ca C_X9_prepareForKnocks 2 L S M := (rn_at k_X9_prepareForKnocks_69).trans rfl
theorem k_X9_prepareForKnocks_72 : lk 72 C_X9_prepareForKnocks = some (.return_, (0, 0, 0, 0)) := by decide +kernel
theorem s_X9_prepareForKnocks_72 {ca : Nat → List Value → tM → tO} {M : tM} {L : tL} : rn ca C_X9_prepareForKnocks 72 L [] M = some (none, M) := (rn_at k_X9_prepareForKnocks_72).trans rfl
theorem k_X9_passableTubes_0 : lk 0 C_X9_passableTubes = some (.iconst 0, (0, 0, 0, 0)) := by decide +kernel
theorem s_X9_passableTubes_0 {ca : Nat → List Value → tM → tO} {M : tM} {L : tL} {S : List Value} : rn ca C_X9_passableTubes 0 L S M = rn ca C_X9_passableTubes 1 L (.int (iI 0) :: S) M := (rn_at k_X9_passableTubes_0).trans rfl
theorem k_X9_passableTubes_1 : lk 1 C_X9_passableTubes = some (.istore_n 2, (0, 0, 0, 0)) := by decide +kernel
theorem s_X9_passableTubes_1 {ca : Nat → List Value → tM → tO} {M : tM} {a0 a1 a2 a3 : Option Value} {x : Int32} {S : List Value} : rn ca C_X9_passableTubes 1 [a0, a1, a2, a3] (.int x :: S) M = rn ca C_X9_passableTubes 2 [a0, a1, some (.int x), a3] S M := (rn_at k_X9_passableTubes_1).trans rfl
theorem k_X9_passableTubes_2 : lk 2 C_X9_passableTubes = some (.iconst 0, (0, 0, 0, 0)) := by decide +kernel
theorem s_X9_passableTubes_2 {ca : Nat → List Value → tM → tO} {M : tM} {L : tL} {S : List Value} : rn ca C_X9_passableTubes 2 L S M = rn ca C_X9_passableTubes 3 L (.int (iI 0) :: S) M := (rn_at k_X9_passableTubes_2).trans rfl
theorem k_X9_passableTubes_3 : lk 3 C_X9_passableTubes = some (.istore_n 3, (0, 0, 0, 0)) := by decide +kernel
theorem s_X9_passableTubes_3 {ca : Nat → List Value → tM → tO} {M : tM} {a0 a1 a2 a3 : Option Value} {x : Int32} {S : List Value} : rn ca C_X9_passableTubes 3 [a0, a1, a2, a3] (.int x :: S) M = rn ca C_X9_passableTubes 4 [a0, a1, a2, some (.int x)] S M := (rn_at k_X9_passableTubes_3).trans rfl
theorem k_X9_passableTubes_4 : lk 4 C_X9_passableTubes = some (.iload_n 3, (0, 0, 0, 0)) := by decide +kernel
theorem s_X9_passableTubes_4 {ca : Nat → List Value → tM → tO} {M : tM} {a0 a1 a2 : Option Value} {x : Int32} {S : List Value} : rn ca C_X9_passableTubes 4 [a0, a1, a2, some (.int x)] S M = rn ca C_X9_passableTubes 5 [a0, a1, a2, some (.int x)] (.int x :: S) M := (rn_at k_X9_passableTubes_4).trans rfl
theorem k_X9_passableTubes_5 : lk 5 C_X9_passableTubes = some (.aload_n 1, (0, 0, 0, 0)) := by decide +kernel
theorem s_X9_passableTubes_5 {ca : Nat → List Value → tM → tO} {M : tM} {a0 a2 a3 : Option Value} {x : Nat} {S : List Value} : rn ca C_X9_passableTubes 5 [a0, some (.ref x), a2, a3] S M = rn ca C_X9_passableTubes 6 [a0, some (.ref x), a2, a3] (.ref x :: S) M := (rn_at k_X9_passableTubes_5).trans rfl
theorem k_X9_passableTubes_6 : lk 6 C_X9_passableTubes = some (.getfield 33, (4, 2, 0, 100006)) := by decide +kernel
theorem s_X9_passableTubes_6 {ca : Nat → List Value → tM → tO} {M : tM} {L : tL} {b : Nat} {S : List Value} : rn ca C_X9_passableTubes 6 L (.ref b :: S) M = if clsO b = some 4 then rn ca C_X9_passableTubes 9 L (fv M b 2 :: S) M else none := (rn_at k_X9_passableTubes_6).trans rnx_ite
theorem k_X9_passableTubes_9 : lk 9 C_X9_passableTubes = some (.if_icmp .ge 39, (48, 0, 0, 0)) := by decide +kernel
theorem s_X9_passableTubes_9 {ca : Nat → List Value → tM → tO} {M : tM} {L : tL} {x y : Int32} {S : List Value} : rn ca C_X9_passableTubes 9 L (.int y :: .int x :: S) M = if y ≤ x then rn ca C_X9_passableTubes 48 L S M else rn ca C_X9_passableTubes 12 L S M := (rn_at k_X9_passableTubes_9).trans rnx_ite
theorem k_X9_passableTubes_12 : lk 12 C_X9_passableTubes = some (.iload_n 3, (0, 0, 0, 0)) := by decide +kernel
theorem s_X9_passableTubes_12 {ca : Nat → List Value → tM → tO} {M : tM} {a0 a1 a2 : Option Value} {x : Int32} {S : List Value} : rn ca C_X9_passableTubes 12 [a0, a1, a2, some (.int x)] S M = rn ca C_X9_passableTubes 13 [a0, a1, a2, some (.int x)] (.int x :: S) M := (rn_at k_X9_passableTubes_12).trans rfl
theorem k_X9_passableTubes_13 : lk 13 C_X9_passableTubes = some (.bipush 16, (0, 0, 0, 0)) := by decide +kernel
theorem s_X9_passableTubes_13 {ca : Nat → List Value → tM → tO} {M : tM} {L : tL} {S : List Value} : rn ca C_X9_passableTubes 13 L S M = rn ca C_X9_passableTubes 15 L (.int (iI 16) :: S) M := (rn_at k_X9_passableTubes_13).trans rfl
theorem k_X9_passableTubes_15 : lk 15 C_X9_passableTubes = some (.if_icmp .ge 33, (48, 0, 0, 0)) := by decide +kernel
theorem s_X9_passableTubes_15 {ca : Nat → List Value → tM → tO} {M : tM} {L : tL} {x y : Int32} {S : List Value} : rn ca C_X9_passableTubes 15 L (.int y :: .int x :: S) M = if y ≤ x then rn ca C_X9_passableTubes 48 L S M else rn ca C_X9_passableTubes 18 L S M := (rn_at k_X9_passableTubes_15).trans rnx_ite
theorem k_X9_passableTubes_18 : lk 18 C_X9_passableTubes = some (.aload_n 0, (0, 0, 0, 0)) := by decide +kernel
theorem s_X9_passableTubes_18 {ca : Nat → List Value → tM → tO} {M : tM} {a1 a2 a3 : Option Value} {x : Nat} {S : List Value} : rn ca C_X9_passableTubes 18 [some (.ref x), a1, a2, a3] S M = rn ca C_X9_passableTubes 19 [some (.ref x), a1, a2, a3] (.ref x :: S) M := (rn_at k_X9_passableTubes_18).trans rfl
theorem k_X9_passableTubes_19 : lk 19 C_X9_passableTubes = some (.getfield 15, (9, 1, 0, 91)) := by decide +kernel
theorem s_X9_passableTubes_19 {ca : Nat → List Value → tM → tO} {M : tM} {L : tL} {b : Nat} {S : List Value} : rn ca C_X9_passableTubes 19 L (.ref b :: S) M = if clsO b = some 9 then rn ca C_X9_passableTubes 22 L (fv M b 1 :: S) M else none := (rn_at k_X9_passableTubes_19).trans rnx_ite
theorem k_X9_passableTubes_22 : lk 22 C_X9_passableTubes = some (.iload_n 3, (0, 0, 0, 0)) := by decide +kernel
theorem s_X9_passableTubes_22 {ca : Nat → List Value → tM → tO} {M : tM} {a0 a1 a2 : Option Value} {x : Int32} {S : List Value} : rn ca C_X9_passableTubes 22 [a0, a1, a2, some (.int x)] S M = rn ca C_X9_passableTubes 23 [a0, a1, a2, some (.int x)] (.int x :: S) M := (rn_at k_X9_passableTubes_22).trans rfl
theorem k_X9_passableTubes_23 : lk 23 C_X9_passableTubes = some (.baload, (0, 0, 0, 0)) := by decide +kernel
theorem s_X9_passableTubes_23 {ca : Nat → List Value → tM → tO} {M : tM} {L : tL} {a : Nat} {i : Int32} {S : List Value} : rn ca C_X9_passableTubes 23 L (.int i :: .ref a :: S) M = if akind a = 1 ∧ inb i (alen M a) then rn ca C_X9_passableTubes 24 L (.int (M.1 a i.toInt.toNat) :: S) M else none := (rn_at k_X9_passableTubes_23).trans rnx_ite
theorem k_X9_passableTubes_24 : lk 24 C_X9_passableTubes = some (.ifCond .ne 12, (36, 0, 0, 0)) := by decide +kernel
theorem s_X9_passableTubes_24 {ca : Nat → List Value → tM → tO} {M : tM} {L : tL} {x : Int32} {S : List Value} : rn ca C_X9_passableTubes 24 L (.int x :: S) M = if ¬ x = iI 0 then rn ca C_X9_passableTubes 36 L S M else rn ca C_X9_passableTubes 27 L S M := (rn_at k_X9_passableTubes_24).trans rnx_ite
theorem k_X9_passableTubes_27 : lk 27 C_X9_passableTubes = some (.aload_n 0, (0, 0, 0, 0)) := by decide +kernel
theorem s_X9_passableTubes_27 {ca : Nat → List Value → tM → tO} {M : tM} {a1 a2 a3 : Option Value} {x : Nat} {S : List Value} : rn ca C_X9_passableTubes 27 [some (.ref x), a1, a2, a3] S M = rn ca C_X9_passableTubes 28 [some (.ref x), a1, a2, a3] (.ref x :: S) M := (rn_at k_X9_passableTubes_27).trans rfl
theorem k_X9_passableTubes_28 : lk 28 C_X9_passableTubes = some (.getfield 19, (9, 2, 0, 92)) := by decide +kernel
theorem s_X9_passableTubes_28 {ca : Nat → List Value → tM → tO} {M : tM} {L : tL} {b : Nat} {S : List Value} : rn ca C_X9_passableTubes 28 L (.ref b :: S) M = if clsO b = some 9 then rn ca C_X9_passableTubes 31 L (fv M b 2 :: S) M else none := (rn_at k_X9_passableTubes_28).trans rnx_ite
theorem k_X9_passableTubes_31 : lk 31 C_X9_passableTubes = some (.iload_n 3, (0, 0, 0, 0)) := by decide +kernel
theorem s_X9_passableTubes_31 {ca : Nat → List Value → tM → tO} {M : tM} {a0 a1 a2 : Option Value} {x : Int32} {S : List Value} : rn ca C_X9_passableTubes 31 [a0, a1, a2, some (.int x)] S M = rn ca C_X9_passableTubes 32 [a0, a1, a2, some (.int x)] (.int x :: S) M := (rn_at k_X9_passableTubes_31).trans rfl
theorem k_X9_passableTubes_32 : lk 32 C_X9_passableTubes = some (.baload, (0, 0, 0, 0)) := by decide +kernel
theorem s_X9_passableTubes_32 {ca : Nat → List Value → tM → tO} {M : tM} {L : tL} {a : Nat} {i : Int32} {S : List Value} : rn ca C_X9_passableTubes 32 L (.int i :: .ref a :: S) M = if akind a = 1 ∧ inb i (alen M a) then rn ca C_X9_passableTubes 33 L (.int (M.1 a i.toInt.toNat) :: S) M else none := (rn_at k_X9_passableTubes_32).trans rnx_ite
theorem k_X9_passableTubes_33 : lk 33 C_X9_passableTubes = some (.ifCond .eq 9, (42, 0, 0, 0)) := by decide +kernel
theorem s_X9_passableTubes_33 {ca : Nat → List Value → tM → tO} {M : tM} {L : tL} {x : Int32} {S : List Value} : rn ca C_X9_passableTubes 33 L (.int x :: S) M = if x = iI 0 then rn ca C_X9_passableTubes 42 L S M else rn ca C_X9_passableTubes 36 L S M := (rn_at k_X9_passableTubes_33).trans rnx_ite
theorem k_X9_passableTubes_36 : lk 36 C_X9_passableTubes = some (.iload_n 2, (0, 0, 0, 0)) := by decide +kernel
theorem s_X9_passableTubes_36 {ca : Nat → List Value → tM → tO} {M : tM} {a0 a1 a3 : Option Value} {x : Int32} {S : List Value} : rn ca C_X9_passableTubes 36 [a0, a1, some (.int x), a3] S M = rn ca C_X9_passableTubes 37 [a0, a1, some (.int x), a3] (.int x :: S) M := (rn_at k_X9_passableTubes_36).trans rfl
theorem k_X9_passableTubes_37 : lk 37 C_X9_passableTubes = some (.iconst 1, (0, 0, 0, 0)) := by decide +kernel
theorem s_X9_passableTubes_37 {ca : Nat → List Value → tM → tO} {M : tM} {L : tL} {S : List Value} : rn ca C_X9_passableTubes 37 L S M = rn ca C_X9_passableTubes 38 L (.int (iI 1) :: S) M := (rn_at k_X9_passableTubes_37).trans rfl
theorem k_X9_passableTubes_38 : lk 38 C_X9_passableTubes = some (.iload_n 3, (0, 0, 0, 0)) := by decide +kernel
theorem s_X9_passableTubes_38 {ca : Nat → List Value → tM → tO} {M : tM} {a0 a1 a2 : Option Value} {x : Int32} {S : List Value} : rn ca C_X9_passableTubes 38 [a0, a1, a2, some (.int x)] S M = rn ca C_X9_passableTubes 39 [a0, a1, a2, some (.int x)] (.int x :: S) M := (rn_at k_X9_passableTubes_38).trans rfl
theorem k_X9_passableTubes_39 : lk 39 C_X9_passableTubes = some (.ishl, (0, 0, 0, 0)) := by decide +kernel
theorem s_X9_passableTubes_39 {ca : Nat → List Value → tM → tO} {M : tM} {L : tL} {x y : Int32} {S : List Value} : rn ca C_X9_passableTubes 39 L (.int y :: .int x :: S) M = rn ca C_X9_passableTubes 40 L (.int (x <<< (y &&& 31)) :: S) M := (rn_at k_X9_passableTubes_39).trans rfl
theorem k_X9_passableTubes_40 : lk 40 C_X9_passableTubes = some (.ior, (0, 0, 0, 0)) := by decide +kernel
theorem s_X9_passableTubes_40 {ca : Nat → List Value → tM → tO} {M : tM} {L : tL} {x y : Int32} {S : List Value} : rn ca C_X9_passableTubes 40 L (.int y :: .int x :: S) M = rn ca C_X9_passableTubes 41 L (.int (x ||| y) :: S) M := (rn_at k_X9_passableTubes_40).trans rfl
theorem k_X9_passableTubes_41 : lk 41 C_X9_passableTubes = some (.istore_n 2, (0, 0, 0, 0)) := by decide +kernel
theorem s_X9_passableTubes_41 {ca : Nat → List Value → tM → tO} {M : tM} {a0 a1 a2 a3 : Option Value} {x : Int32} {S : List Value} : rn ca C_X9_passableTubes 41 [a0, a1, a2, a3] (.int x :: S) M = rn ca C_X9_passableTubes 42 [a0, a1, some (.int x), a3] S M := (rn_at k_X9_passableTubes_41).trans rfl
theorem k_X9_passableTubes_42 : lk 42 C_X9_passableTubes = some (.iinc 3 1, (0, 0, 0, 0)) := by decide +kernel
theorem s_X9_passableTubes_42 {ca : Nat → List Value → tM → tO} {M : tM} {a0 a1 a2 : Option Value} {x : Int32} {S : List Value} : rn ca C_X9_passableTubes 42 [a0, a1, a2, some (.int x)] S M = rn ca C_X9_passableTubes 45 [a0, a1, a2, some (.int (x + iI 1))] S M := (rn_at k_X9_passableTubes_42).trans rfl
theorem k_X9_passableTubes_45 : lk 45 C_X9_passableTubes = some (.goto (-41), (4, 0, 0, 0)) := by decide +kernel
theorem s_X9_passableTubes_45 {ca : Nat → List Value → tM → tO} {M : tM} {L : tL} {S : List Value} : rn ca C_X9_passableTubes 45 L S M = rn ca C_X9_passableTubes 4 L S M := (rn_at k_X9_passableTubes_45).trans rfl
theorem k_X9_passableTubes_48 : lk 48 C_X9_passableTubes = some (.iload_n 2, (0, 0, 0, 0)) := by decide +kernel
theorem s_X9_passableTubes_48 {ca : Nat → List Value → tM → tO} {M : tM} {a0 a1 a3 : Option Value} {x : Int32} {S : List Value} : rn ca C_X9_passableTubes 48 [a0, a1, some (.int x), a3] S M = rn ca C_X9_passableTubes 49 [a0, a1, some (.int x), a3] (.int x :: S) M := (rn_at k_X9_passableTubes_48).trans rfl
theorem k_X9_passableTubes_49 : lk 49 C_X9_passableTubes = some (.ireturn, (0, 0, 0, 0)) := by decide +kernel
theorem s_X9_passableTubes_49 {ca : Nat → List Value → tM → tO} {M : tM} {L : tL} {x : Int32} : rn ca C_X9_passableTubes 49 L [.int x] M = some (some (.int x), M) := (rn_at k_X9_passableTubes_49).trans rfl
theorem k_X9_spread_0 : lk 0 C_X9_spread = some (.aload_n 0, (0, 0, 0, 0)) := by decide +kernel
theorem s_X9_spread_0 {ca : Nat → List Value → tM → tO} {M : tM} {a1 a2 a3 a4 a5 : Option Value} {x : Nat} {S : List Value} : rn ca C_X9_spread 0 [some (.ref x), a1, a2, a3, a4, a5] S M = rn ca C_X9_spread 1 [some (.ref x), a1, a2, a3, a4, a5] (.ref x :: S) M := (rn_at k_X9_spread_0).trans rfl
theorem k_X9_spread_1 : lk 1 C_X9_spread = some (.getfield 22, (9, 3, 0, 93)) := by decide +kernel
theorem s_X9_spread_1 {ca : Nat → List Value → tM → tO} {M : tM} {L : tL} {b : Nat} {S : List Value} : rn ca C_X9_spread 1 L (.ref b :: S) M = if clsO b = some 9 then rn ca C_X9_spread 4 L (fv M b 3 :: S) M else none := (rn_at k_X9_spread_1).trans rnx_ite
theorem k_X9_spread_4 : lk 4 C_X9_spread = some (.sipush 9999, (0, 0, 0, 0)) := by decide +kernel
theorem s_X9_spread_4 {ca : Nat → List Value → tM → tO} {M : tM} {L : tL} {S : List Value} : rn ca C_X9_spread 4 L S M = rn ca C_X9_spread 7 L (.int (iI 9999) :: S) M := (rn_at k_X9_spread_4).trans rfl
theorem k_X9_spread_7 : lk 7 C_X9_spread = some (.invokestatic 54, (241, 2, 0, 713)) := by decide +kernel
theorem s_X9_spread_7 {ca : Nat → List Value → tM → tO} {M : tM} {L : tL} {v1 v2 : Value} : rn ca C_X9_spread 7 L [v2, v1] M = rnk ca C_X9_spread 10 L [] (ca m_J7_fill_53178 [v1, v2] M) := (rn_at k_X9_spread_7).trans rfl
theorem k_X9_spread_10 : lk 10 C_X9_spread = some (.aload_n 1, (0, 0, 0, 0)) := by decide +kernel
theorem s_X9_spread_10 {ca : Nat → List Value → tM → tO} {M : tM} {a0 a2 a3 a4 a5 : Option Value} {x : Nat} {S : List Value} : rn ca C_X9_spread 10 [a0, some (.ref x), a2, a3, a4, a5] S M = rn ca C_X9_spread 11 [a0, some (.ref x), a2, a3, a4, a5] (.ref x :: S) M := (rn_at k_X9_spread_10).trans rfl
theorem k_X9_spread_11 : lk 11 C_X9_spread = some (.iload_n 2, (0, 0, 0, 0)) := by decide +kernel
theorem s_X9_spread_11 {ca : Nat → List Value → tM → tO} {M : tM} {a0 a1 a3 a4 a5 : Option Value} {x : Int32} {S : List Value} : rn ca C_X9_spread 11 [a0, a1, some (.int x), a3, a4, a5] S M = rn ca C_X9_spread 12 [a0, a1, some (.int x), a3, a4, a5] (.int x :: S) M := (rn_at k_X9_spread_11).trans rfl
theorem k_X9_spread_12 : lk 12 C_X9_spread = some (.invokevirtual 60, (18, 1, 4, 716)) := by decide +kernel
theorem s_X9_spread_12 {ca : Nat → List Value → tM → tO} {M : tM} {L : tL} {v1 : Value} {b : Nat} : rn ca C_X9_spread 12 L [v1, .ref b] M = if clsO b = some 4 then rnk ca C_X9_spread 15 L [] (ca m_X4_hasDesk [.ref b, v1] M) else none := (rn_at k_X9_spread_12).trans rnx_ite
theorem k_X9_spread_15 : lk 15 C_X9_spread = some (.ifCond .ne 4, (19, 0, 0, 0)) := by decide +kernel
theorem s_X9_spread_15 {ca : Nat → List Value → tM → tO} {M : tM} {L : tL} {x : Int32} {S : List Value} : rn ca C_X9_spread 15 L (.int x :: S) M = if ¬ x = iI 0 then rn ca C_X9_spread 19 L S M else rn ca C_X9_spread 18 L S M := (rn_at k_X9_spread_15).trans rnx_ite
theorem k_X9_spread_18 : lk 18 C_X9_spread = some (.return_, (0, 0, 0, 0)) := by decide +kernel
theorem s_X9_spread_18 {ca : Nat → List Value → tM → tO} {M : tM} {L : tL} : rn ca C_X9_spread 18 L [] M = some (none, M) := (rn_at k_X9_spread_18).trans rfl
theorem k_X9_spread_19 : lk 19 C_X9_spread = some (.aload_n 0, (0, 0, 0, 0)) := by decide +kernel
theorem s_X9_spread_19 {ca : Nat → List Value → tM → tO} {M : tM} {a1 a2 a3 a4 a5 : Option Value} {x : Nat} {S : List Value} : rn ca C_X9_spread 19 [some (.ref x), a1, a2, a3, a4, a5] S M = rn ca C_X9_spread 20 [some (.ref x), a1, a2, a3, a4, a5] (.ref x :: S) M := (rn_at k_X9_spread_19).trans rfl
theorem k_X9_spread_20 : lk 20 C_X9_spread = some (.getfield 22, (9, 3, 0, 93)) := by decide +kernel
theorem s_X9_spread_20 {ca : Nat → List Value → tM → tO} {M : tM} {L : tL} {b : Nat} {S : List Value} : rn ca C_X9_spread 20 L (.ref b :: S) M = if clsO b = some 9 then rn ca C_X9_spread 23 L (fv M b 3 :: S) M else none := (rn_at k_X9_spread_20).trans rnx_ite
theorem k_X9_spread_23 : lk 23 C_X9_spread = some (.iload_n 2, (0, 0, 0, 0)) := by decide +kernel
theorem s_X9_spread_23 {ca : Nat → List Value → tM → tO} {M : tM} {a0 a1 a3 a4 a5 : Option Value} {x : Int32} {S : List Value} : rn ca C_X9_spread 23 [a0, a1, some (.int x), a3, a4, a5] S M = rn ca C_X9_spread 24 [a0, a1, some (.int x), a3, a4, a5] (.int x :: S) M := (rn_at k_X9_spread_23).trans rfl
theorem k_X9_spread_24 : lk 24 C_X9_spread = some (.iconst 0, (0, 0, 0, 0)) := by decide +kernel
theorem s_X9_spread_24 {ca : Nat → List Value → tM → tO} {M : tM} {L : tL} {S : List Value} : rn ca C_X9_spread 24 L S M = rn ca C_X9_spread 25 L (.int (iI 0) :: S) M := (rn_at k_X9_spread_24).trans rfl
theorem k_X9_spread_25 : lk 25 C_X9_spread = some (.iastore, (0, 0, 0, 0)) := by decide +kernel
theorem s_X9_spread_25 {ca : Nat → List Value → tM → tO} {M : tM} {L : tL} {a : Nat} {i x : Int32} {S : List Value} : rn ca C_X9_spread 25 L (.int x :: .int i :: .ref a :: S) M = if akind a = 0 ∧ inb i (alen M a) then rn ca C_X9_spread 26 L S (sI M a i.toInt.toNat x) else none := (rn_at k_X9_spread_25).trans rnx_ite
theorem k_X9_spread_26 : lk 26 C_X9_spread = some (.iconst 1, (0, 0, 0, 0)) := by decide +kernel
theorem s_X9_spread_26 {ca : Nat → List Value → tM → tO} {M : tM} {L : tL} {S : List Value} : rn ca C_X9_spread 26 L S M = rn ca C_X9_spread 27 L (.int (iI 1) :: S) M := (rn_at k_X9_spread_26).trans rfl
theorem k_X9_spread_27 : lk 27 C_X9_spread = some (.istore_n 3, (0, 0, 0, 0)) := by decide +kernel
theorem s_X9_spread_27 {ca : Nat → List Value → tM → tO} {M : tM} {a0 a1 a2 a3 a4 a5 : Option Value} {x : Int32} {S : List Value} : rn ca C_X9_spread 27 [a0, a1, a2, a3, a4, a5] (.int x :: S) M = rn ca C_X9_spread 28 [a0, a1, a2, some (.int x), a4, a5] S M := (rn_at k_X9_spread_27).trans rfl
theorem k_X9_spread_28 : lk 28 C_X9_spread = some (.iconst 0, (0, 0, 0, 0)) := by decide +kernel
theorem s_X9_spread_28 {ca : Nat → List Value → tM → tO} {M : tM} {L : tL} {S : List Value} : rn ca C_X9_spread 28 L S M = rn ca C_X9_spread 29 L (.int (iI 0) :: S) M := (rn_at k_X9_spread_28).trans rfl
theorem k_X9_spread_29 : lk 29 C_X9_spread = some (.istore 4, (0, 0, 0, 0)) := by decide +kernel
theorem s_X9_spread_29 {ca : Nat → List Value → tM → tO} {M : tM} {a0 a1 a2 a3 a4 a5 : Option Value} {x : Int32} {S : List Value} : rn ca C_X9_spread 29 [a0, a1, a2, a3, a4, a5] (.int x :: S) M = rn ca C_X9_spread 31 [a0, a1, a2, a3, some (.int x), a5] S M := (rn_at k_X9_spread_29).trans rfl
theorem k_X9_spread_31 : lk 31 C_X9_spread = some (.iload 4, (0, 0, 0, 0)) := by decide +kernel
theorem s_X9_spread_31 {ca : Nat → List Value → tM → tO} {M : tM} {a0 a1 a2 a3 a5 : Option Value} {x : Int32} {S : List Value} : rn ca C_X9_spread 31 [a0, a1, a2, a3, some (.int x), a5] S M = rn ca C_X9_spread 33 [a0, a1, a2, a3, some (.int x), a5] (.int x :: S) M := (rn_at k_X9_spread_31).trans rfl
theorem k_X9_spread_33 : lk 33 C_X9_spread = some (.bipush 8, (0, 0, 0, 0)) := by decide +kernel
theorem s_X9_spread_33 {ca : Nat → List Value → tM → tO} {M : tM} {L : tL} {S : List Value} : rn ca C_X9_spread 33 L S M = rn ca C_X9_spread 35 L (.int (iI 8) :: S) M := (rn_at k_X9_spread_33).trans rfl
theorem k_X9_spread_35 : lk 35 C_X9_spread = some (.if_icmp .ge 120, (155, 0, 0, 0)) := by decide +kernel
theorem s_X9_spread_35 {ca : Nat → List Value → tM → tO} {M : tM} {L : tL} {x y : Int32} {S : List Value} : rn ca C_X9_spread 35 L (.int y :: .int x :: S) M = if y ≤ x then rn ca C_X9_spread 155 L S M else rn ca C_X9_spread 38 L S M := (rn_at k_X9_spread_35).trans rnx_ite
theorem k_X9_spread_38 : lk 38 C_X9_spread = some (.iload_n 3, (0, 0, 0, 0)) := by decide +kernel
theorem s_X9_spread_38 {ca : Nat → List Value → tM → tO} {M : tM} {a0 a1 a2 a4 a5 : Option Value} {x : Int32} {S : List Value} : rn ca C_X9_spread 38 [a0, a1, a2, some (.int x), a4, a5] S M = rn ca C_X9_spread 39 [a0, a1, a2, some (.int x), a4, a5] (.int x :: S) M := (rn_at k_X9_spread_38).trans rfl
theorem k_X9_spread_39 : lk 39 C_X9_spread = some (.ifCond .eq 116, (155, 0, 0, 0)) := by decide +kernel
theorem s_X9_spread_39 {ca : Nat → List Value → tM → tO} {M : tM} {L : tL} {x : Int32} {S : List Value} : rn ca C_X9_spread 39 L (.int x :: S) M = if x = iI 0 then rn ca C_X9_spread 155 L S M else rn ca C_X9_spread 42 L S M := (rn_at k_X9_spread_39).trans rnx_ite
theorem k_X9_spread_42 : lk 42 C_X9_spread = some (.iconst 0, (0, 0, 0, 0)) := by decide +kernel
theorem s_X9_spread_42 {ca : Nat → List Value → tM → tO} {M : tM} {L : tL} {S : List Value} : rn ca C_X9_spread 42 L S M = rn ca C_X9_spread 43 L (.int (iI 0) :: S) M := (rn_at k_X9_spread_42).trans rfl
theorem k_X9_spread_43 : lk 43 C_X9_spread = some (.istore_n 3, (0, 0, 0, 0)) := by decide +kernel
theorem s_X9_spread_43 {ca : Nat → List Value → tM → tO} {M : tM} {a0 a1 a2 a3 a4 a5 : Option Value} {x : Int32} {S : List Value} : rn ca C_X9_spread 43 [a0, a1, a2, a3, a4, a5] (.int x :: S) M = rn ca C_X9_spread 44 [a0, a1, a2, some (.int x), a4, a5] S M := (rn_at k_X9_spread_43).trans rfl
theorem k_X9_spread_44 : lk 44 C_X9_spread = some (.iconst 0, (0, 0, 0, 0)) := by decide +kernel
theorem s_X9_spread_44 {ca : Nat → List Value → tM → tO} {M : tM} {L : tL} {S : List Value} : rn ca C_X9_spread 44 L S M = rn ca C_X9_spread 45 L (.int (iI 0) :: S) M := (rn_at k_X9_spread_44).trans rfl
theorem k_X9_spread_45 : lk 45 C_X9_spread = some (.istore 5, (0, 0, 0, 0)) := by decide +kernel
theorem s_X9_spread_45 {ca : Nat → List Value → tM → tO} {M : tM} {a0 a1 a2 a3 a4 a5 : Option Value} {x : Int32} {S : List Value} : rn ca C_X9_spread 45 [a0, a1, a2, a3, a4, a5] (.int x :: S) M = rn ca C_X9_spread 47 [a0, a1, a2, a3, a4, some (.int x)] S M := (rn_at k_X9_spread_45).trans rfl
theorem k_X9_spread_47 : lk 47 C_X9_spread = some (.iload 5, (0, 0, 0, 0)) := by decide +kernel
theorem s_X9_spread_47 {ca : Nat → List Value → tM → tO} {M : tM} {a0 a1 a2 a3 a4 : Option Value} {x : Int32} {S : List Value} : rn ca C_X9_spread 47 [a0, a1, a2, a3, a4, some (.int x)] S M = rn ca C_X9_spread 49 [a0, a1, a2, a3, a4, some (.int x)] (.int x :: S) M := (rn_at k_X9_spread_47).trans rfl
theorem k_X9_spread_49 : lk 49 C_X9_spread = some (.aload_n 1, (0, 0, 0, 0)) := by decide +kernel
theorem s_X9_spread_49 {ca : Nat → List Value → tM → tO} {M : tM} {a0 a2 a3 a4 a5 : Option Value} {x : Nat} {S : List Value} : rn ca C_X9_spread 49 [a0, some (.ref x), a2, a3, a4, a5] S M = rn ca C_X9_spread 50 [a0, some (.ref x), a2, a3, a4, a5] (.ref x :: S) M := (rn_at k_X9_spread_49).trans rfl
theorem k_X9_spread_50 : lk 50 C_X9_spread = some (.getfield 33, (4, 2, 0, 100006)) := by decide +kernel
theorem s_X9_spread_50 {ca : Nat → List Value → tM → tO} {M : tM} {L : tL} {b : Nat} {S : List Value} : rn ca C_X9_spread 50 L (.ref b :: S) M = if clsO b = some 4 then rn ca C_X9_spread 53 L (fv M b 2 :: S) M else none := (rn_at k_X9_spread_50).trans rnx_ite
theorem k_X9_spread_53 : lk 53 C_X9_spread = some (.if_icmp .ge 96, (149, 0, 0, 0)) := by decide +kernel
theorem s_X9_spread_53 {ca : Nat → List Value → tM → tO} {M : tM} {L : tL} {x y : Int32} {S : List Value} : rn ca C_X9_spread 53 L (.int y :: .int x :: S) M = if y ≤ x then rn ca C_X9_spread 149 L S M else rn ca C_X9_spread 56 L S M := (rn_at k_X9_spread_53).trans rnx_ite
theorem k_X9_spread_56 : lk 56 C_X9_spread = some (.iload 5, (0, 0, 0, 0)) := by decide +kernel
theorem s_X9_spread_56 {ca : Nat → List Value → tM → tO} {M : tM} {a0 a1 a2 a3 a4 : Option Value} {x : Int32} {S : List Value} : rn ca C_X9_spread 56 [a0, a1, a2, a3, a4, some (.int x)] S M = rn ca C_X9_spread 58 [a0, a1, a2, a3, a4, some (.int x)] (.int x :: S) M := (rn_at k_X9_spread_56).trans rfl
theorem k_X9_spread_58 : lk 58 C_X9_spread = some (.bipush 16, (0, 0, 0, 0)) := by decide +kernel
theorem s_X9_spread_58 {ca : Nat → List Value → tM → tO} {M : tM} {L : tL} {S : List Value} : rn ca C_X9_spread 58 L S M = rn ca C_X9_spread 60 L (.int (iI 16) :: S) M := (rn_at k_X9_spread_58).trans rfl
theorem k_X9_spread_60 : lk 60 C_X9_spread = some (.if_icmp .ge 89, (149, 0, 0, 0)) := by decide +kernel
theorem s_X9_spread_60 {ca : Nat → List Value → tM → tO} {M : tM} {L : tL} {x y : Int32} {S : List Value} : rn ca C_X9_spread 60 L (.int y :: .int x :: S) M = if y ≤ x then rn ca C_X9_spread 149 L S M else rn ca C_X9_spread 63 L S M := (rn_at k_X9_spread_60).trans rnx_ite
theorem k_X9_spread_63 : lk 63 C_X9_spread = some (.aload_n 0, (0, 0, 0, 0)) := by decide +kernel
theorem s_X9_spread_63 {ca : Nat → List Value → tM → tO} {M : tM} {a1 a2 a3 a4 a5 : Option Value} {x : Nat} {S : List Value} : rn ca C_X9_spread 63 [some (.ref x), a1, a2, a3, a4, a5] S M = rn ca C_X9_spread 64 [some (.ref x), a1, a2, a3, a4, a5] (.ref x :: S) M := (rn_at k_X9_spread_63).trans rfl
theorem k_X9_spread_64 : lk 64 C_X9_spread = some (.getfield 15, (9, 1, 0, 91)) := by decide +kernel
theorem s_X9_spread_64 {ca : Nat → List Value → tM → tO} {M : tM} {L : tL} {b : Nat} {S : List Value} : rn ca C_X9_spread 64 L (.ref b :: S) M = if clsO b = some 9 then rn ca C_X9_spread 67 L (fv M b 1 :: S) M else none := (rn_at k_X9_spread_64).trans rnx_ite
theorem k_X9_spread_67 : lk 67 C_X9_spread = some (.iload 5, (0, 0, 0, 0)) := by decide +kernel
theorem s_X9_spread_67 {ca : Nat → List Value → tM → tO} {M : tM} {a0 a1 a2 a3 a4 : Option Value} {x : Int32} {S : List Value} : rn ca C_X9_spread 67 [a0, a1, a2, a3, a4, some (.int x)] S M = rn ca C_X9_spread 69 [a0, a1, a2, a3, a4, some (.int x)] (.int x :: S) M := (rn_at k_X9_spread_67).trans rfl
theorem k_X9_spread_69 : lk 69 C_X9_spread = some (.baload, (0, 0, 0, 0)) := by decide +kernel
theorem s_X9_spread_69 {ca : Nat → List Value → tM → tO} {M : tM} {L : tL} {a : Nat} {i : Int32} {S : List Value} : rn ca C_X9_spread 69 L (.int i :: .ref a :: S) M = if akind a = 1 ∧ inb i (alen M a) then rn ca C_X9_spread 70 L (.int (M.1 a i.toInt.toNat) :: S) M else none := (rn_at k_X9_spread_69).trans rnx_ite
theorem k_X9_spread_70 : lk 70 C_X9_spread = some (.ifCond .eq 33, (103, 0, 0, 0)) := by decide +kernel
theorem s_X9_spread_70 {ca : Nat → List Value → tM → tO} {M : tM} {L : tL} {x : Int32} {S : List Value} : rn ca C_X9_spread 70 L (.int x :: S) M = if x = iI 0 then rn ca C_X9_spread 103 L S M else rn ca C_X9_spread 73 L S M := (rn_at k_X9_spread_70).trans rnx_ite
theorem k_X9_spread_73 : lk 73 C_X9_spread = some (.aload_n 0, (0, 0, 0, 0)) := by decide +kernel
theorem s_X9_spread_73 {ca : Nat → List Value → tM → tO} {M : tM} {a1 a2 a3 a4 a5 : Option Value} {x : Nat} {S : List Value} : rn ca C_X9_spread 73 [some (.ref x), a1, a2, a3, a4, a5] S M = rn ca C_X9_spread 74 [some (.ref x), a1, a2, a3, a4, a5] (.ref x :: S) M := (rn_at k_X9_spread_73).trans rfl
theorem k_X9_spread_74 : lk 74 C_X9_spread = some (.aload_n 1, (0, 0, 0, 0)) := by decide +kernel
theorem s_X9_spread_74 {ca : Nat → List Value → tM → tO} {M : tM} {a0 a2 a3 a4 a5 : Option Value} {x : Nat} {S : List Value} : rn ca C_X9_spread 74 [a0, some (.ref x), a2, a3, a4, a5] S M = rn ca C_X9_spread 75 [a0, some (.ref x), a2, a3, a4, a5] (.ref x :: S) M := (rn_at k_X9_spread_74).trans rfl
theorem k_X9_spread_75 : lk 75 C_X9_spread = some (.getfield 63, (4, 3, 0, 100014)) := by decide +kernel
theorem s_X9_spread_75 {ca : Nat → List Value → tM → tO} {M : tM} {L : tL} {b : Nat} {S : List Value} : rn ca C_X9_spread 75 L (.ref b :: S) M = if clsO b = some 4 then rn ca C_X9_spread 78 L (fv M b 3 :: S) M else none := (rn_at k_X9_spread_75).trans rnx_ite
theorem k_X9_spread_78 : lk 78 C_X9_spread = some (.iload 5, (0, 0, 0, 0)) := by decide +kernel
theorem s_X9_spread_78 {ca : Nat → List Value → tM → tO} {M : tM} {a0 a1 a2 a3 a4 : Option Value} {x : Int32} {S : List Value} : rn ca C_X9_spread 78 [a0, a1, a2, a3, a4, some (.int x)] S M = rn ca C_X9_spread 80 [a0, a1, a2, a3, a4, some (.int x)] (.int x :: S) M := (rn_at k_X9_spread_78).trans rfl
theorem k_X9_spread_80 : lk 80 C_X9_spread = some (.iaload, (0, 0, 0, 0)) := by decide +kernel
theorem s_X9_spread_80 {ca : Nat → List Value → tM → tO} {M : tM} {L : tL} {a : Nat} {i : Int32} {S : List Value} : rn ca C_X9_spread 80 L (.int i :: .ref a :: S) M = if (akind a = 0 ∨ akind a = 6 ∨ akind a = 7) ∧ inb i (alen M a) then rn ca C_X9_spread 81 L (.int (M.1 a i.toInt.toNat) :: S) M else none := (rn_at k_X9_spread_80).trans rnx_ite
theorem k_X9_spread_81 : lk 81 C_X9_spread = some (.aload_n 1, (0, 0, 0, 0)) := by decide +kernel
theorem s_X9_spread_81 {ca : Nat → List Value → tM → tO} {M : tM} {a0 a2 a3 a4 a5 : Option Value} {x : Nat} {S : List Value} : rn ca C_X9_spread 81 [a0, some (.ref x), a2, a3, a4, a5] S M = rn ca C_X9_spread 82 [a0, some (.ref x), a2, a3, a4, a5] (.ref x :: S) M := (rn_at k_X9_spread_81).trans rfl
theorem k_X9_spread_82 : lk 82 C_X9_spread = some (.getfield 66, (4, 4, 0, 100019)) := by decide +kernel
theorem s_X9_spread_82 {ca : Nat → List Value → tM → tO} {M : tM} {L : tL} {b : Nat} {S : List Value} : rn ca C_X9_spread 82 L (.ref b :: S) M = if clsO b = some 4 then rn ca C_X9_spread 85 L (fv M b 4 :: S) M else none := (rn_at k_X9_spread_82).trans rnx_ite
theorem k_X9_spread_85 : lk 85 C_X9_spread = some (.iload 5, (0, 0, 0, 0)) := by decide +kernel
theorem s_X9_spread_85 {ca : Nat → List Value → tM → tO} {M : tM} {a0 a1 a2 a3 a4 : Option Value} {x : Int32} {S : List Value} : rn ca C_X9_spread 85 [a0, a1, a2, a3, a4, some (.int x)] S M = rn ca C_X9_spread 87 [a0, a1, a2, a3, a4, some (.int x)] (.int x :: S) M := (rn_at k_X9_spread_85).trans rfl
theorem k_X9_spread_87 : lk 87 C_X9_spread = some (.iaload, (0, 0, 0, 0)) := by decide +kernel
theorem s_X9_spread_87 {ca : Nat → List Value → tM → tO} {M : tM} {L : tL} {a : Nat} {i : Int32} {S : List Value} : rn ca C_X9_spread 87 L (.int i :: .ref a :: S) M = if (akind a = 0 ∨ akind a = 6 ∨ akind a = 7) ∧ inb i (alen M a) then rn ca C_X9_spread 88 L (.int (M.1 a i.toInt.toNat) :: S) M else none := (rn_at k_X9_spread_87).trans rnx_ite
theorem k_X9_spread_88 : lk 88 C_X9_spread = some (.aload_n 0, (0, 0, 0, 0)) := by decide +kernel
theorem s_X9_spread_88 {ca : Nat → List Value → tM → tO} {M : tM} {a1 a2 a3 a4 a5 : Option Value} {x : Nat} {S : List Value} : rn ca C_X9_spread 88 [some (.ref x), a1, a2, a3, a4, a5] S M = rn ca C_X9_spread 89 [some (.ref x), a1, a2, a3, a4, a5] (.ref x :: S) M := (rn_at k_X9_spread_88).trans rfl
theorem k_X9_spread_89 : lk 89 C_X9_spread = some (.getfield 9, (9, 0, 0, 89)) := by decide +kernel
theorem s_X9_spread_89 {ca : Nat → List Value → tM → tO} {M : tM} {L : tL} {b : Nat} {S : List Value} : rn ca C_X9_spread 89 L (.ref b :: S) M = if clsO b = some 9 then rn ca C_X9_spread 92 L (fv M b 0 :: S) M else none := (rn_at k_X9_spread_89).trans rnx_ite
theorem k_X9_spread_92 : lk 92 C_X9_spread = some (.iload 5, (0, 0, 0, 0)) := by decide +kernel
theorem s_X9_spread_92 {ca : Nat → List Value → tM → tO} {M : tM} {a0 a1 a2 a3 a4 : Option Value} {x : Int32} {S : List Value} : rn ca C_X9_spread 92 [a0, a1, a2, a3, a4, some (.int x)] S M = rn ca C_X9_spread 94 [a0, a1, a2, a3, a4, some (.int x)] (.int x :: S) M := (rn_at k_X9_spread_92).trans rfl
theorem k_X9_spread_94 : lk 94 C_X9_spread = some (.iaload, (0, 0, 0, 0)) := by decide +kernel
theorem s_X9_spread_94 {ca : Nat → List Value → tM → tO} {M : tM} {L : tL} {a : Nat} {i : Int32} {S : List Value} : rn ca C_X9_spread 94 L (.int i :: .ref a :: S) M = if (akind a = 0 ∨ akind a = 6 ∨ akind a = 7) ∧ inb i (alen M a) then rn ca C_X9_spread 95 L (.int (M.1 a i.toInt.toNat) :: S) M else none := (rn_at k_X9_spread_94).trans rnx_ite
theorem k_X9_spread_95 : lk 95 C_X9_spread = some (.invokevirtual 69, (83, 3, 9, 717)) := by decide +kernel
theorem s_X9_spread_95 {ca : Nat → List Value → tM → tO} {M : tM} {L : tL} {v1 v2 v3 : Value} {b : Nat} : rn ca C_X9_spread 95 L [v3, v2, v1, .ref b] M = if clsO b = some 9 then rnk ca C_X9_spread 98 L [] (ca m_X9_comesNearer [.ref b, v1, v2, v3] M) else none := (rn_at k_X9_spread_95).trans rnx_ite
theorem k_X9_spread_98 : lk 98 C_X9_spread = some (.ifCond .eq 5, (103, 0, 0, 0)) := by decide +kernel
theorem s_X9_spread_98 {ca : Nat → List Value → tM → tO} {M : tM} {L : tL} {x : Int32} {S : List Value} : rn ca C_X9_spread 98 L (.int x :: S) M = if x = iI 0 then rn ca C_X9_spread 103 L S M else rn ca C_X9_spread 101 L S M := (rn_at k_X9_spread_98).trans rnx_ite
theorem k_X9_spread_101 : lk 101 C_X9_spread = some (.iconst 1, (0, 0, 0, 0)) := by decide +kernel
theorem s_X9_spread_101 {ca : Nat → List Value → tM → tO} {M : tM} {L : tL} {S : List Value} : rn ca C_X9_spread 101 L S M = rn ca C_X9_spread 102 L (.int (iI 1) :: S) M := (rn_at k_X9_spread_101).trans rfl
theorem k_X9_spread_102 : lk 102 C_X9_spread = some (.istore_n 3, (0, 0, 0, 0)) := by decide +kernel
theorem s_X9_spread_102 {ca : Nat → List Value → tM → tO} {M : tM} {a0 a1 a2 a3 a4 a5 : Option Value} {x : Int32} {S : List Value} : rn ca C_X9_spread 102 [a0, a1, a2, a3, a4, a5] (.int x :: S) M = rn ca C_X9_spread 103 [a0, a1, a2, some (.int x), a4, a5] S M := (rn_at k_X9_spread_102).trans rfl
theorem k_X9_spread_103 : lk 103 C_X9_spread = some (.aload_n 0, (0, 0, 0, 0)) := by decide +kernel
theorem s_X9_spread_103 {ca : Nat → List Value → tM → tO} {M : tM} {a1 a2 a3 a4 a5 : Option Value} {x : Nat} {S : List Value} : rn ca C_X9_spread 103 [some (.ref x), a1, a2, a3, a4, a5] S M = rn ca C_X9_spread 104 [some (.ref x), a1, a2, a3, a4, a5] (.ref x :: S) M := (rn_at k_X9_spread_103).trans rfl
theorem k_X9_spread_104 : lk 104 C_X9_spread = some (.getfield 19, (9, 2, 0, 92)) := by decide +kernel
theorem s_X9_spread_104 {ca : Nat → List Value → tM → tO} {M : tM} {L : tL} {b : Nat} {S : List Value} : rn ca C_X9_spread 104 L (.ref b :: S) M = if clsO b = some 9 then rn ca C_X9_spread 107 L (fv M b 2 :: S) M else none := (rn_at k_X9_spread_104).trans rnx_ite
theorem k_X9_spread_107 : lk 107 C_X9_spread = some (.iload 5, (0, 0, 0, 0)) := by decide +kernel
theorem s_X9_spread_107 {ca : Nat → List Value → tM → tO} {M : tM} {a0 a1 a2 a3 a4 : Option Value} {x : Int32} {S : List Value} : rn ca C_X9_spread 107 [a0, a1, a2, a3, a4, some (.int x)] S M = rn ca C_X9_spread 109 [a0, a1, a2, a3, a4, some (.int x)] (.int x :: S) M := (rn_at k_X9_spread_107).trans rfl
theorem k_X9_spread_109 : lk 109 C_X9_spread = some (.baload, (0, 0, 0, 0)) := by decide +kernel
theorem s_X9_spread_109 {ca : Nat → List Value → tM → tO} {M : tM} {L : tL} {a : Nat} {i : Int32} {S : List Value} : rn ca C_X9_spread 109 L (.int i :: .ref a :: S) M = if akind a = 1 ∧ inb i (alen M a) then rn ca C_X9_spread 110 L (.int (M.1 a i.toInt.toNat) :: S) M else none := (rn_at k_X9_spread_109).trans rnx_ite
theorem k_X9_spread_110 : lk 110 C_X9_spread = some (.ifCond .eq 33, (143, 0, 0, 0)) := by decide +kernel
theorem s_X9_spread_110 {ca : Nat → List Value → tM → tO} {M : tM} {L : tL} {x : Int32} {S : List Value} : rn ca C_X9_spread 110 L (.int x :: S) M = if x = iI 0 then rn ca C_X9_spread 143 L S M else rn ca C_X9_spread 113 L S M := (rn_at k_X9_spread_110).trans rnx_ite
theorem k_X9_spread_113 : lk 113 C_X9_spread = some (.aload_n 0, (0, 0, 0, 0)) := by decide +kernel
theorem s_X9_spread_113 {ca : Nat → List Value → tM → tO} {M : tM} {a1 a2 a3 a4 a5 : Option Value} {x : Nat} {S : List Value} : rn ca C_X9_spread 113 [some (.ref x), a1, a2, a3, a4, a5] S M = rn ca C_X9_spread 114 [some (.ref x), a1, a2, a3, a4, a5] (.ref x :: S) M := (rn_at k_X9_spread_113).trans rfl
theorem k_X9_spread_114 : lk 114 C_X9_spread = some (.aload_n 1, (0, 0, 0, 0)) := by decide +kernel
theorem s_X9_spread_114 {ca : Nat → List Value → tM → tO} {M : tM} {a0 a2 a3 a4 a5 : Option Value} {x : Nat} {S : List Value} : rn ca C_X9_spread 114 [a0, some (.ref x), a2, a3, a4, a5] S M = rn ca C_X9_spread 115 [a0, some (.ref x), a2, a3, a4, a5] (.ref x :: S) M := (rn_at k_X9_spread_114).trans rfl
theorem k_X9_spread_115 : lk 115 C_X9_spread = some (.getfield 66, (4, 4, 0, 100019)) := by decide +kernel
theorem s_X9_spread_115 {ca : Nat → List Value → tM → tO} {M : tM} {L : tL} {b : Nat} {S : List Value} : rn ca C_X9_spread 115 L (.ref b :: S) M = if clsO b = some 4 then rn ca C_X9_spread 118 L (fv M b 4 :: S) M else none := (rn_at k_X9_spread_115).trans rnx_ite
theorem k_X9_spread_118 : lk 118 C_X9_spread = some (.iload 5, (0, 0, 0, 0)) := by decide +kernel
theorem s_X9_spread_118 {ca : Nat → List Value → tM → tO} {M : tM} {a0 a1 a2 a3 a4 : Option Value} {x : Int32} {S : List Value} : rn ca C_X9_spread 118 [a0, a1, a2, a3, a4, some (.int x)] S M = rn ca C_X9_spread 120 [a0, a1, a2, a3, a4, some (.int x)] (.int x :: S) M := (rn_at k_X9_spread_118).trans rfl
theorem k_X9_spread_120 : lk 120 C_X9_spread = some (.iaload, (0, 0, 0, 0)) := by decide +kernel
theorem s_X9_spread_120 {ca : Nat → List Value → tM → tO} {M : tM} {L : tL} {a : Nat} {i : Int32} {S : List Value} : rn ca C_X9_spread 120 L (.int i :: .ref a :: S) M = if (akind a = 0 ∨ akind a = 6 ∨ akind a = 7) ∧ inb i (alen M a) then rn ca C_X9_spread 121 L (.int (M.1 a i.toInt.toNat) :: S) M else none := (rn_at k_X9_spread_120).trans rnx_ite
theorem k_X9_spread_121 : lk 121 C_X9_spread = some (.aload_n 1, (0, 0, 0, 0)) := by decide +kernel
theorem s_X9_spread_121 {ca : Nat → List Value → tM → tO} {M : tM} {a0 a2 a3 a4 a5 : Option Value} {x : Nat} {S : List Value} : rn ca C_X9_spread 121 [a0, some (.ref x), a2, a3, a4, a5] S M = rn ca C_X9_spread 122 [a0, some (.ref x), a2, a3, a4, a5] (.ref x :: S) M := (rn_at k_X9_spread_121).trans rfl
theorem k_X9_spread_122 : lk 122 C_X9_spread = some (.getfield 63, (4, 3, 0, 100014)) := by decide +kernel
theorem s_X9_spread_122 {ca : Nat → List Value → tM → tO} {M : tM} {L : tL} {b : Nat} {S : List Value} : rn ca C_X9_spread 122 L (.ref b :: S) M = if clsO b = some 4 then rn ca C_X9_spread 125 L (fv M b 3 :: S) M else none := (rn_at k_X9_spread_122).trans rnx_ite
theorem k_X9_spread_125 : lk 125 C_X9_spread = some (.iload 5, (0, 0, 0, 0)) := by decide +kernel
theorem s_X9_spread_125 {ca : Nat → List Value → tM → tO} {M : tM} {a0 a1 a2 a3 a4 : Option Value} {x : Int32} {S : List Value} : rn ca C_X9_spread 125 [a0, a1, a2, a3, a4, some (.int x)] S M = rn ca C_X9_spread 127 [a0, a1, a2, a3, a4, some (.int x)] (.int x :: S) M := (rn_at k_X9_spread_125).trans rfl
theorem k_X9_spread_127 : lk 127 C_X9_spread = some (.iaload, (0, 0, 0, 0)) := by decide +kernel
theorem s_X9_spread_127 {ca : Nat → List Value → tM → tO} {M : tM} {L : tL} {a : Nat} {i : Int32} {S : List Value} : rn ca C_X9_spread 127 L (.int i :: .ref a :: S) M = if (akind a = 0 ∨ akind a = 6 ∨ akind a = 7) ∧ inb i (alen M a) then rn ca C_X9_spread 128 L (.int (M.1 a i.toInt.toNat) :: S) M else none := (rn_at k_X9_spread_127).trans rnx_ite
theorem k_X9_spread_128 : lk 128 C_X9_spread = some (.aload_n 0, (0, 0, 0, 0)) := by decide +kernel
theorem s_X9_spread_128 {ca : Nat → List Value → tM → tO} {M : tM} {a1 a2 a3 a4 a5 : Option Value} {x : Nat} {S : List Value} : rn ca C_X9_spread 128 [some (.ref x), a1, a2, a3, a4, a5] S M = rn ca C_X9_spread 129 [some (.ref x), a1, a2, a3, a4, a5] (.ref x :: S) M := (rn_at k_X9_spread_128).trans rfl
theorem k_X9_spread_129 : lk 129 C_X9_spread = some (.getfield 9, (9, 0, 0, 89)) := by decide +kernel
theorem s_X9_spread_129 {ca : Nat → List Value → tM → tO} {M : tM} {L : tL} {b : Nat} {S : List Value} : rn ca C_X9_spread 129 L (.ref b :: S) M = if clsO b = some 9 then rn ca C_X9_spread 132 L (fv M b 0 :: S) M else none := (rn_at k_X9_spread_129).trans rnx_ite
theorem k_X9_spread_132 : lk 132 C_X9_spread = some (.iload 5, (0, 0, 0, 0)) := by decide +kernel
theorem s_X9_spread_132 {ca : Nat → List Value → tM → tO} {M : tM} {a0 a1 a2 a3 a4 : Option Value} {x : Int32} {S : List Value} : rn ca C_X9_spread 132 [a0, a1, a2, a3, a4, some (.int x)] S M = rn ca C_X9_spread 134 [a0, a1, a2, a3, a4, some (.int x)] (.int x :: S) M := (rn_at k_X9_spread_132).trans rfl
theorem k_X9_spread_134 : lk 134 C_X9_spread = some (.iaload, (0, 0, 0, 0)) := by decide +kernel
theorem s_X9_spread_134 {ca : Nat → List Value → tM → tO} {M : tM} {L : tL} {a : Nat} {i : Int32} {S : List Value} : rn ca C_X9_spread 134 L (.int i :: .ref a :: S) M = if (akind a = 0 ∨ akind a = 6 ∨ akind a = 7) ∧ inb i (alen M a) then rn ca C_X9_spread 135 L (.int (M.1 a i.toInt.toNat) :: S) M else none := (rn_at k_X9_spread_134).trans rnx_ite
theorem k_X9_spread_135 : lk 135 C_X9_spread = some (.invokevirtual 69, (83, 3, 9, 717)) := by decide +kernel
theorem s_X9_spread_135 {ca : Nat → List Value → tM → tO} {M : tM} {L : tL} {v1 v2 v3 : Value} {b : Nat} : rn ca C_X9_spread 135 L [v3, v2, v1, .ref b] M = if clsO b = some 9 then rnk ca C_X9_spread 138 L [] (ca m_X9_comesNearer [.ref b, v1, v2, v3] M) else none := (rn_at k_X9_spread_135).trans rnx_ite
theorem k_X9_spread_138 : lk 138 C_X9_spread = some (.ifCond .eq 5, (143, 0, 0, 0)) := by decide +kernel
theorem s_X9_spread_138 {ca : Nat → List Value → tM → tO} {M : tM} {L : tL} {x : Int32} {S : List Value} : rn ca C_X9_spread 138 L (.int x :: S) M = if x = iI 0 then rn ca C_X9_spread 143 L S M else rn ca C_X9_spread 141 L S M := (rn_at k_X9_spread_138).trans rnx_ite
theorem k_X9_spread_141 : lk 141 C_X9_spread = some (.iconst 1, (0, 0, 0, 0)) := by decide +kernel
theorem s_X9_spread_141 {ca : Nat → List Value → tM → tO} {M : tM} {L : tL} {S : List Value} : rn ca C_X9_spread 141 L S M = rn ca C_X9_spread 142 L (.int (iI 1) :: S) M := (rn_at k_X9_spread_141).trans rfl
theorem k_X9_spread_142 : lk 142 C_X9_spread = some (.istore_n 3, (0, 0, 0, 0)) := by decide +kernel
theorem s_X9_spread_142 {ca : Nat → List Value → tM → tO} {M : tM} {a0 a1 a2 a3 a4 a5 : Option Value} {x : Int32} {S : List Value} : rn ca C_X9_spread 142 [a0, a1, a2, a3, a4, a5] (.int x :: S) M = rn ca C_X9_spread 143 [a0, a1, a2, some (.int x), a4, a5] S M := (rn_at k_X9_spread_142).trans rfl
theorem k_X9_spread_143 : lk 143 C_X9_spread = some (.iinc 5 1, (0, 0, 0, 0)) := by decide +kernel
theorem s_X9_spread_143 {ca : Nat → List Value → tM → tO} {M : tM} {a0 a1 a2 a3 a4 : Option Value} {x : Int32} {S : List Value} : rn ca C_X9_spread 143 [a0, a1, a2, a3, a4, some (.int x)] S M = rn ca C_X9_spread 146 [a0, a1, a2, a3, a4, some (.int (x + iI 1))] S M := (rn_at k_X9_spread_143).trans rfl
theorem k_X9_spread_146 : lk 146 C_X9_spread = some (.goto (-99), (47, 0, 0, 0)) := by decide +kernel
theorem s_X9_spread_146 {ca : Nat → List Value → tM → tO} {M : tM} {L : tL} {S : List Value} : rn ca C_X9_spread 146 L S M = rn ca C_X9_spread 47 L S M := (rn_at k_X9_spread_146).trans rfl
theorem k_X9_spread_149 : lk 149 C_X9_spread = some (.iinc 4 1, (0, 0, 0, 0)) := by decide +kernel
theorem s_X9_spread_149 {ca : Nat → List Value → tM → tO} {M : tM} {a0 a1 a2 a3 a5 : Option Value} {x : Int32} {S : List Value} : rn ca C_X9_spread 149 [a0, a1, a2, a3, some (.int x), a5] S M = rn ca C_X9_spread 152 [a0, a1, a2, a3, some (.int (x + iI 1)), a5] S M := (rn_at k_X9_spread_149).trans rfl
theorem k_X9_spread_152 : lk 152 C_X9_spread = some (.goto (-121), (31, 0, 0, 0)) := by decide +kernel
theorem s_X9_spread_152 {ca : Nat → List Value → tM → tO} {M : tM} {L : tL} {S : List Value} : rn ca C_X9_spread 152 L S M = rn ca C_X9_spread 31 L S M := (rn_at k_X9_spread_152).trans rfl
theorem k_X9_spread_155 : lk 155 C_X9_spread = some (.return_, (0, 0, 0, 0)) := by decide +kernel
theorem s_X9_spread_155 {ca : Nat → List Value → tM → tO} {M : tM} {L : tL} : rn ca C_X9_spread 155 L [] M = some (none, M) := (rn_at k_X9_spread_155).trans rfl
theorem k_X9_comesNearer_0 : lk 0 C_X9_comesNearer = some (.iload_n 1, (0, 0, 0, 0)) := by decide +kernel
theorem s_X9_comesNearer_0 {ca : Nat → List Value → tM → tO} {M : tM} {a0 a2 a3 : Option Value} {x : Int32} {S : List Value} : rn ca C_X9_comesNearer 0 [a0, some (.int x), a2, a3] S M = rn ca C_X9_comesNearer 1 [a0, some (.int x), a2, a3] (.int x :: S) M := (rn_at k_X9_comesNearer_0).trans rfl
theorem k_X9_comesNearer_1 : lk 1 C_X9_comesNearer = some (.invokestatic 73, (141, 1, 0, 100012)) := by decide +kernel
theorem s_X9_comesNearer_1 {ca : Nat → List Value → tM → tO} {M : tM} {L : tL} {v1 : Value} : rn ca C_X9_comesNearer 1 L [v1] M = rnk ca C_X9_comesNearer 4 L [] (ca m_X10_isDeskNumber [v1] M) := (rn_at k_X9_comesNearer_1).trans rfl
theorem k_X9_comesNearer_4 : lk 4 C_X9_comesNearer = some (.ifCond .eq 39, (43, 0, 0, 0)) := by decide +kernel
theorem s_X9_comesNearer_4 {ca : Nat → List Value → tM → tO} {M : tM} {L : tL} {x : Int32} {S : List Value} : rn ca C_X9_comesNearer 4 L (.int x :: S) M = if x = iI 0 then rn ca C_X9_comesNearer 43 L S M else rn ca C_X9_comesNearer 7 L S M := (rn_at k_X9_comesNearer_4).trans rnx_ite
theorem k_X9_comesNearer_7 : lk 7 C_X9_comesNearer = some (.iload_n 2, (0, 0, 0, 0)) := by decide +kernel
theorem s_X9_comesNearer_7 {ca : Nat → List Value → tM → tO} {M : tM} {a0 a1 a3 : Option Value} {x : Int32} {S : List Value} : rn ca C_X9_comesNearer 7 [a0, a1, some (.int x), a3] S M = rn ca C_X9_comesNearer 8 [a0, a1, some (.int x), a3] (.int x :: S) M := (rn_at k_X9_comesNearer_7).trans rfl
theorem k_X9_comesNearer_8 : lk 8 C_X9_comesNearer = some (.invokestatic 73, (141, 1, 0, 100012)) := by decide +kernel
theorem s_X9_comesNearer_8 {ca : Nat → List Value → tM → tO} {M : tM} {L : tL} {v1 : Value} : rn ca C_X9_comesNearer 8 L [v1] M = rnk ca C_X9_comesNearer 11 L [] (ca m_X10_isDeskNumber [v1] M) := (rn_at k_X9_comesNearer_8).trans rfl
theorem k_X9_comesNearer_11 : lk 11 C_X9_comesNearer = some (.ifCond .eq 32, (43, 0, 0, 0)) := by decide +kernel
theorem s_X9_comesNearer_11 {ca : Nat → List Value → tM → tO} {M : tM} {L : tL} {x : Int32} {S : List Value} : rn ca C_X9_comesNearer 11 L (.int x :: S) M = if x = iI 0 then rn ca C_X9_comesNearer 43 L S M else rn ca C_X9_comesNearer 14 L S M := (rn_at k_X9_comesNearer_11).trans rnx_ite
theorem k_X9_comesNearer_14 : lk 14 C_X9_comesNearer = some (.aload_n 0, (0, 0, 0, 0)) := by decide +kernel
theorem s_X9_comesNearer_14 {ca : Nat → List Value → tM → tO} {M : tM} {a1 a2 a3 : Option Value} {x : Nat} {S : List Value} : rn ca C_X9_comesNearer 14 [some (.ref x), a1, a2, a3] S M = rn ca C_X9_comesNearer 15 [some (.ref x), a1, a2, a3] (.ref x :: S) M := (rn_at k_X9_comesNearer_14).trans rfl
theorem k_X9_comesNearer_15 : lk 15 C_X9_comesNearer = some (.getfield 22, (9, 3, 0, 93)) := by decide +kernel
theorem s_X9_comesNearer_15 {ca : Nat → List Value → tM → tO} {M : tM} {L : tL} {b : Nat} {S : List Value} : rn ca C_X9_comesNearer 15 L (.ref b :: S) M = if clsO b = some 9 then rn ca C_X9_comesNearer 18 L (fv M b 3 :: S) M else none := (rn_at k_X9_comesNearer_15).trans rnx_ite
theorem k_X9_comesNearer_18 : lk 18 C_X9_comesNearer = some (.iload_n 1, (0, 0, 0, 0)) := by decide +kernel
theorem s_X9_comesNearer_18 {ca : Nat → List Value → tM → tO} {M : tM} {a0 a2 a3 : Option Value} {x : Int32} {S : List Value} : rn ca C_X9_comesNearer 18 [a0, some (.int x), a2, a3] S M = rn ca C_X9_comesNearer 19 [a0, some (.int x), a2, a3] (.int x :: S) M := (rn_at k_X9_comesNearer_18).trans rfl
theorem k_X9_comesNearer_19 : lk 19 C_X9_comesNearer = some (.iaload, (0, 0, 0, 0)) := by decide +kernel
theorem s_X9_comesNearer_19 {ca : Nat → List Value → tM → tO} {M : tM} {L : tL} {a : Nat} {i : Int32} {S : List Value} : rn ca C_X9_comesNearer 19 L (.int i :: .ref a :: S) M = if (akind a = 0 ∨ akind a = 6 ∨ akind a = 7) ∧ inb i (alen M a) then rn ca C_X9_comesNearer 20 L (.int (M.1 a i.toInt.toNat) :: S) M else none := (rn_at k_X9_comesNearer_19).trans rnx_ite
theorem k_X9_comesNearer_20 : lk 20 C_X9_comesNearer = some (.sipush 9999, (0, 0, 0, 0)) := by decide +kernel
theorem s_X9_comesNearer_20 {ca : Nat → List Value → tM → tO} {M : tM} {L : tL} {S : List Value} : rn ca C_X9_comesNearer 20 L S M = rn ca C_X9_comesNearer 23 L (.int (iI 9999) :: S) M := (rn_at k_X9_comesNearer_20).trans rfl
theorem k_X9_comesNearer_23 : lk 23 C_X9_comesNearer = some (.if_icmp .eq 20, (43, 0, 0, 0)) := by decide +kernel
theorem s_X9_comesNearer_23 {ca : Nat → List Value → tM → tO} {M : tM} {L : tL} {x y : Int32} {S : List Value} : rn ca C_X9_comesNearer 23 L (.int y :: .int x :: S) M = if x = y then rn ca C_X9_comesNearer 43 L S M else rn ca C_X9_comesNearer 26 L S M := (rn_at k_X9_comesNearer_23).trans rnx_ite
theorem k_X9_comesNearer_26 : lk 26 C_X9_comesNearer = some (.aload_n 0, (0, 0, 0, 0)) := by decide +kernel
theorem s_X9_comesNearer_26 {ca : Nat → List Value → tM → tO} {M : tM} {a1 a2 a3 : Option Value} {x : Nat} {S : List Value} : rn ca C_X9_comesNearer 26 [some (.ref x), a1, a2, a3] S M = rn ca C_X9_comesNearer 27 [some (.ref x), a1, a2, a3] (.ref x :: S) M := (rn_at k_X9_comesNearer_26).trans rfl
theorem k_X9_comesNearer_27 : lk 27 C_X9_comesNearer = some (.getfield 22, (9, 3, 0, 93)) := by decide +kernel
theorem s_X9_comesNearer_27 {ca : Nat → List Value → tM → tO} {M : tM} {L : tL} {b : Nat} {S : List Value} : rn ca C_X9_comesNearer 27 L (.ref b :: S) M = if clsO b = some 9 then rn ca C_X9_comesNearer 30 L (fv M b 3 :: S) M else none := (rn_at k_X9_comesNearer_27).trans rnx_ite
theorem k_X9_comesNearer_30 : lk 30 C_X9_comesNearer = some (.iload_n 1, (0, 0, 0, 0)) := by decide +kernel
theorem s_X9_comesNearer_30 {ca : Nat → List Value → tM → tO} {M : tM} {a0 a2 a3 : Option Value} {x : Int32} {S : List Value} : rn ca C_X9_comesNearer 30 [a0, some (.int x), a2, a3] S M = rn ca C_X9_comesNearer 31 [a0, some (.int x), a2, a3] (.int x :: S) M := (rn_at k_X9_comesNearer_30).trans rfl
theorem k_X9_comesNearer_31 : lk 31 C_X9_comesNearer = some (.iaload, (0, 0, 0, 0)) := by decide +kernel
theorem s_X9_comesNearer_31 {ca : Nat → List Value → tM → tO} {M : tM} {L : tL} {a : Nat} {i : Int32} {S : List Value} : rn ca C_X9_comesNearer 31 L (.int i :: .ref a :: S) M = if (akind a = 0 ∨ akind a = 6 ∨ akind a = 7) ∧ inb i (alen M a) then rn ca C_X9_comesNearer 32 L (.int (M.1 a i.toInt.toNat) :: S) M else none := (rn_at k_X9_comesNearer_31).trans rnx_ite
theorem k_X9_comesNearer_32 : lk 32 C_X9_comesNearer = some (.iload_n 3, (0, 0, 0, 0)) := by decide +kernel
theorem s_X9_comesNearer_32 {ca : Nat → List Value → tM → tO} {M : tM} {a0 a1 a2 : Option Value} {x : Int32} {S : List Value} : rn ca C_X9_comesNearer 32 [a0, a1, a2, some (.int x)] S M = rn ca C_X9_comesNearer 33 [a0, a1, a2, some (.int x)] (.int x :: S) M := (rn_at k_X9_comesNearer_32).trans rfl
theorem k_X9_comesNearer_33 : lk 33 C_X9_comesNearer = some (.iadd, (0, 0, 0, 0)) := by decide +kernel
theorem s_X9_comesNearer_33 {ca : Nat → List Value → tM → tO} {M : tM} {L : tL} {x y : Int32} {S : List Value} : rn ca C_X9_comesNearer 33 L (.int y :: .int x :: S) M = rn ca C_X9_comesNearer 34 L (.int (x + y) :: S) M := (rn_at k_X9_comesNearer_33).trans rfl
theorem k_X9_comesNearer_34 : lk 34 C_X9_comesNearer = some (.aload_n 0, (0, 0, 0, 0)) := by decide +kernel
theorem s_X9_comesNearer_34 {ca : Nat → List Value → tM → tO} {M : tM} {a1 a2 a3 : Option Value} {x : Nat} {S : List Value} : rn ca C_X9_comesNearer 34 [some (.ref x), a1, a2, a3] S M = rn ca C_X9_comesNearer 35 [some (.ref x), a1, a2, a3] (.ref x :: S) M := (rn_at k_X9_comesNearer_34).trans rfl
theorem k_X9_comesNearer_35 : lk 35 C_X9_comesNearer = some (.getfield 22, (9, 3, 0, 93)) := by decide +kernel
theorem s_X9_comesNearer_35 {ca : Nat → List Value → tM → tO} {M : tM} {L : tL} {b : Nat} {S : List Value} : rn ca C_X9_comesNearer 35 L (.ref b :: S) M = if clsO b = some 9 then rn ca C_X9_comesNearer 38 L (fv M b 3 :: S) M else none := (rn_at k_X9_comesNearer_35).trans rnx_ite
theorem k_X9_comesNearer_38 : lk 38 C_X9_comesNearer = some (.iload_n 2, (0, 0, 0, 0)) := by decide +kernel
theorem s_X9_comesNearer_38 {ca : Nat → List Value → tM → tO} {M : tM} {a0 a1 a3 : Option Value} {x : Int32} {S : List Value} : rn ca C_X9_comesNearer 38 [a0, a1, some (.int x), a3] S M = rn ca C_X9_comesNearer 39 [a0, a1, some (.int x), a3] (.int x :: S) M := (rn_at k_X9_comesNearer_38).trans rfl
theorem k_X9_comesNearer_39 : lk 39 C_X9_comesNearer = some (.iaload, (0, 0, 0, 0)) := by decide +kernel
theorem s_X9_comesNearer_39 {ca : Nat → List Value → tM → tO} {M : tM} {L : tL} {a : Nat} {i : Int32} {S : List Value} : rn ca C_X9_comesNearer 39 L (.int i :: .ref a :: S) M = if (akind a = 0 ∨ akind a = 6 ∨ akind a = 7) ∧ inb i (alen M a) then rn ca C_X9_comesNearer 40 L (.int (M.1 a i.toInt.toNat) :: S) M else none := (rn_at k_X9_comesNearer_39).trans rnx_ite
theorem k_X9_comesNearer_40 : lk 40 C_X9_comesNearer = some (.if_icmp .lt 5, (45, 0, 0, 0)) := by decide +kernel
theorem s_X9_comesNearer_40 {ca : Nat → List Value → tM → tO} {M : tM} {L : tL} {x y : Int32} {S : List Value} : rn ca C_X9_comesNearer 40 L (.int y :: .int x :: S) M = if x < y then rn ca C_X9_comesNearer 45 L S M else rn ca C_X9_comesNearer 43 L S M := (rn_at k_X9_comesNearer_40).trans rnx_ite
theorem k_X9_comesNearer_43 : lk 43 C_X9_comesNearer = some (.iconst 0, (0, 0, 0, 0)) := by decide +kernel
theorem s_X9_comesNearer_43 {ca : Nat → List Value → tM → tO} {M : tM} {L : tL} {S : List Value} : rn ca C_X9_comesNearer 43 L S M = rn ca C_X9_comesNearer 44 L (.int (iI 0) :: S) M := (rn_at k_X9_comesNearer_43).trans rfl
theorem k_X9_comesNearer_44 : lk 44 C_X9_comesNearer = some (.ireturn, (1, 0, 0, 0)) := by decide +kernel
theorem s_X9_comesNearer_44 {ca : Nat → List Value → tM → tO} {M : tM} {L : tL} {x : Int32} : rn ca C_X9_comesNearer 44 L [.int x] M = if x = iI 0 ∨ x = iI 1 then some (some (.int x), M) else none := (rn_at k_X9_comesNearer_44).trans rnx_ite
theorem k_X9_comesNearer_45 : lk 45 C_X9_comesNearer = some (.aload_n 0, (0, 0, 0, 0)) := by decide +kernel
theorem s_X9_comesNearer_45 {ca : Nat → List Value → tM → tO} {M : tM} {a1 a2 a3 : Option Value} {x : Nat} {S : List Value} : rn ca C_X9_comesNearer 45 [some (.ref x), a1, a2, a3] S M = rn ca C_X9_comesNearer 46 [some (.ref x), a1, a2, a3] (.ref x :: S) M := (rn_at k_X9_comesNearer_45).trans rfl
theorem k_X9_comesNearer_46 : lk 46 C_X9_comesNearer = some (.getfield 22, (9, 3, 0, 93)) := by decide +kernel
theorem s_X9_comesNearer_46 {ca : Nat → List Value → tM → tO} {M : tM} {L : tL} {b : Nat} {S : List Value} : rn ca C_X9_comesNearer 46 L (.ref b :: S) M = if clsO b = some 9 then rn ca C_X9_comesNearer 49 L (fv M b 3 :: S) M else none := (rn_at k_X9_comesNearer_46).trans rnx_ite
theorem k_X9_comesNearer_49 : lk 49 C_X9_comesNearer = some (.iload_n 2, (0, 0, 0, 0)) := by decide +kernel
theorem s_X9_comesNearer_49 {ca : Nat → List Value → tM → tO} {M : tM} {a0 a1 a3 : Option Value} {x : Int32} {S : List Value} : rn ca C_X9_comesNearer 49 [a0, a1, some (.int x), a3] S M = rn ca C_X9_comesNearer 50 [a0, a1, some (.int x), a3] (.int x :: S) M := (rn_at k_X9_comesNearer_49).trans rfl
theorem k_X9_comesNearer_50 : lk 50 C_X9_comesNearer = some (.aload_n 0, (0, 0, 0, 0)) := by decide +kernel
theorem s_X9_comesNearer_50 {ca : Nat → List Value → tM → tO} {M : tM} {a1 a2 a3 : Option Value} {x : Nat} {S : List Value} : rn ca C_X9_comesNearer 50 [some (.ref x), a1, a2, a3] S M = rn ca C_X9_comesNearer 51 [some (.ref x), a1, a2, a3] (.ref x :: S) M := (rn_at k_X9_comesNearer_50).trans rfl
theorem k_X9_comesNearer_51 : lk 51 C_X9_comesNearer = some (.getfield 22, (9, 3, 0, 93)) := by decide +kernel
theorem s_X9_comesNearer_51 {ca : Nat → List Value → tM → tO} {M : tM} {L : tL} {b : Nat} {S : List Value} : rn ca C_X9_comesNearer 51 L (.ref b :: S) M = if clsO b = some 9 then rn ca C_X9_comesNearer 54 L (fv M b 3 :: S) M else none := (rn_at k_X9_comesNearer_51).trans rnx_ite
theorem k_X9_comesNearer_54 : lk 54 C_X9_comesNearer = some (.iload_n 1, (0, 0, 0, 0)) := by decide +kernel
theorem s_X9_comesNearer_54 {ca : Nat → List Value → tM → tO} {M : tM} {a0 a2 a3 : Option Value} {x : Int32} {S : List Value} : rn ca C_X9_comesNearer 54 [a0, some (.int x), a2, a3] S M = rn ca C_X9_comesNearer 55 [a0, some (.int x), a2, a3] (.int x :: S) M := (rn_at k_X9_comesNearer_54).trans rfl
theorem k_X9_comesNearer_55 : lk 55 C_X9_comesNearer = some (.iaload, (0, 0, 0, 0)) := by decide +kernel
theorem s_X9_comesNearer_55 {ca : Nat → List Value → tM → tO} {M : tM} {L : tL} {a : Nat} {i : Int32} {S : List Value} : rn ca C_X9_comesNearer 55 L (.int i :: .ref a :: S) M = if (akind a = 0 ∨ akind a = 6 ∨ akind a = 7) ∧ inb i (alen M a) then rn ca C_X9_comesNearer 56 L (.int (M.1 a i.toInt.toNat) :: S) M else none := (rn_at k_X9_comesNearer_55).trans rnx_ite
theorem k_X9_comesNearer_56 : lk 56 C_X9_comesNearer = some (.iload_n 3, (0, 0, 0, 0)) := by decide +kernel
theorem s_X9_comesNearer_56 {ca : Nat → List Value → tM → tO} {M : tM} {a0 a1 a2 : Option Value} {x : Int32} {S : List Value} : rn ca C_X9_comesNearer 56 [a0, a1, a2, some (.int x)] S M = rn ca C_X9_comesNearer 57 [a0, a1, a2, some (.int x)] (.int x :: S) M := (rn_at k_X9_comesNearer_56).trans rfl
theorem k_X9_comesNearer_57 : lk 57 C_X9_comesNearer = some (.iadd, (0, 0, 0, 0)) := by decide +kernel
theorem s_X9_comesNearer_57 {ca : Nat → List Value → tM → tO} {M : tM} {L : tL} {x y : Int32} {S : List Value} : rn ca C_X9_comesNearer 57 L (.int y :: .int x :: S) M = rn ca C_X9_comesNearer 58 L (.int (x + y) :: S) M := (rn_at k_X9_comesNearer_57).trans rfl
theorem k_X9_comesNearer_58 : lk 58 C_X9_comesNearer = some (.iastore, (0, 0, 0, 0)) := by decide +kernel
theorem s_X9_comesNearer_58 {ca : Nat → List Value → tM → tO} {M : tM} {L : tL} {a : Nat} {i x : Int32} {S : List Value} : rn ca C_X9_comesNearer 58 L (.int x :: .int i :: .ref a :: S) M = if akind a = 0 ∧ inb i (alen M a) then rn ca C_X9_comesNearer 59 L S (sI M a i.toInt.toNat x) else none := (rn_at k_X9_comesNearer_58).trans rnx_ite
theorem k_X9_comesNearer_59 : lk 59 C_X9_comesNearer = some (.iconst 1, (0, 0, 0, 0)) := by decide +kernel
theorem s_X9_comesNearer_59 {ca : Nat → List Value → tM → tO} {M : tM} {L : tL} {S : List Value} : rn ca C_X9_comesNearer 59 L S M = rn ca C_X9_comesNearer 60 L (.int (iI 1) :: S) M := (rn_at k_X9_comesNearer_59).trans rfl
theorem k_X9_comesNearer_60 : lk 60 C_X9_comesNearer = some (.ireturn, (1, 0, 0, 0)) := by decide +kernel
theorem s_X9_comesNearer_60 {ca : Nat → List Value → tM → tO} {M : tM} {L : tL} {x : Int32} : rn ca C_X9_comesNearer 60 L [.int x] M = if x = iI 0 ∨ x = iI 1 then some (some (.int x), M) else none := (rn_at k_X9_comesNearer_60).trans rnx_ite
theorem k_X9_fillTable_0 : lk 0 C_X9_fillTable = some (.iconst 0, (0, 0, 0, 0)) := by decide +kernel
theorem s_X9_fillTable_0 {ca : Nat → List Value → tM → tO} {M : tM} {L : tL} {S : List Value} : rn ca C_X9_fillTable 0 L S M = rn ca C_X9_fillTable 1 L (.int (iI 0) :: S) M := (rn_at k_X9_fillTable_0).trans rfl
theorem k_X9_fillTable_1 : lk 1 C_X9_fillTable = some (.istore_n 2, (0, 0, 0, 0)) := by decide +kernel
theorem s_X9_fillTable_1 {ca : Nat → List Value → tM → tO} {M : tM} {a0 a1 a2 : Option Value} {x : Int32} {S : List Value} : rn ca C_X9_fillTable 1 [a0, a1, a2] (.int x :: S) M = rn ca C_X9_fillTable 2 [a0, a1, some (.int x)] S M := (rn_at k_X9_fillTable_1).trans rfl
theorem k_X9_fillTable_2 : lk 2 C_X9_fillTable = some (.iload_n 2, (0, 0, 0, 0)) := by decide +kernel
theorem s_X9_fillTable_2 {ca : Nat → List Value → tM → tO} {M : tM} {a0 a1 : Option Value} {x : Int32} {S : List Value} : rn ca C_X9_fillTable 2 [a0, a1, some (.int x)] S M = rn ca C_X9_fillTable 3 [a0, a1, some (.int x)] (.int x :: S) M := (rn_at k_X9_fillTable_2).trans rfl
theorem k_X9_fillTable_3 : lk 3 C_X9_fillTable = some (.aload_n 1, (0, 0, 0, 0)) := by decide +kernel
theorem s_X9_fillTable_3 {ca : Nat → List Value → tM → tO} {M : tM} {a0 a2 : Option Value} {x : Nat} {S : List Value} : rn ca C_X9_fillTable 3 [a0, some (.ref x), a2] S M = rn ca C_X9_fillTable 4 [a0, some (.ref x), a2] (.ref x :: S) M := (rn_at k_X9_fillTable_3).trans rfl
theorem k_X9_fillTable_4 : lk 4 C_X9_fillTable = some (.getfield 76, (4, 0, 0, 100003)) := by decide +kernel
theorem s_X9_fillTable_4 {ca : Nat → List Value → tM → tO} {M : tM} {L : tL} {b : Nat} {S : List Value} : rn ca C_X9_fillTable 4 L (.ref b :: S) M = if clsO b = some 4 then rn ca C_X9_fillTable 7 L (fv M b 0 :: S) M else none := (rn_at k_X9_fillTable_4).trans rnx_ite
theorem k_X9_fillTable_7 : lk 7 C_X9_fillTable = some (.if_icmp .ge 38, (45, 0, 0, 0)) := by decide +kernel
theorem s_X9_fillTable_7 {ca : Nat → List Value → tM → tO} {M : tM} {L : tL} {x y : Int32} {S : List Value} : rn ca C_X9_fillTable 7 L (.int y :: .int x :: S) M = if y ≤ x then rn ca C_X9_fillTable 45 L S M else rn ca C_X9_fillTable 10 L S M := (rn_at k_X9_fillTable_7).trans rnx_ite
theorem k_X9_fillTable_10 : lk 10 C_X9_fillTable = some (.iload_n 2, (0, 0, 0, 0)) := by decide +kernel
theorem s_X9_fillTable_10 {ca : Nat → List Value → tM → tO} {M : tM} {a0 a1 : Option Value} {x : Int32} {S : List Value} : rn ca C_X9_fillTable 10 [a0, a1, some (.int x)] S M = rn ca C_X9_fillTable 11 [a0, a1, some (.int x)] (.int x :: S) M := (rn_at k_X9_fillTable_10).trans rfl
theorem k_X9_fillTable_11 : lk 11 C_X9_fillTable = some (.bipush 8, (0, 0, 0, 0)) := by decide +kernel
theorem s_X9_fillTable_11 {ca : Nat → List Value → tM → tO} {M : tM} {L : tL} {S : List Value} : rn ca C_X9_fillTable 11 L S M = rn ca C_X9_fillTable 13 L (.int (iI 8) :: S) M := (rn_at k_X9_fillTable_11).trans rfl
theorem k_X9_fillTable_13 : lk 13 C_X9_fillTable = some (.if_icmp .ge 32, (45, 0, 0, 0)) := by decide +kernel
theorem s_X9_fillTable_13 {ca : Nat → List Value → tM → tO} {M : tM} {L : tL} {x y : Int32} {S : List Value} : rn ca C_X9_fillTable 13 L (.int y :: .int x :: S) M = if y ≤ x then rn ca C_X9_fillTable 45 L S M else rn ca C_X9_fillTable 16 L S M := (rn_at k_X9_fillTable_13).trans rnx_ite
theorem k_X9_fillTable_16 : lk 16 C_X9_fillTable = some (.aload_n 0, (0, 0, 0, 0)) := by decide +kernel
theorem s_X9_fillTable_16 {ca : Nat → List Value → tM → tO} {M : tM} {a1 a2 : Option Value} {x : Nat} {S : List Value} : rn ca C_X9_fillTable 16 [some (.ref x), a1, a2] S M = rn ca C_X9_fillTable 17 [some (.ref x), a1, a2] (.ref x :: S) M := (rn_at k_X9_fillTable_16).trans rfl
theorem k_X9_fillTable_17 : lk 17 C_X9_fillTable = some (.aload_n 1, (0, 0, 0, 0)) := by decide +kernel
theorem s_X9_fillTable_17 {ca : Nat → List Value → tM → tO} {M : tM} {a0 a2 : Option Value} {x : Nat} {S : List Value} : rn ca C_X9_fillTable 17 [a0, some (.ref x), a2] S M = rn ca C_X9_fillTable 18 [a0, some (.ref x), a2] (.ref x :: S) M := (rn_at k_X9_fillTable_17).trans rfl
theorem k_X9_fillTable_18 : lk 18 C_X9_fillTable = some (.iload_n 2, (0, 0, 0, 0)) := by decide +kernel
theorem s_X9_fillTable_18 {ca : Nat → List Value → tM → tO} {M : tM} {a0 a1 : Option Value} {x : Int32} {S : List Value} : rn ca C_X9_fillTable 18 [a0, a1, some (.int x)] S M = rn ca C_X9_fillTable 19 [a0, a1, some (.int x)] (.int x :: S) M := (rn_at k_X9_fillTable_18).trans rfl
theorem k_X9_fillTable_19 : lk 19 C_X9_fillTable = some (.invokevirtual 79, (82, 2, 9, 709)) := by decide +kernel
theorem s_X9_fillTable_19 {ca : Nat → List Value → tM → tO} {M : tM} {L : tL} {v1 v2 : Value} {b : Nat} : rn ca C_X9_fillTable 19 L [v2, v1, .ref b] M = if clsO b = some 9 then rnk ca C_X9_fillTable 22 L [] (ca m_X9_spread [.ref b, v1, v2] M) else none := (rn_at k_X9_fillTable_19).trans rnx_ite
theorem k_X9_fillTable_22 : lk 22 C_X9_fillTable = some (.aload_n 0, (0, 0, 0, 0)) := by decide +kernel
theorem s_X9_fillTable_22 {ca : Nat → List Value → tM → tO} {M : tM} {a1 a2 : Option Value} {x : Nat} {S : List Value} : rn ca C_X9_fillTable 22 [some (.ref x), a1, a2] S M = rn ca C_X9_fillTable 23 [some (.ref x), a1, a2] (.ref x :: S) M := (rn_at k_X9_fillTable_22).trans rfl
theorem k_X9_fillTable_23 : lk 23 C_X9_fillTable = some (.getfield 22, (9, 3, 0, 93)) := by decide +kernel
theorem s_X9_fillTable_23 {ca : Nat → List Value → tM → tO} {M : tM} {L : tL} {b : Nat} {S : List Value} : rn ca C_X9_fillTable 23 L (.ref b :: S) M = if clsO b = some 9 then rn ca C_X9_fillTable 26 L (fv M b 3 :: S) M else none := (rn_at k_X9_fillTable_23).trans rnx_ite
theorem k_X9_fillTable_26 : lk 26 C_X9_fillTable = some (.iconst 0, (0, 0, 0, 0)) := by decide +kernel
theorem s_X9_fillTable_26 {ca : Nat → List Value → tM → tO} {M : tM} {L : tL} {S : List Value} : rn ca C_X9_fillTable 26 L S M = rn ca C_X9_fillTable 27 L (.int (iI 0) :: S) M := (rn_at k_X9_fillTable_26).trans rfl
theorem k_X9_fillTable_27 : lk 27 C_X9_fillTable = some (.aload_n 0, (0, 0, 0, 0)) := by decide +kernel
theorem s_X9_fillTable_27 {ca : Nat → List Value → tM → tO} {M : tM} {a1 a2 : Option Value} {x : Nat} {S : List Value} : rn ca C_X9_fillTable 27 [some (.ref x), a1, a2] S M = rn ca C_X9_fillTable 28 [some (.ref x), a1, a2] (.ref x :: S) M := (rn_at k_X9_fillTable_27).trans rfl
theorem k_X9_fillTable_28 : lk 28 C_X9_fillTable = some (.getfield 30, (9, 5, 0, 96)) := by decide +kernel
theorem s_X9_fillTable_28 {ca : Nat → List Value → tM → tO} {M : tM} {L : tL} {b : Nat} {S : List Value} : rn ca C_X9_fillTable 28 L (.ref b :: S) M = if clsO b = some 9 then rn ca C_X9_fillTable 31 L (fv M b 5 :: S) M else none := (rn_at k_X9_fillTable_28).trans rnx_ite
theorem k_X9_fillTable_31 : lk 31 C_X9_fillTable = some (.iload_n 2, (0, 0, 0, 0)) := by decide +kernel
theorem s_X9_fillTable_31 {ca : Nat → List Value → tM → tO} {M : tM} {a0 a1 : Option Value} {x : Int32} {S : List Value} : rn ca C_X9_fillTable 31 [a0, a1, some (.int x)] S M = rn ca C_X9_fillTable 32 [a0, a1, some (.int x)] (.int x :: S) M := (rn_at k_X9_fillTable_31).trans rfl
theorem k_X9_fillTable_32 : lk 32 C_X9_fillTable = some (.aaload, (0, 0, 0, 0)) := by decide +kernel
theorem s_X9_fillTable_32 {ca : Nat → List Value → tM → tO} {M : tM} {L : tL} {a : Nat} {i : Int32} {S : List Value} : rn ca C_X9_fillTable 32 L (.int i :: .ref a :: S) M = if (akind a = 3 ∨ akind a = 4 ∨ akind a = 5) ∧ inb i (alen M a) then rn ca C_X9_fillTable 33 L (.ref (rfe a i.toInt.toNat) :: S) M else none := (rn_at k_X9_fillTable_32).trans rnx_ite
theorem k_X9_fillTable_33 : lk 33 C_X9_fillTable = some (.iconst 0, (0, 0, 0, 0)) := by decide +kernel
theorem s_X9_fillTable_33 {ca : Nat → List Value → tM → tO} {M : tM} {L : tL} {S : List Value} : rn ca C_X9_fillTable 33 L S M = rn ca C_X9_fillTable 34 L (.int (iI 0) :: S) M := (rn_at k_X9_fillTable_33).trans rfl
theorem k_X9_fillTable_34 : lk 34 C_X9_fillTable = some (.bipush 8, (0, 0, 0, 0)) := by decide +kernel
theorem s_X9_fillTable_34 {ca : Nat → List Value → tM → tO} {M : tM} {L : tL} {S : List Value} : rn ca C_X9_fillTable 34 L S M = rn ca C_X9_fillTable 36 L (.int (iI 8) :: S) M := (rn_at k_X9_fillTable_34).trans rfl
theorem k_X9_fillTable_36 : lk 36 C_X9_fillTable = some (.invokestatic 83, (0, 0, 1, 735)) := by decide +kernel
theorem s_X9_fillTable_36 {ca : Nat → List Value → tM → tO} {M : tM} {L : tL} {s d : Nat} {sp dp n : Int32} : rn ca C_X9_fillTable 36 L [.int n, .int dp, .ref d, .int sp, .ref s] M = if akind s = 0 ∧ akind d = 0 ∧ 0 ≤ sp.toInt ∧ 0 ≤ dp.toInt ∧ 0 ≤ n.toInt ∧ sp.toInt + n.toInt ≤ (alen M s : Int) ∧ dp.toInt + n.toInt ≤ (alen M d : Int) then rn ca C_X9_fillTable 39 L [] (rI M d (cpy (M.1 s) (M.1 d) sp.toInt.toNat dp.toInt.toNat n.toInt.toNat)) else if akind s = 2 ∧ akind d = 2 ∧ 0 ≤ sp.toInt ∧ 0 ≤ dp.toInt ∧ 0 ≤ n.toInt ∧ sp.toInt + n.toInt ≤ (alen M s : Int) ∧ dp.toInt + n.toInt ≤ (alen M d : Int) then rn ca C_X9_fillTable 39 L [] (rJ M d (cpy (M.2 s) (M.2 d) sp.toInt.toNat dp.toInt.toNat n.toInt.toNat)) else none := by rw [rn_at k_X9_fillTable_36]; simp only [ta, rnx_ite]; rfl
theorem k_X9_fillTable_39 : lk 39 C_X9_fillTable = some (.iinc 2 1, (0, 0, 0, 0)) := by decide +kernel
theorem s_X9_fillTable_39 {ca : Nat → List Value → tM → tO} {M : tM} {a0 a1 : Option Value} {x : Int32} {S : List Value} : rn ca C_X9_fillTable 39 [a0, a1, some (.int x)] S M = rn ca C_X9_fillTable 42 [a0, a1, some (.int (x + iI 1))] S M := (rn_at k_X9_fillTable_39).trans rfl
theorem k_X9_fillTable_42 : lk 42 C_X9_fillTable = some (.goto (-40), (2, 0, 0, 0)) := by decide +kernel
theorem s_X9_fillTable_42 {ca : Nat → List Value → tM → tO} {M : tM} {L : tL} {S : List Value} : rn ca C_X9_fillTable 42 L S M = rn ca C_X9_fillTable 2 L S M := (rn_at k_X9_fillTable_42).trans rfl
theorem k_X9_fillTable_45 : lk 45 C_X9_fillTable = some (.return_, (0, 0, 0, 0)) := by decide +kernel
theorem s_X9_fillTable_45 {ca : Nat → List Value → tM → tO} {M : tM} {L : tL} : rn ca C_X9_fillTable 45 L [] M = some (none, M) := (rn_at k_X9_fillTable_45).trans rfl
theorem k_X9_between_0 : lk 0 C_X9_between = some (.iload_n 1, (0, 0, 0, 0)) := by decide +kernel
theorem s_X9_between_0 {ca : Nat → List Value → tM → tO} {M : tM} {a0 a2 : Option Value} {x : Int32} {S : List Value} : rn ca C_X9_between 0 [a0, some (.int x), a2] S M = rn ca C_X9_between 1 [a0, some (.int x), a2] (.int x :: S) M := (rn_at k_X9_between_0).trans rfl
theorem k_X9_between_1 : lk 1 C_X9_between = some (.invokestatic 73, (141, 1, 0, 100012)) := by decide +kernel
theorem s_X9_between_1 {ca : Nat → List Value → tM → tO} {M : tM} {L : tL} {v1 : Value} : rn ca C_X9_between 1 L [v1] M = rnk ca C_X9_between 4 L [] (ca m_X10_isDeskNumber [v1] M) := (rn_at k_X9_between_1).trans rfl
theorem k_X9_between_4 : lk 4 C_X9_between = some (.ifCond .eq 21, (25, 0, 0, 0)) := by decide +kernel
theorem s_X9_between_4 {ca : Nat → List Value → tM → tO} {M : tM} {L : tL} {x : Int32} {S : List Value} : rn ca C_X9_between 4 L (.int x :: S) M = if x = iI 0 then rn ca C_X9_between 25 L S M else rn ca C_X9_between 7 L S M := (rn_at k_X9_between_4).trans rnx_ite
theorem k_X9_between_7 : lk 7 C_X9_between = some (.iload_n 2, (0, 0, 0, 0)) := by decide +kernel
theorem s_X9_between_7 {ca : Nat → List Value → tM → tO} {M : tM} {a0 a1 : Option Value} {x : Int32} {S : List Value} : rn ca C_X9_between 7 [a0, a1, some (.int x)] S M = rn ca C_X9_between 8 [a0, a1, some (.int x)] (.int x :: S) M := (rn_at k_X9_between_7).trans rfl
theorem k_X9_between_8 : lk 8 C_X9_between = some (.invokestatic 73, (141, 1, 0, 100012)) := by decide +kernel
theorem s_X9_between_8 {ca : Nat → List Value → tM → tO} {M : tM} {L : tL} {v1 : Value} : rn ca C_X9_between 8 L [v1] M = rnk ca C_X9_between 11 L [] (ca m_X10_isDeskNumber [v1] M) := (rn_at k_X9_between_8).trans rfl
theorem k_X9_between_11 : lk 11 C_X9_between = some (.ifCond .eq 14, (25, 0, 0, 0)) := by decide +kernel
theorem s_X9_between_11 {ca : Nat → List Value → tM → tO} {M : tM} {L : tL} {x : Int32} {S : List Value} : rn ca C_X9_between 11 L (.int x :: S) M = if x = iI 0 then rn ca C_X9_between 25 L S M else rn ca C_X9_between 14 L S M := (rn_at k_X9_between_11).trans rnx_ite
theorem k_X9_between_14 : lk 14 C_X9_between = some (.aload_n 0, (0, 0, 0, 0)) := by decide +kernel
theorem s_X9_between_14 {ca : Nat → List Value → tM → tO} {M : tM} {a1 a2 : Option Value} {x : Nat} {S : List Value} : rn ca C_X9_between 14 [some (.ref x), a1, a2] S M = rn ca C_X9_between 15 [some (.ref x), a1, a2] (.ref x :: S) M := (rn_at k_X9_between_14).trans rfl
theorem k_X9_between_15 : lk 15 C_X9_between = some (.getfield 30, (9, 5, 0, 96)) := by decide +kernel
theorem s_X9_between_15 {ca : Nat → List Value → tM → tO} {M : tM} {L : tL} {b : Nat} {S : List Value} : rn ca C_X9_between 15 L (.ref b :: S) M = if clsO b = some 9 then rn ca C_X9_between 18 L (fv M b 5 :: S) M else none := (rn_at k_X9_between_15).trans rnx_ite
theorem k_X9_between_18 : lk 18 C_X9_between = some (.iload_n 1, (0, 0, 0, 0)) := by decide +kernel
theorem s_X9_between_18 {ca : Nat → List Value → tM → tO} {M : tM} {a0 a2 : Option Value} {x : Int32} {S : List Value} : rn ca C_X9_between 18 [a0, some (.int x), a2] S M = rn ca C_X9_between 19 [a0, some (.int x), a2] (.int x :: S) M := (rn_at k_X9_between_18).trans rfl
theorem k_X9_between_19 : lk 19 C_X9_between = some (.aaload, (0, 0, 0, 0)) := by decide +kernel
theorem s_X9_between_19 {ca : Nat → List Value → tM → tO} {M : tM} {L : tL} {a : Nat} {i : Int32} {S : List Value} : rn ca C_X9_between 19 L (.int i :: .ref a :: S) M = if (akind a = 3 ∨ akind a = 4 ∨ akind a = 5) ∧ inb i (alen M a) then rn ca C_X9_between 20 L (.ref (rfe a i.toInt.toNat) :: S) M else none := (rn_at k_X9_between_19).trans rnx_ite
theorem k_X9_between_20 : lk 20 C_X9_between = some (.iload_n 2, (0, 0, 0, 0)) := by decide +kernel
theorem s_X9_between_20 {ca : Nat → List Value → tM → tO} {M : tM} {a0 a1 : Option Value} {x : Int32} {S : List Value} : rn ca C_X9_between 20 [a0, a1, some (.int x)] S M = rn ca C_X9_between 21 [a0, a1, some (.int x)] (.int x :: S) M := (rn_at k_X9_between_20).trans rfl
theorem k_X9_between_21 : lk 21 C_X9_between = some (.iaload, (0, 0, 0, 0)) := by decide +kernel
theorem s_X9_between_21 {ca : Nat → List Value → tM → tO} {M : tM} {L : tL} {a : Nat} {i : Int32} {S : List Value} : rn ca C_X9_between 21 L (.int i :: .ref a :: S) M = if (akind a = 0 ∨ akind a = 6 ∨ akind a = 7) ∧ inb i (alen M a) then rn ca C_X9_between 22 L (.int (M.1 a i.toInt.toNat) :: S) M else none := (rn_at k_X9_between_21).trans rnx_ite
theorem k_X9_between_22 : lk 22 C_X9_between = some (.goto 6, (28, 0, 0, 0)) := by decide +kernel
theorem s_X9_between_22 {ca : Nat → List Value → tM → tO} {M : tM} {L : tL} {S : List Value} : rn ca C_X9_between 22 L S M = rn ca C_X9_between 28 L S M := (rn_at k_X9_between_22).trans rfl
theorem k_X9_between_25 : lk 25 C_X9_between = some (.sipush 9999, (0, 0, 0, 0)) := by decide +kernel
theorem s_X9_between_25 {ca : Nat → List Value → tM → tO} {M : tM} {L : tL} {S : List Value} : rn ca C_X9_between 25 L S M = rn ca C_X9_between 28 L (.int (iI 9999) :: S) M := (rn_at k_X9_between_25).trans rfl
theorem k_X9_between_28 : lk 28 C_X9_between = some (.ireturn, (0, 0, 0, 0)) := by decide +kernel
theorem s_X9_between_28 {ca : Nat → List Value → tM → tO} {M : tM} {L : tL} {x : Int32} : rn ca C_X9_between 28 L [.int x] M = some (some (.int x), M) := (rn_at k_X9_between_28).trans rfl
theorem k_X9_minutesTo_0 : lk 0 C_X9_minutesTo = some (.aload_n 1, (0, 0, 0, 0)) := by decide +kernel
theorem s_X9_minutesTo_0 {ca : Nat → List Value → tM → tO} {M : tM} {a0 a2 a3 a4 : Option Value} {x : Nat} {S : List Value} : rn ca C_X9_minutesTo 0 [a0, some (.ref x), a2, a3, a4] S M = rn ca C_X9_minutesTo 1 [a0, some (.ref x), a2, a3, a4] (.ref x :: S) M := (rn_at k_X9_minutesTo_0).trans rfl
theorem k_X9_minutesTo_1 : lk 1 C_X9_minutesTo = some (.iload_n 2, (0, 0, 0, 0)) := by decide +kernel
theorem s_X9_minutesTo_1 {ca : Nat → List Value → tM → tO} {M : tM} {a0 a1 a3 a4 : Option Value} {x : Int32} {S : List Value} : rn ca C_X9_minutesTo 1 [a0, a1, some (.int x), a3, a4] S M = rn ca C_X9_minutesTo 2 [a0, a1, some (.int x), a3, a4] (.int x :: S) M := (rn_at k_X9_minutesTo_1).trans rfl
theorem k_X9_minutesTo_2 : lk 2 C_X9_minutesTo = some (.invokevirtual 89, (20, 1, 4, 699)) := by decide +kernel
theorem s_X9_minutesTo_2 {ca : Nat → List Value → tM → tO} {M : tM} {L : tL} {v1 : Value} {b : Nat} : rn ca C_X9_minutesTo 2 L [v1, .ref b] M = if clsO b = some 4 then rnk ca C_X9_minutesTo 5 L [] (ca m_X4_hasCapsule [.ref b, v1] M) else none := (rn_at k_X9_minutesTo_2).trans rnx_ite
theorem k_X9_minutesTo_5 : lk 5 C_X9_minutesTo = some (.ifCond .ne 5, (10, 0, 0, 0)) := by decide +kernel
theorem s_X9_minutesTo_5 {ca : Nat → List Value → tM → tO} {M : tM} {L : tL} {x : Int32} {S : List Value} : rn ca C_X9_minutesTo 5 L (.int x :: S) M = if ¬ x = iI 0 then rn ca C_X9_minutesTo 10 L S M else rn ca C_X9_minutesTo 8 L S M := (rn_at k_X9_minutesTo_5).trans rnx_ite
theorem k_X9_minutesTo_8 : lk 8 C_X9_minutesTo = some (.iconst (-1), (0, 0, 0, 0)) := by decide +kernel
theorem s_X9_minutesTo_8 {ca : Nat → List Value → tM → tO} {M : tM} {L : tL} {S : List Value} : rn ca C_X9_minutesTo 8 L S M = rn ca C_X9_minutesTo 9 L (.int (iI (-1)) :: S) M := (rn_at k_X9_minutesTo_8).trans rfl
theorem k_X9_minutesTo_9 : lk 9 C_X9_minutesTo = some (.ireturn, (0, 0, 0, 0)) := by decide +kernel
theorem s_X9_minutesTo_9 {ca : Nat → List Value → tM → tO} {M : tM} {L : tL} {x : Int32} : rn ca C_X9_minutesTo 9 L [.int x] M = some (some (.int x), M) := (rn_at k_X9_minutesTo_9).trans rfl
theorem k_X9_minutesTo_10 : lk 10 C_X9_minutesTo = some (.aload_n 0, (0, 0, 0, 0)) := by decide +kernel
theorem s_X9_minutesTo_10 {ca : Nat → List Value → tM → tO} {M : tM} {a1 a2 a3 a4 : Option Value} {x : Nat} {S : List Value} : rn ca C_X9_minutesTo 10 [some (.ref x), a1, a2, a3, a4] S M = rn ca C_X9_minutesTo 11 [some (.ref x), a1, a2, a3, a4] (.ref x :: S) M := (rn_at k_X9_minutesTo_10).trans rfl
theorem k_X9_minutesTo_11 : lk 11 C_X9_minutesTo = some (.aload_n 1, (0, 0, 0, 0)) := by decide +kernel
theorem s_X9_minutesTo_11 {ca : Nat → List Value → tM → tO} {M : tM} {a0 a2 a3 a4 : Option Value} {x : Nat} {S : List Value} : rn ca C_X9_minutesTo 11 [a0, some (.ref x), a2, a3, a4] S M = rn ca C_X9_minutesTo 12 [a0, some (.ref x), a2, a3, a4] (.ref x :: S) M := (rn_at k_X9_minutesTo_11).trans rfl
theorem k_X9_minutesTo_12 : lk 12 C_X9_minutesTo = some (.iload_n 2, (0, 0, 0, 0)) := by decide +kernel
theorem s_X9_minutesTo_12 {ca : Nat → List Value → tM → tO} {M : tM} {a0 a1 a3 a4 : Option Value} {x : Int32} {S : List Value} : rn ca C_X9_minutesTo 12 [a0, a1, some (.int x), a3, a4] S M = rn ca C_X9_minutesTo 13 [a0, a1, some (.int x), a3, a4] (.int x :: S) M := (rn_at k_X9_minutesTo_12).trans rfl
theorem k_X9_minutesTo_13 : lk 13 C_X9_minutesTo = some (.iload 4, (0, 0, 0, 0)) := by decide +kernel
theorem s_X9_minutesTo_13 {ca : Nat → List Value → tM → tO} {M : tM} {a0 a1 a2 a3 : Option Value} {x : Int32} {S : List Value} : rn ca C_X9_minutesTo 13 [a0, a1, a2, a3, some (.int x)] S M = rn ca C_X9_minutesTo 15 [a0, a1, a2, a3, some (.int x)] (.int x :: S) M := (rn_at k_X9_minutesTo_13).trans rfl
theorem k_X9_minutesTo_15 : lk 15 C_X9_minutesTo = some (.invokevirtual 92, (79, 3, 9, 700)) := by decide +kernel
theorem s_X9_minutesTo_15 {ca : Nat → List Value → tM → tO} {M : tM} {L : tL} {v1 v2 v3 : Value} {b : Nat} : rn ca C_X9_minutesTo 15 L [v3, v2, v1, .ref b] M = if clsO b = some 9 then rnk ca C_X9_minutesTo 18 L [] (ca m_X9_prepareFor [.ref b, v1, v2, v3] M) else none := (rn_at k_X9_minutesTo_15).trans rnx_ite
theorem k_X9_minutesTo_18 : lk 18 C_X9_minutesTo = some (.aload_n 0, (0, 0, 0, 0)) := by decide +kernel
theorem s_X9_minutesTo_18 {ca : Nat → List Value → tM → tO} {M : tM} {a1 a2 a3 a4 : Option Value} {x : Nat} {S : List Value} : rn ca C_X9_minutesTo 18 [some (.ref x), a1, a2, a3, a4] S M = rn ca C_X9_minutesTo 19 [some (.ref x), a1, a2, a3, a4] (.ref x :: S) M := (rn_at k_X9_minutesTo_18).trans rfl
theorem k_X9_minutesTo_19 : lk 19 C_X9_minutesTo = some (.aload_n 1, (0, 0, 0, 0)) := by decide +kernel
theorem s_X9_minutesTo_19 {ca : Nat → List Value → tM → tO} {M : tM} {a0 a2 a3 a4 : Option Value} {x : Nat} {S : List Value} : rn ca C_X9_minutesTo 19 [a0, some (.ref x), a2, a3, a4] S M = rn ca C_X9_minutesTo 20 [a0, some (.ref x), a2, a3, a4] (.ref x :: S) M := (rn_at k_X9_minutesTo_19).trans rfl
theorem k_X9_minutesTo_20 : lk 20 C_X9_minutesTo = some (.aload_n 1, (0, 0, 0, 0)) := by decide +kernel
theorem s_X9_minutesTo_20 {ca : Nat → List Value → tM → tO} {M : tM} {a0 a2 a3 a4 : Option Value} {x : Nat} {S : List Value} : rn ca C_X9_minutesTo 20 [a0, some (.ref x), a2, a3, a4] S M = rn ca C_X9_minutesTo 21 [a0, some (.ref x), a2, a3, a4] (.ref x :: S) M := (rn_at k_X9_minutesTo_20).trans rfl
theorem k_X9_minutesTo_21 : lk 21 C_X9_minutesTo = some (.getfield 96, (4, 12, 0, 100031)) := by decide +kernel
theorem s_X9_minutesTo_21 {ca : Nat → List Value → tM → tO} {M : tM} {L : tL} {b : Nat} {S : List Value} : rn ca C_X9_minutesTo 21 L (.ref b :: S) M = if clsO b = some 4 then rn ca C_X9_minutesTo 24 L (fv M b 12 :: S) M else none := (rn_at k_X9_minutesTo_21).trans rnx_ite
theorem k_X9_minutesTo_24 : lk 24 C_X9_minutesTo = some (.iload_n 2, (0, 0, 0, 0)) := by decide +kernel
theorem s_X9_minutesTo_24 {ca : Nat → List Value → tM → tO} {M : tM} {a0 a1 a3 a4 : Option Value} {x : Int32} {S : List Value} : rn ca C_X9_minutesTo 24 [a0, a1, some (.int x), a3, a4] S M = rn ca C_X9_minutesTo 25 [a0, a1, some (.int x), a3, a4] (.int x :: S) M := (rn_at k_X9_minutesTo_24).trans rfl
theorem k_X9_minutesTo_25 : lk 25 C_X9_minutesTo = some (.iaload, (0, 0, 0, 0)) := by decide +kernel
theorem s_X9_minutesTo_25 {ca : Nat → List Value → tM → tO} {M : tM} {L : tL} {a : Nat} {i : Int32} {S : List Value} : rn ca C_X9_minutesTo 25 L (.int i :: .ref a :: S) M = if (akind a = 0 ∨ akind a = 6 ∨ akind a = 7) ∧ inb i (alen M a) then rn ca C_X9_minutesTo 26 L (.int (M.1 a i.toInt.toNat) :: S) M else none := (rn_at k_X9_minutesTo_25).trans rnx_ite
theorem k_X9_minutesTo_26 : lk 26 C_X9_minutesTo = some (.invokevirtual 79, (82, 2, 9, 709)) := by decide +kernel
theorem s_X9_minutesTo_26 {ca : Nat → List Value → tM → tO} {M : tM} {L : tL} {v1 v2 : Value} {b : Nat} : rn ca C_X9_minutesTo 26 L [v2, v1, .ref b] M = if clsO b = some 9 then rnk ca C_X9_minutesTo 29 L [] (ca m_X9_spread [.ref b, v1, v2] M) else none := (rn_at k_X9_minutesTo_26).trans rnx_ite
theorem k_X9_minutesTo_29 : lk 29 C_X9_minutesTo = some (.aload_n 0, (0, 0, 0, 0)) := by decide +kernel
theorem s_X9_minutesTo_29 {ca : Nat → List Value → tM → tO} {M : tM} {a1 a2 a3 a4 : Option Value} {x : Nat} {S : List Value} : rn ca C_X9_minutesTo 29 [some (.ref x), a1, a2, a3, a4] S M = rn ca C_X9_minutesTo 30 [some (.ref x), a1, a2, a3, a4] (.ref x :: S) M := (rn_at k_X9_minutesTo_29).trans rfl
theorem k_X9_minutesTo_30 : lk 30 C_X9_minutesTo = some (.aload_n 1, (0, 0, 0, 0)) := by decide +kernel
theorem s_X9_minutesTo_30 {ca : Nat → List Value → tM → tO} {M : tM} {a0 a2 a3 a4 : Option Value} {x : Nat} {S : List Value} : rn ca C_X9_minutesTo 30 [a0, some (.ref x), a2, a3, a4] S M = rn ca C_X9_minutesTo 31 [a0, some (.ref x), a2, a3, a4] (.ref x :: S) M := (rn_at k_X9_minutesTo_30).trans rfl
theorem k_X9_minutesTo_31 : lk 31 C_X9_minutesTo = some (.iload_n 3, (0, 0, 0, 0)) := by decide +kernel
theorem s_X9_minutesTo_31 {ca : Nat → List Value → tM → tO} {M : tM} {a0 a1 a2 a4 : Option Value} {x : Int32} {S : List Value} : rn ca C_X9_minutesTo 31 [a0, a1, a2, some (.int x), a4] S M = rn ca C_X9_minutesTo 32 [a0, a1, a2, some (.int x), a4] (.int x :: S) M := (rn_at k_X9_minutesTo_31).trans rfl
theorem k_X9_minutesTo_32 : lk 32 C_X9_minutesTo = some (.invokevirtual 99, (88, 2, 9, 723)) := by decide +kernel
theorem s_X9_minutesTo_32 {ca : Nat → List Value → tM → tO} {M : tM} {L : tL} {v1 v2 : Value} {b : Nat} : rn ca C_X9_minutesTo 32 L [v2, v1, .ref b] M = if clsO b = some 9 then rnk ca C_X9_minutesTo 35 L [] (ca m_X9_reached [.ref b, v1, v2] M) else none := (rn_at k_X9_minutesTo_32).trans rnx_ite
theorem k_X9_minutesTo_35 : lk 35 C_X9_minutesTo = some (.ireturn, (0, 0, 0, 0)) := by decide +kernel
theorem s_X9_minutesTo_35 {ca : Nat → List Value → tM → tO} {M : tM} {L : tL} {x : Int32} : rn ca C_X9_minutesTo 35 L [.int x] M = some (some (.int x), M) := (rn_at k_X9_minutesTo_35).trans rfl
theorem k_X9_stepsTo_0 : lk 0 C_X9_stepsTo = some (.aload_n 1, (0, 0, 0, 0)) := by decide +kernel
theorem s_X9_stepsTo_0 {ca : Nat → List Value → tM → tO} {M : tM} {a0 a2 a3 : Option Value} {x : Nat} {S : List Value} : rn ca C_X9_stepsTo 0 [a0, some (.ref x), a2, a3] S M = rn ca C_X9_stepsTo 1 [a0, some (.ref x), a2, a3] (.ref x :: S) M := (rn_at k_X9_stepsTo_0).trans rfl
theorem k_X9_stepsTo_1 : lk 1 C_X9_stepsTo = some (.iload_n 2, (0, 0, 0, 0)) := by decide +kernel
theorem s_X9_stepsTo_1 {ca : Nat → List Value → tM → tO} {M : tM} {a0 a1 a3 : Option Value} {x : Int32} {S : List Value} : rn ca C_X9_stepsTo 1 [a0, a1, some (.int x), a3] S M = rn ca C_X9_stepsTo 2 [a0, a1, some (.int x), a3] (.int x :: S) M := (rn_at k_X9_stepsTo_1).trans rfl
theorem k_X9_stepsTo_2 : lk 2 C_X9_stepsTo = some (.invokevirtual 89, (20, 1, 4, 699)) := by decide +kernel
theorem s_X9_stepsTo_2 {ca : Nat → List Value → tM → tO} {M : tM} {L : tL} {v1 : Value} {b : Nat} : rn ca C_X9_stepsTo 2 L [v1, .ref b] M = if clsO b = some 4 then rnk ca C_X9_stepsTo 5 L [] (ca m_X4_hasCapsule [.ref b, v1] M) else none := (rn_at k_X9_stepsTo_2).trans rnx_ite
theorem k_X9_stepsTo_5 : lk 5 C_X9_stepsTo = some (.ifCond .ne 5, (10, 0, 0, 0)) := by decide +kernel
theorem s_X9_stepsTo_5 {ca : Nat → List Value → tM → tO} {M : tM} {L : tL} {x : Int32} {S : List Value} : rn ca C_X9_stepsTo 5 L (.int x :: S) M = if ¬ x = iI 0 then rn ca C_X9_stepsTo 10 L S M else rn ca C_X9_stepsTo 8 L S M := (rn_at k_X9_stepsTo_5).trans rnx_ite
theorem k_X9_stepsTo_8 : lk 8 C_X9_stepsTo = some (.iconst (-1), (0, 0, 0, 0)) := by decide +kernel
theorem s_X9_stepsTo_8 {ca : Nat → List Value → tM → tO} {M : tM} {L : tL} {S : List Value} : rn ca C_X9_stepsTo 8 L S M = rn ca C_X9_stepsTo 9 L (.int (iI (-1)) :: S) M := (rn_at k_X9_stepsTo_8).trans rfl
theorem k_X9_stepsTo_9 : lk 9 C_X9_stepsTo = some (.ireturn, (0, 0, 0, 0)) := by decide +kernel
theorem s_X9_stepsTo_9 {ca : Nat → List Value → tM → tO} {M : tM} {L : tL} {x : Int32} : rn ca C_X9_stepsTo 9 L [.int x] M = some (some (.int x), M) := (rn_at k_X9_stepsTo_9).trans rfl
theorem k_X9_stepsTo_10 : lk 10 C_X9_stepsTo = some (.aload_n 0, (0, 0, 0, 0)) := by decide +kernel
theorem s_X9_stepsTo_10 {ca : Nat → List Value → tM → tO} {M : tM} {a1 a2 a3 : Option Value} {x : Nat} {S : List Value} : rn ca C_X9_stepsTo 10 [some (.ref x), a1, a2, a3] S M = rn ca C_X9_stepsTo 11 [some (.ref x), a1, a2, a3] (.ref x :: S) M := (rn_at k_X9_stepsTo_10).trans rfl
theorem k_X9_stepsTo_11 : lk 11 C_X9_stepsTo = some (.aload_n 1, (0, 0, 0, 0)) := by decide +kernel
theorem s_X9_stepsTo_11 {ca : Nat → List Value → tM → tO} {M : tM} {a0 a2 a3 : Option Value} {x : Nat} {S : List Value} : rn ca C_X9_stepsTo 11 [a0, some (.ref x), a2, a3] S M = rn ca C_X9_stepsTo 12 [a0, some (.ref x), a2, a3] (.ref x :: S) M := (rn_at k_X9_stepsTo_11).trans rfl
theorem k_X9_stepsTo_12 : lk 12 C_X9_stepsTo = some (.iload_n 2, (0, 0, 0, 0)) := by decide +kernel
theorem s_X9_stepsTo_12 {ca : Nat → List Value → tM → tO} {M : tM} {a0 a1 a3 : Option Value} {x : Int32} {S : List Value} : rn ca C_X9_stepsTo 12 [a0, a1, some (.int x), a3] S M = rn ca C_X9_stepsTo 13 [a0, a1, some (.int x), a3] (.int x :: S) M := (rn_at k_X9_stepsTo_12).trans rfl
theorem k_X9_stepsTo_13 : lk 13 C_X9_stepsTo = some (.aload_n 1, (0, 0, 0, 0)) := by decide +kernel
theorem s_X9_stepsTo_13 {ca : Nat → List Value → tM → tO} {M : tM} {a0 a2 a3 : Option Value} {x : Nat} {S : List Value} : rn ca C_X9_stepsTo 13 [a0, some (.ref x), a2, a3] S M = rn ca C_X9_stepsTo 14 [a0, some (.ref x), a2, a3] (.ref x :: S) M := (rn_at k_X9_stepsTo_13).trans rfl
theorem k_X9_stepsTo_14 : lk 14 C_X9_stepsTo = some (.getfield 103, (4, 13, 0, 100033)) := by decide +kernel
theorem s_X9_stepsTo_14 {ca : Nat → List Value → tM → tO} {M : tM} {L : tL} {b : Nat} {S : List Value} : rn ca C_X9_stepsTo 14 L (.ref b :: S) M = if clsO b = some 4 then rn ca C_X9_stepsTo 17 L (fv M b 13 :: S) M else none := (rn_at k_X9_stepsTo_14).trans rnx_ite
theorem k_X9_stepsTo_17 : lk 17 C_X9_stepsTo = some (.invokevirtual 92, (79, 3, 9, 700)) := by decide +kernel
theorem s_X9_stepsTo_17 {ca : Nat → List Value → tM → tO} {M : tM} {L : tL} {v1 v2 v3 : Value} {b : Nat} : rn ca C_X9_stepsTo 17 L [v3, v2, v1, .ref b] M = if clsO b = some 9 then rnk ca C_X9_stepsTo 20 L [] (ca m_X9_prepareFor [.ref b, v1, v2, v3] M) else none := (rn_at k_X9_stepsTo_17).trans rnx_ite
theorem k_X9_stepsTo_20 : lk 20 C_X9_stepsTo = some (.aload_n 0, (0, 0, 0, 0)) := by decide +kernel
theorem s_X9_stepsTo_20 {ca : Nat → List Value → tM → tO} {M : tM} {a1 a2 a3 : Option Value} {x : Nat} {S : List Value} : rn ca C_X9_stepsTo 20 [some (.ref x), a1, a2, a3] S M = rn ca C_X9_stepsTo 21 [some (.ref x), a1, a2, a3] (.ref x :: S) M := (rn_at k_X9_stepsTo_20).trans rfl
theorem k_X9_stepsTo_21 : lk 21 C_X9_stepsTo = some (.getfield 9, (9, 0, 0, 89)) := by decide +kernel
theorem s_X9_stepsTo_21 {ca : Nat → List Value → tM → tO} {M : tM} {L : tL} {b : Nat} {S : List Value} : rn ca C_X9_stepsTo 21 L (.ref b :: S) M = if clsO b = some 9 then rn ca C_X9_stepsTo 24 L (fv M b 0 :: S) M else none := (rn_at k_X9_stepsTo_21).trans rnx_ite
theorem k_X9_stepsTo_24 : lk 24 C_X9_stepsTo = some (.iconst 1, (0, 0, 0, 0)) := by decide +kernel
theorem s_X9_stepsTo_24 {ca : Nat → List Value → tM → tO} {M : tM} {L : tL} {S : List Value} : rn ca C_X9_stepsTo 24 L S M = rn ca C_X9_stepsTo 25 L (.int (iI 1) :: S) M := (rn_at k_X9_stepsTo_24).trans rfl
theorem k_X9_stepsTo_25 : lk 25 C_X9_stepsTo = some (.invokestatic 54, (241, 2, 0, 713)) := by decide +kernel
theorem s_X9_stepsTo_25 {ca : Nat → List Value → tM → tO} {M : tM} {L : tL} {v1 v2 : Value} : rn ca C_X9_stepsTo 25 L [v2, v1] M = rnk ca C_X9_stepsTo 28 L [] (ca m_J7_fill_53178 [v1, v2] M) := (rn_at k_X9_stepsTo_25).trans rfl
theorem k_X9_stepsTo_28 : lk 28 C_X9_stepsTo = some (.aload_n 0, (0, 0, 0, 0)) := by decide +kernel
theorem s_X9_stepsTo_28 {ca : Nat → List Value → tM → tO} {M : tM} {a1 a2 a3 : Option Value} {x : Nat} {S : List Value} : rn ca C_X9_stepsTo 28 [some (.ref x), a1, a2, a3] S M = rn ca C_X9_stepsTo 29 [some (.ref x), a1, a2, a3] (.ref x :: S) M := (rn_at k_X9_stepsTo_28).trans rfl
theorem k_X9_stepsTo_29 : lk 29 C_X9_stepsTo = some (.aload_n 1, (0, 0, 0, 0)) := by decide +kernel
theorem s_X9_stepsTo_29 {ca : Nat → List Value → tM → tO} {M : tM} {a0 a2 a3 : Option Value} {x : Nat} {S : List Value} : rn ca C_X9_stepsTo 29 [a0, some (.ref x), a2, a3] S M = rn ca C_X9_stepsTo 30 [a0, some (.ref x), a2, a3] (.ref x :: S) M := (rn_at k_X9_stepsTo_29).trans rfl
theorem k_X9_stepsTo_30 : lk 30 C_X9_stepsTo = some (.aload_n 1, (0, 0, 0, 0)) := by decide +kernel
theorem s_X9_stepsTo_30 {ca : Nat → List Value → tM → tO} {M : tM} {a0 a2 a3 : Option Value} {x : Nat} {S : List Value} : rn ca C_X9_stepsTo 30 [a0, some (.ref x), a2, a3] S M = rn ca C_X9_stepsTo 31 [a0, some (.ref x), a2, a3] (.ref x :: S) M := (rn_at k_X9_stepsTo_30).trans rfl
theorem k_X9_stepsTo_31 : lk 31 C_X9_stepsTo = some (.getfield 96, (4, 12, 0, 100031)) := by decide +kernel
theorem s_X9_stepsTo_31 {ca : Nat → List Value → tM → tO} {M : tM} {L : tL} {b : Nat} {S : List Value} : rn ca C_X9_stepsTo 31 L (.ref b :: S) M = if clsO b = some 4 then rn ca C_X9_stepsTo 34 L (fv M b 12 :: S) M else none := (rn_at k_X9_stepsTo_31).trans rnx_ite
theorem k_X9_stepsTo_34 : lk 34 C_X9_stepsTo = some (.iload_n 2, (0, 0, 0, 0)) := by decide +kernel
theorem s_X9_stepsTo_34 {ca : Nat → List Value → tM → tO} {M : tM} {a0 a1 a3 : Option Value} {x : Int32} {S : List Value} : rn ca C_X9_stepsTo 34 [a0, a1, some (.int x), a3] S M = rn ca C_X9_stepsTo 35 [a0, a1, some (.int x), a3] (.int x :: S) M := (rn_at k_X9_stepsTo_34).trans rfl
theorem k_X9_stepsTo_35 : lk 35 C_X9_stepsTo = some (.iaload, (0, 0, 0, 0)) := by decide +kernel
theorem s_X9_stepsTo_35 {ca : Nat → List Value → tM → tO} {M : tM} {L : tL} {a : Nat} {i : Int32} {S : List Value} : rn ca C_X9_stepsTo 35 L (.int i :: .ref a :: S) M = if (akind a = 0 ∨ akind a = 6 ∨ akind a = 7) ∧ inb i (alen M a) then rn ca C_X9_stepsTo 36 L (.int (M.1 a i.toInt.toNat) :: S) M else none := (rn_at k_X9_stepsTo_35).trans rnx_ite
theorem k_X9_stepsTo_36 : lk 36 C_X9_stepsTo = some (.invokevirtual 79, (82, 2, 9, 709)) := by decide +kernel
theorem s_X9_stepsTo_36 {ca : Nat → List Value → tM → tO} {M : tM} {L : tL} {v1 v2 : Value} {b : Nat} : rn ca C_X9_stepsTo 36 L [v2, v1, .ref b] M = if clsO b = some 9 then rnk ca C_X9_stepsTo 39 L [] (ca m_X9_spread [.ref b, v1, v2] M) else none := (rn_at k_X9_stepsTo_36).trans rnx_ite
theorem k_X9_stepsTo_39 : lk 39 C_X9_stepsTo = some (.aload_n 0, (0, 0, 0, 0)) := by decide +kernel
theorem s_X9_stepsTo_39 {ca : Nat → List Value → tM → tO} {M : tM} {a1 a2 a3 : Option Value} {x : Nat} {S : List Value} : rn ca C_X9_stepsTo 39 [some (.ref x), a1, a2, a3] S M = rn ca C_X9_stepsTo 40 [some (.ref x), a1, a2, a3] (.ref x :: S) M := (rn_at k_X9_stepsTo_39).trans rfl
theorem k_X9_stepsTo_40 : lk 40 C_X9_stepsTo = some (.aload_n 1, (0, 0, 0, 0)) := by decide +kernel
theorem s_X9_stepsTo_40 {ca : Nat → List Value → tM → tO} {M : tM} {a0 a2 a3 : Option Value} {x : Nat} {S : List Value} : rn ca C_X9_stepsTo 40 [a0, some (.ref x), a2, a3] S M = rn ca C_X9_stepsTo 41 [a0, some (.ref x), a2, a3] (.ref x :: S) M := (rn_at k_X9_stepsTo_40).trans rfl
theorem k_X9_stepsTo_41 : lk 41 C_X9_stepsTo = some (.iload_n 3, (0, 0, 0, 0)) := by decide +kernel
theorem s_X9_stepsTo_41 {ca : Nat → List Value → tM → tO} {M : tM} {a0 a1 a2 : Option Value} {x : Int32} {S : List Value} : rn ca C_X9_stepsTo 41 [a0, a1, a2, some (.int x)] S M = rn ca C_X9_stepsTo 42 [a0, a1, a2, some (.int x)] (.int x :: S) M := (rn_at k_X9_stepsTo_41).trans rfl
theorem k_X9_stepsTo_42 : lk 42 C_X9_stepsTo = some (.invokevirtual 99, (88, 2, 9, 723)) := by decide +kernel
theorem s_X9_stepsTo_42 {ca : Nat → List Value → tM → tO} {M : tM} {L : tL} {v1 v2 : Value} {b : Nat} : rn ca C_X9_stepsTo 42 L [v2, v1, .ref b] M = if clsO b = some 9 then rnk ca C_X9_stepsTo 45 L [] (ca m_X9_reached [.ref b, v1, v2] M) else none := (rn_at k_X9_stepsTo_42).trans rnx_ite
theorem k_X9_stepsTo_45 : lk 45 C_X9_stepsTo = some (.ireturn, (0, 0, 0, 0)) := by decide +kernel
theorem s_X9_stepsTo_45 {ca : Nat → List Value → tM → tO} {M : tM} {L : tL} {x : Int32} : rn ca C_X9_stepsTo 45 L [.int x] M = some (some (.int x), M) := (rn_at k_X9_stepsTo_45).trans rfl
theorem k_X9_reached_0 : lk 0 C_X9_reached = some (.aload_n 1, (0, 0, 0, 0)) := by decide +kernel
theorem s_X9_reached_0 {ca : Nat → List Value → tM → tO} {M : tM} {a0 a2 : Option Value} {x : Nat} {S : List Value} : rn ca C_X9_reached 0 [a0, some (.ref x), a2] S M = rn ca C_X9_reached 1 [a0, some (.ref x), a2] (.ref x :: S) M := (rn_at k_X9_reached_0).trans rfl
theorem k_X9_reached_1 : lk 1 C_X9_reached = some (.iload_n 2, (0, 0, 0, 0)) := by decide +kernel
theorem s_X9_reached_1 {ca : Nat → List Value → tM → tO} {M : tM} {a0 a1 : Option Value} {x : Int32} {S : List Value} : rn ca C_X9_reached 1 [a0, a1, some (.int x)] S M = rn ca C_X9_reached 2 [a0, a1, some (.int x)] (.int x :: S) M := (rn_at k_X9_reached_1).trans rfl
theorem k_X9_reached_2 : lk 2 C_X9_reached = some (.invokevirtual 60, (18, 1, 4, 716)) := by decide +kernel
theorem s_X9_reached_2 {ca : Nat → List Value → tM → tO} {M : tM} {L : tL} {v1 : Value} {b : Nat} : rn ca C_X9_reached 2 L [v1, .ref b] M = if clsO b = some 4 then rnk ca C_X9_reached 5 L [] (ca m_X4_hasDesk [.ref b, v1] M) else none := (rn_at k_X9_reached_2).trans rnx_ite
theorem k_X9_reached_5 : lk 5 C_X9_reached = some (.ifCond .eq 15, (20, 0, 0, 0)) := by decide +kernel
theorem s_X9_reached_5 {ca : Nat → List Value → tM → tO} {M : tM} {L : tL} {x : Int32} {S : List Value} : rn ca C_X9_reached 5 L (.int x :: S) M = if x = iI 0 then rn ca C_X9_reached 20 L S M else rn ca C_X9_reached 8 L S M := (rn_at k_X9_reached_5).trans rnx_ite
theorem k_X9_reached_8 : lk 8 C_X9_reached = some (.aload_n 0, (0, 0, 0, 0)) := by decide +kernel
theorem s_X9_reached_8 {ca : Nat → List Value → tM → tO} {M : tM} {a1 a2 : Option Value} {x : Nat} {S : List Value} : rn ca C_X9_reached 8 [some (.ref x), a1, a2] S M = rn ca C_X9_reached 9 [some (.ref x), a1, a2] (.ref x :: S) M := (rn_at k_X9_reached_8).trans rfl
theorem k_X9_reached_9 : lk 9 C_X9_reached = some (.getfield 22, (9, 3, 0, 93)) := by decide +kernel
theorem s_X9_reached_9 {ca : Nat → List Value → tM → tO} {M : tM} {L : tL} {b : Nat} {S : List Value} : rn ca C_X9_reached 9 L (.ref b :: S) M = if clsO b = some 9 then rn ca C_X9_reached 12 L (fv M b 3 :: S) M else none := (rn_at k_X9_reached_9).trans rnx_ite
theorem k_X9_reached_12 : lk 12 C_X9_reached = some (.iload_n 2, (0, 0, 0, 0)) := by decide +kernel
theorem s_X9_reached_12 {ca : Nat → List Value → tM → tO} {M : tM} {a0 a1 : Option Value} {x : Int32} {S : List Value} : rn ca C_X9_reached 12 [a0, a1, some (.int x)] S M = rn ca C_X9_reached 13 [a0, a1, some (.int x)] (.int x :: S) M := (rn_at k_X9_reached_12).trans rfl
theorem k_X9_reached_13 : lk 13 C_X9_reached = some (.iaload, (0, 0, 0, 0)) := by decide +kernel
theorem s_X9_reached_13 {ca : Nat → List Value → tM → tO} {M : tM} {L : tL} {a : Nat} {i : Int32} {S : List Value} : rn ca C_X9_reached 13 L (.int i :: .ref a :: S) M = if (akind a = 0 ∨ akind a = 6 ∨ akind a = 7) ∧ inb i (alen M a) then rn ca C_X9_reached 14 L (.int (M.1 a i.toInt.toNat) :: S) M else none := (rn_at k_X9_reached_13).trans rnx_ite
theorem k_X9_reached_14 : lk 14 C_X9_reached = some (.sipush 9999, (0, 0, 0, 0)) := by decide +kernel
theorem s_X9_reached_14 {ca : Nat → List Value → tM → tO} {M : tM} {L : tL} {S : List Value} : rn ca C_X9_reached 14 L S M = rn ca C_X9_reached 17 L (.int (iI 9999) :: S) M := (rn_at k_X9_reached_14).trans rfl
theorem k_X9_reached_17 : lk 17 C_X9_reached = some (.if_icmp .ne 7, (24, 0, 0, 0)) := by decide +kernel
theorem s_X9_reached_17 {ca : Nat → List Value → tM → tO} {M : tM} {L : tL} {x y : Int32} {S : List Value} : rn ca C_X9_reached 17 L (.int y :: .int x :: S) M = if ¬ x = y then rn ca C_X9_reached 24 L S M else rn ca C_X9_reached 20 L S M := (rn_at k_X9_reached_17).trans rnx_ite
theorem k_X9_reached_20 : lk 20 C_X9_reached = some (.iconst (-1), (0, 0, 0, 0)) := by decide +kernel
theorem s_X9_reached_20 {ca : Nat → List Value → tM → tO} {M : tM} {L : tL} {S : List Value} : rn ca C_X9_reached 20 L S M = rn ca C_X9_reached 21 L (.int (iI (-1)) :: S) M := (rn_at k_X9_reached_20).trans rfl
theorem k_X9_reached_21 : lk 21 C_X9_reached = some (.goto 9, (30, 0, 0, 0)) := by decide +kernel
theorem s_X9_reached_21 {ca : Nat → List Value → tM → tO} {M : tM} {L : tL} {S : List Value} : rn ca C_X9_reached 21 L S M = rn ca C_X9_reached 30 L S M := (rn_at k_X9_reached_21).trans rfl
theorem k_X9_reached_24 : lk 24 C_X9_reached = some (.aload_n 0, (0, 0, 0, 0)) := by decide +kernel
theorem s_X9_reached_24 {ca : Nat → List Value → tM → tO} {M : tM} {a1 a2 : Option Value} {x : Nat} {S : List Value} : rn ca C_X9_reached 24 [some (.ref x), a1, a2] S M = rn ca C_X9_reached 25 [some (.ref x), a1, a2] (.ref x :: S) M := (rn_at k_X9_reached_24).trans rfl
theorem k_X9_reached_25 : lk 25 C_X9_reached = some (.getfield 22, (9, 3, 0, 93)) := by decide +kernel
theorem s_X9_reached_25 {ca : Nat → List Value → tM → tO} {M : tM} {L : tL} {b : Nat} {S : List Value} : rn ca C_X9_reached 25 L (.ref b :: S) M = if clsO b = some 9 then rn ca C_X9_reached 28 L (fv M b 3 :: S) M else none := (rn_at k_X9_reached_25).trans rnx_ite
theorem k_X9_reached_28 : lk 28 C_X9_reached = some (.iload_n 2, (0, 0, 0, 0)) := by decide +kernel
theorem s_X9_reached_28 {ca : Nat → List Value → tM → tO} {M : tM} {a0 a1 : Option Value} {x : Int32} {S : List Value} : rn ca C_X9_reached 28 [a0, a1, some (.int x)] S M = rn ca C_X9_reached 29 [a0, a1, some (.int x)] (.int x :: S) M := (rn_at k_X9_reached_28).trans rfl
theorem k_X9_reached_29 : lk 29 C_X9_reached = some (.iaload, (0, 0, 0, 0)) := by decide +kernel
theorem s_X9_reached_29 {ca : Nat → List Value → tM → tO} {M : tM} {L : tL} {a : Nat} {i : Int32} {S : List Value} : rn ca C_X9_reached 29 L (.int i :: .ref a :: S) M = if (akind a = 0 ∨ akind a = 6 ∨ akind a = 7) ∧ inb i (alen M a) then rn ca C_X9_reached 30 L (.int (M.1 a i.toInt.toNat) :: S) M else none := (rn_at k_X9_reached_29).trans rnx_ite
theorem k_X9_reached_30 : lk 30 C_X9_reached = some (.ireturn, (0, 0, 0, 0)) := by decide +kernel
theorem s_X9_reached_30 {ca : Nat → List Value → tM → tO} {M : tM} {L : tL} {x : Int32} : rn ca C_X9_reached 30 L [.int x] M = some (some (.int x), M) := (rn_at k_X9_reached_30).trans rfl
theorem k_X9_firstTubeTo_0 : lk 0 C_X9_firstTubeTo = some (.aload_n 1, (0, 0, 0, 0)) := by decide +kernel
theorem s_X9_firstTubeTo_0 {ca : Nat → List Value → tM → tO} {M : tM} {a0 a2 a3 a4 a5 a6 : Option Value} {x : Nat} {S : List Value} : rn ca C_X9_firstTubeTo 0 [a0, some (.ref x), a2, a3, a4, a5, a6] S M = rn ca C_X9_firstTubeTo 1 [a0, some (.ref x), a2, a3, a4, a5, a6] (.ref x :: S) M := (rn_at k_X9_firstTubeTo_0).trans rfl
theorem k_X9_firstTubeTo_1 : lk 1 C_X9_firstTubeTo = some (.iload_n 2, (0, 0, 0, 0)) := by decide +kernel
theorem s_X9_firstTubeTo_1 {ca : Nat → List Value → tM → tO} {M : tM} {a0 a1 a3 a4 a5 a6 : Option Value} {x : Int32} {S : List Value} : rn ca C_X9_firstTubeTo 1 [a0, a1, some (.int x), a3, a4, a5, a6] S M = rn ca C_X9_firstTubeTo 2 [a0, a1, some (.int x), a3, a4, a5, a6] (.int x :: S) M := (rn_at k_X9_firstTubeTo_1).trans rfl
theorem k_X9_firstTubeTo_2 : lk 2 C_X9_firstTubeTo = some (.invokevirtual 89, (20, 1, 4, 699)) := by decide +kernel
theorem s_X9_firstTubeTo_2 {ca : Nat → List Value → tM → tO} {M : tM} {L : tL} {v1 : Value} {b : Nat} : rn ca C_X9_firstTubeTo 2 L [v1, .ref b] M = if clsO b = some 4 then rnk ca C_X9_firstTubeTo 5 L [] (ca m_X4_hasCapsule [.ref b, v1] M) else none := (rn_at k_X9_firstTubeTo_2).trans rnx_ite
theorem k_X9_firstTubeTo_5 : lk 5 C_X9_firstTubeTo = some (.ifCond .eq 11, (16, 0, 0, 0)) := by decide +kernel
theorem s_X9_firstTubeTo_5 {ca : Nat → List Value → tM → tO} {M : tM} {L : tL} {x : Int32} {S : List Value} : rn ca C_X9_firstTubeTo 5 L (.int x :: S) M = if x = iI 0 then rn ca C_X9_firstTubeTo 16 L S M else rn ca C_X9_firstTubeTo 8 L S M := (rn_at k_X9_firstTubeTo_5).trans rnx_ite
theorem k_X9_firstTubeTo_8 : lk 8 C_X9_firstTubeTo = some (.aload_n 1, (0, 0, 0, 0)) := by decide +kernel
theorem s_X9_firstTubeTo_8 {ca : Nat → List Value → tM → tO} {M : tM} {a0 a2 a3 a4 a5 a6 : Option Value} {x : Nat} {S : List Value} : rn ca C_X9_firstTubeTo 8 [a0, some (.ref x), a2, a3, a4, a5, a6] S M = rn ca C_X9_firstTubeTo 9 [a0, some (.ref x), a2, a3, a4, a5, a6] (.ref x :: S) M := (rn_at k_X9_firstTubeTo_8).trans rfl
theorem k_X9_firstTubeTo_9 : lk 9 C_X9_firstTubeTo = some (.iload_n 3, (0, 0, 0, 0)) := by decide +kernel
theorem s_X9_firstTubeTo_9 {ca : Nat → List Value → tM → tO} {M : tM} {a0 a1 a2 a4 a5 a6 : Option Value} {x : Int32} {S : List Value} : rn ca C_X9_firstTubeTo 9 [a0, a1, a2, some (.int x), a4, a5, a6] S M = rn ca C_X9_firstTubeTo 10 [a0, a1, a2, some (.int x), a4, a5, a6] (.int x :: S) M := (rn_at k_X9_firstTubeTo_9).trans rfl
theorem k_X9_firstTubeTo_10 : lk 10 C_X9_firstTubeTo = some (.invokevirtual 60, (18, 1, 4, 716)) := by decide +kernel
theorem s_X9_firstTubeTo_10 {ca : Nat → List Value → tM → tO} {M : tM} {L : tL} {v1 : Value} {b : Nat} : rn ca C_X9_firstTubeTo 10 L [v1, .ref b] M = if clsO b = some 4 then rnk ca C_X9_firstTubeTo 13 L [] (ca m_X4_hasDesk [.ref b, v1] M) else none := (rn_at k_X9_firstTubeTo_10).trans rnx_ite
theorem k_X9_firstTubeTo_13 : lk 13 C_X9_firstTubeTo = some (.ifCond .ne 5, (18, 0, 0, 0)) := by decide +kernel
theorem s_X9_firstTubeTo_13 {ca : Nat → List Value → tM → tO} {M : tM} {L : tL} {x : Int32} {S : List Value} : rn ca C_X9_firstTubeTo 13 L (.int x :: S) M = if ¬ x = iI 0 then rn ca C_X9_firstTubeTo 18 L S M else rn ca C_X9_firstTubeTo 16 L S M := (rn_at k_X9_firstTubeTo_13).trans rnx_ite
theorem k_X9_firstTubeTo_16 : lk 16 C_X9_firstTubeTo = some (.iconst (-1), (0, 0, 0, 0)) := by decide +kernel
theorem s_X9_firstTubeTo_16 {ca : Nat → List Value → tM → tO} {M : tM} {L : tL} {S : List Value} : rn ca C_X9_firstTubeTo 16 L S M = rn ca C_X9_firstTubeTo 17 L (.int (iI (-1)) :: S) M := (rn_at k_X9_firstTubeTo_16).trans rfl
theorem k_X9_firstTubeTo_17 : lk 17 C_X9_firstTubeTo = some (.ireturn, (0, 0, 0, 0)) := by decide +kernel
theorem s_X9_firstTubeTo_17 {ca : Nat → List Value → tM → tO} {M : tM} {L : tL} {x : Int32} : rn ca C_X9_firstTubeTo 17 L [.int x] M = some (some (.int x), M) := (rn_at k_X9_firstTubeTo_17).trans rfl
theorem k_X9_firstTubeTo_18 : lk 18 C_X9_firstTubeTo = some (.aload_n 1, (0, 0, 0, 0)) := by decide +kernel
theorem s_X9_firstTubeTo_18 {ca : Nat → List Value → tM → tO} {M : tM} {a0 a2 a3 a4 a5 a6 : Option Value} {x : Nat} {S : List Value} : rn ca C_X9_firstTubeTo 18 [a0, some (.ref x), a2, a3, a4, a5, a6] S M = rn ca C_X9_firstTubeTo 19 [a0, some (.ref x), a2, a3, a4, a5, a6] (.ref x :: S) M := (rn_at k_X9_firstTubeTo_18).trans rfl
theorem k_X9_firstTubeTo_19 : lk 19 C_X9_firstTubeTo = some (.getfield 96, (4, 12, 0, 100031)) := by decide +kernel
theorem s_X9_firstTubeTo_19 {ca : Nat → List Value → tM → tO} {M : tM} {L : tL} {b : Nat} {S : List Value} : rn ca C_X9_firstTubeTo 19 L (.ref b :: S) M = if clsO b = some 4 then rn ca C_X9_firstTubeTo 22 L (fv M b 12 :: S) M else none := (rn_at k_X9_firstTubeTo_19).trans rnx_ite
theorem k_X9_firstTubeTo_22 : lk 22 C_X9_firstTubeTo = some (.iload_n 2, (0, 0, 0, 0)) := by decide +kernel
theorem s_X9_firstTubeTo_22 {ca : Nat → List Value → tM → tO} {M : tM} {a0 a1 a3 a4 a5 a6 : Option Value} {x : Int32} {S : List Value} : rn ca C_X9_firstTubeTo 22 [a0, a1, some (.int x), a3, a4, a5, a6] S M = rn ca C_X9_firstTubeTo 23 [a0, a1, some (.int x), a3, a4, a5, a6] (.int x :: S) M := (rn_at k_X9_firstTubeTo_22).trans rfl
theorem k_X9_firstTubeTo_23 : lk 23 C_X9_firstTubeTo = some (.iaload, (0, 0, 0, 0)) := by decide +kernel
theorem s_X9_firstTubeTo_23 {ca : Nat → List Value → tM → tO} {M : tM} {L : tL} {a : Nat} {i : Int32} {S : List Value} : rn ca C_X9_firstTubeTo 23 L (.int i :: .ref a :: S) M = if (akind a = 0 ∨ akind a = 6 ∨ akind a = 7) ∧ inb i (alen M a) then rn ca C_X9_firstTubeTo 24 L (.int (M.1 a i.toInt.toNat) :: S) M else none := (rn_at k_X9_firstTubeTo_23).trans rnx_ite
theorem k_X9_firstTubeTo_24 : lk 24 C_X9_firstTubeTo = some (.istore 4, (0, 0, 0, 0)) := by decide +kernel
theorem s_X9_firstTubeTo_24 {ca : Nat → List Value → tM → tO} {M : tM} {a0 a1 a2 a3 a4 a5 a6 : Option Value} {x : Int32} {S : List Value} : rn ca C_X9_firstTubeTo 24 [a0, a1, a2, a3, a4, a5, a6] (.int x :: S) M = rn ca C_X9_firstTubeTo 26 [a0, a1, a2, a3, some (.int x), a5, a6] S M := (rn_at k_X9_firstTubeTo_24).trans rfl
theorem k_X9_firstTubeTo_26 : lk 26 C_X9_firstTubeTo = some (.aload_n 0, (0, 0, 0, 0)) := by decide +kernel
theorem s_X9_firstTubeTo_26 {ca : Nat → List Value → tM → tO} {M : tM} {a1 a2 a3 a4 a5 a6 : Option Value} {x : Nat} {S : List Value} : rn ca C_X9_firstTubeTo 26 [some (.ref x), a1, a2, a3, a4, a5, a6] S M = rn ca C_X9_firstTubeTo 27 [some (.ref x), a1, a2, a3, a4, a5, a6] (.ref x :: S) M := (rn_at k_X9_firstTubeTo_26).trans rfl
theorem k_X9_firstTubeTo_27 : lk 27 C_X9_firstTubeTo = some (.aload_n 1, (0, 0, 0, 0)) := by decide +kernel
theorem s_X9_firstTubeTo_27 {ca : Nat → List Value → tM → tO} {M : tM} {a0 a2 a3 a4 a5 a6 : Option Value} {x : Nat} {S : List Value} : rn ca C_X9_firstTubeTo 27 [a0, some (.ref x), a2, a3, a4, a5, a6] S M = rn ca C_X9_firstTubeTo 28 [a0, some (.ref x), a2, a3, a4, a5, a6] (.ref x :: S) M := (rn_at k_X9_firstTubeTo_27).trans rfl
theorem k_X9_firstTubeTo_28 : lk 28 C_X9_firstTubeTo = some (.iload_n 2, (0, 0, 0, 0)) := by decide +kernel
theorem s_X9_firstTubeTo_28 {ca : Nat → List Value → tM → tO} {M : tM} {a0 a1 a3 a4 a5 a6 : Option Value} {x : Int32} {S : List Value} : rn ca C_X9_firstTubeTo 28 [a0, a1, some (.int x), a3, a4, a5, a6] S M = rn ca C_X9_firstTubeTo 29 [a0, a1, some (.int x), a3, a4, a5, a6] (.int x :: S) M := (rn_at k_X9_firstTubeTo_28).trans rfl
theorem k_X9_firstTubeTo_29 : lk 29 C_X9_firstTubeTo = some (.aload_n 1, (0, 0, 0, 0)) := by decide +kernel
theorem s_X9_firstTubeTo_29 {ca : Nat → List Value → tM → tO} {M : tM} {a0 a2 a3 a4 a5 a6 : Option Value} {x : Nat} {S : List Value} : rn ca C_X9_firstTubeTo 29 [a0, some (.ref x), a2, a3, a4, a5, a6] S M = rn ca C_X9_firstTubeTo 30 [a0, some (.ref x), a2, a3, a4, a5, a6] (.ref x :: S) M := (rn_at k_X9_firstTubeTo_29).trans rfl
theorem k_X9_firstTubeTo_30 : lk 30 C_X9_firstTubeTo = some (.getfield 103, (4, 13, 0, 100033)) := by decide +kernel
theorem s_X9_firstTubeTo_30 {ca : Nat → List Value → tM → tO} {M : tM} {L : tL} {b : Nat} {S : List Value} : rn ca C_X9_firstTubeTo 30 L (.ref b :: S) M = if clsO b = some 4 then rn ca C_X9_firstTubeTo 33 L (fv M b 13 :: S) M else none := (rn_at k_X9_firstTubeTo_30).trans rnx_ite
theorem k_X9_firstTubeTo_33 : lk 33 C_X9_firstTubeTo = some (.invokevirtual 92, (79, 3, 9, 700)) := by decide +kernel
theorem s_X9_firstTubeTo_33 {ca : Nat → List Value → tM → tO} {M : tM} {L : tL} {v1 v2 v3 : Value} {b : Nat} : rn ca C_X9_firstTubeTo 33 L [v3, v2, v1, .ref b] M = if clsO b = some 9 then rnk ca C_X9_firstTubeTo 36 L [] (ca m_X9_prepareFor [.ref b, v1, v2, v3] M) else none := (rn_at k_X9_firstTubeTo_33).trans rnx_ite
theorem k_X9_firstTubeTo_36 : lk 36 C_X9_firstTubeTo = some (.aload_n 0, (0, 0, 0, 0)) := by decide +kernel
theorem s_X9_firstTubeTo_36 {ca : Nat → List Value → tM → tO} {M : tM} {a1 a2 a3 a4 a5 a6 : Option Value} {x : Nat} {S : List Value} : rn ca C_X9_firstTubeTo 36 [some (.ref x), a1, a2, a3, a4, a5, a6] S M = rn ca C_X9_firstTubeTo 37 [some (.ref x), a1, a2, a3, a4, a5, a6] (.ref x :: S) M := (rn_at k_X9_firstTubeTo_36).trans rfl
theorem k_X9_firstTubeTo_37 : lk 37 C_X9_firstTubeTo = some (.aload_n 1, (0, 0, 0, 0)) := by decide +kernel
theorem s_X9_firstTubeTo_37 {ca : Nat → List Value → tM → tO} {M : tM} {a0 a2 a3 a4 a5 a6 : Option Value} {x : Nat} {S : List Value} : rn ca C_X9_firstTubeTo 37 [a0, some (.ref x), a2, a3, a4, a5, a6] S M = rn ca C_X9_firstTubeTo 38 [a0, some (.ref x), a2, a3, a4, a5, a6] (.ref x :: S) M := (rn_at k_X9_firstTubeTo_37).trans rfl
theorem k_X9_firstTubeTo_38 : lk 38 C_X9_firstTubeTo = some (.invokevirtual 106, (84, 1, 9, 731)) := by decide +kernel
theorem s_X9_firstTubeTo_38 {ca : Nat → List Value → tM → tO} {M : tM} {L : tL} {v1 : Value} {b : Nat} : rn ca C_X9_firstTubeTo 38 L [v1, .ref b] M = if clsO b = some 9 then rnk ca C_X9_firstTubeTo 41 L [] (ca m_X9_fillTable [.ref b, v1] M) else none := (rn_at k_X9_firstTubeTo_38).trans rnx_ite
theorem k_X9_firstTubeTo_41 : lk 41 C_X9_firstTubeTo = some (.aload_n 0, (0, 0, 0, 0)) := by decide +kernel
theorem s_X9_firstTubeTo_41 {ca : Nat → List Value → tM → tO} {M : tM} {a1 a2 a3 a4 a5 a6 : Option Value} {x : Nat} {S : List Value} : rn ca C_X9_firstTubeTo 41 [some (.ref x), a1, a2, a3, a4, a5, a6] S M = rn ca C_X9_firstTubeTo 42 [some (.ref x), a1, a2, a3, a4, a5, a6] (.ref x :: S) M := (rn_at k_X9_firstTubeTo_41).trans rfl
theorem k_X9_firstTubeTo_42 : lk 42 C_X9_firstTubeTo = some (.iload 4, (0, 0, 0, 0)) := by decide +kernel
theorem s_X9_firstTubeTo_42 {ca : Nat → List Value → tM → tO} {M : tM} {a0 a1 a2 a3 a5 a6 : Option Value} {x : Int32} {S : List Value} : rn ca C_X9_firstTubeTo 42 [a0, a1, a2, a3, some (.int x), a5, a6] S M = rn ca C_X9_firstTubeTo 44 [a0, a1, a2, a3, some (.int x), a5, a6] (.int x :: S) M := (rn_at k_X9_firstTubeTo_42).trans rfl
theorem k_X9_firstTubeTo_44 : lk 44 C_X9_firstTubeTo = some (.iload_n 3, (0, 0, 0, 0)) := by decide +kernel
theorem s_X9_firstTubeTo_44 {ca : Nat → List Value → tM → tO} {M : tM} {a0 a1 a2 a4 a5 a6 : Option Value} {x : Int32} {S : List Value} : rn ca C_X9_firstTubeTo 44 [a0, a1, a2, some (.int x), a4, a5, a6] S M = rn ca C_X9_firstTubeTo 45 [a0, a1, a2, some (.int x), a4, a5, a6] (.int x :: S) M := (rn_at k_X9_firstTubeTo_44).trans rfl
theorem k_X9_firstTubeTo_45 : lk 45 C_X9_firstTubeTo = some (.invokevirtual 110, (85, 2, 9, 736)) := by decide +kernel
theorem s_X9_firstTubeTo_45 {ca : Nat → List Value → tM → tO} {M : tM} {L : tL} {v1 v2 : Value} {b : Nat} : rn ca C_X9_firstTubeTo 45 L [v2, v1, .ref b] M = if clsO b = some 9 then rnk ca C_X9_firstTubeTo 48 L [] (ca m_X9_between [.ref b, v1, v2] M) else none := (rn_at k_X9_firstTubeTo_45).trans rnx_ite
theorem k_X9_firstTubeTo_48 : lk 48 C_X9_firstTubeTo = some (.istore 5, (0, 0, 0, 0)) := by decide +kernel
theorem s_X9_firstTubeTo_48 {ca : Nat → List Value → tM → tO} {M : tM} {a0 a1 a2 a3 a4 a5 a6 : Option Value} {x : Int32} {S : List Value} : rn ca C_X9_firstTubeTo 48 [a0, a1, a2, a3, a4, a5, a6] (.int x :: S) M = rn ca C_X9_firstTubeTo 50 [a0, a1, a2, a3, a4, some (.int x), a6] S M := (rn_at k_X9_firstTubeTo_48).trans rfl
theorem k_X9_firstTubeTo_50 : lk 50 C_X9_firstTubeTo = some (.iload 4, (0, 0, 0, 0)) := by decide +kernel
theorem s_X9_firstTubeTo_50 {ca : Nat → List Value → tM → tO} {M : tM} {a0 a1 a2 a3 a5 a6 : Option Value} {x : Int32} {S : List Value} : rn ca C_X9_firstTubeTo 50 [a0, a1, a2, a3, some (.int x), a5, a6] S M = rn ca C_X9_firstTubeTo 52 [a0, a1, a2, a3, some (.int x), a5, a6] (.int x :: S) M := (rn_at k_X9_firstTubeTo_50).trans rfl
theorem k_X9_firstTubeTo_52 : lk 52 C_X9_firstTubeTo = some (.iload_n 3, (0, 0, 0, 0)) := by decide +kernel
theorem s_X9_firstTubeTo_52 {ca : Nat → List Value → tM → tO} {M : tM} {a0 a1 a2 a4 a5 a6 : Option Value} {x : Int32} {S : List Value} : rn ca C_X9_firstTubeTo 52 [a0, a1, a2, some (.int x), a4, a5, a6] S M = rn ca C_X9_firstTubeTo 53 [a0, a1, a2, some (.int x), a4, a5, a6] (.int x :: S) M := (rn_at k_X9_firstTubeTo_52).trans rfl
theorem k_X9_firstTubeTo_53 : lk 53 C_X9_firstTubeTo = some (.if_icmp .eq 11, (64, 0, 0, 0)) := by decide +kernel
theorem s_X9_firstTubeTo_53 {ca : Nat → List Value → tM → tO} {M : tM} {L : tL} {x y : Int32} {S : List Value} : rn ca C_X9_firstTubeTo 53 L (.int y :: .int x :: S) M = if x = y then rn ca C_X9_firstTubeTo 64 L S M else rn ca C_X9_firstTubeTo 56 L S M := (rn_at k_X9_firstTubeTo_53).trans rnx_ite
theorem k_X9_firstTubeTo_56 : lk 56 C_X9_firstTubeTo = some (.iload 5, (0, 0, 0, 0)) := by decide +kernel
theorem s_X9_firstTubeTo_56 {ca : Nat → List Value → tM → tO} {M : tM} {a0 a1 a2 a3 a4 a6 : Option Value} {x : Int32} {S : List Value} : rn ca C_X9_firstTubeTo 56 [a0, a1, a2, a3, a4, some (.int x), a6] S M = rn ca C_X9_firstTubeTo 58 [a0, a1, a2, a3, a4, some (.int x), a6] (.int x :: S) M := (rn_at k_X9_firstTubeTo_56).trans rfl
theorem k_X9_firstTubeTo_58 : lk 58 C_X9_firstTubeTo = some (.sipush 9999, (0, 0, 0, 0)) := by decide +kernel
theorem s_X9_firstTubeTo_58 {ca : Nat → List Value → tM → tO} {M : tM} {L : tL} {S : List Value} : rn ca C_X9_firstTubeTo 58 L S M = rn ca C_X9_firstTubeTo 61 L (.int (iI 9999) :: S) M := (rn_at k_X9_firstTubeTo_58).trans rfl
theorem k_X9_firstTubeTo_61 : lk 61 C_X9_firstTubeTo = some (.if_icmp .ne 5, (66, 0, 0, 0)) := by decide +kernel
theorem s_X9_firstTubeTo_61 {ca : Nat → List Value → tM → tO} {M : tM} {L : tL} {x y : Int32} {S : List Value} : rn ca C_X9_firstTubeTo 61 L (.int y :: .int x :: S) M = if ¬ x = y then rn ca C_X9_firstTubeTo 66 L S M else rn ca C_X9_firstTubeTo 64 L S M := (rn_at k_X9_firstTubeTo_61).trans rnx_ite
theorem k_X9_firstTubeTo_64 : lk 64 C_X9_firstTubeTo = some (.iconst (-1), (0, 0, 0, 0)) := by decide +kernel
theorem s_X9_firstTubeTo_64 {ca : Nat → List Value → tM → tO} {M : tM} {L : tL} {S : List Value} : rn ca C_X9_firstTubeTo 64 L S M = rn ca C_X9_firstTubeTo 65 L (.int (iI (-1)) :: S) M := (rn_at k_X9_firstTubeTo_64).trans rfl
theorem k_X9_firstTubeTo_65 : lk 65 C_X9_firstTubeTo = some (.ireturn, (0, 0, 0, 0)) := by decide +kernel
theorem s_X9_firstTubeTo_65 {ca : Nat → List Value → tM → tO} {M : tM} {L : tL} {x : Int32} : rn ca C_X9_firstTubeTo 65 L [.int x] M = some (some (.int x), M) := (rn_at k_X9_firstTubeTo_65).trans rfl
theorem k_X9_firstTubeTo_66 : lk 66 C_X9_firstTubeTo = some (.iconst 0, (0, 0, 0, 0)) := by decide +kernel
theorem s_X9_firstTubeTo_66 {ca : Nat → List Value → tM → tO} {M : tM} {L : tL} {S : List Value} : rn ca C_X9_firstTubeTo 66 L S M = rn ca C_X9_firstTubeTo 67 L (.int (iI 0) :: S) M := (rn_at k_X9_firstTubeTo_66).trans rfl
theorem k_X9_firstTubeTo_67 : lk 67 C_X9_firstTubeTo = some (.istore 6, (0, 0, 0, 0)) := by decide +kernel
theorem s_X9_firstTubeTo_67 {ca : Nat → List Value → tM → tO} {M : tM} {a0 a1 a2 a3 a4 a5 a6 : Option Value} {x : Int32} {S : List Value} : rn ca C_X9_firstTubeTo 67 [a0, a1, a2, a3, a4, a5, a6] (.int x :: S) M = rn ca C_X9_firstTubeTo 69 [a0, a1, a2, a3, a4, a5, some (.int x)] S M := (rn_at k_X9_firstTubeTo_67).trans rfl
theorem k_X9_firstTubeTo_69 : lk 69 C_X9_firstTubeTo = some (.iload 6, (0, 0, 0, 0)) := by decide +kernel
theorem s_X9_firstTubeTo_69 {ca : Nat → List Value → tM → tO} {M : tM} {a0 a1 a2 a3 a4 a5 : Option Value} {x : Int32} {S : List Value} : rn ca C_X9_firstTubeTo 69 [a0, a1, a2, a3, a4, a5, some (.int x)] S M = rn ca C_X9_firstTubeTo 71 [a0, a1, a2, a3, a4, a5, some (.int x)] (.int x :: S) M := (rn_at k_X9_firstTubeTo_69).trans rfl
theorem k_X9_firstTubeTo_71 : lk 71 C_X9_firstTubeTo = some (.aload_n 1, (0, 0, 0, 0)) := by decide +kernel
theorem s_X9_firstTubeTo_71 {ca : Nat → List Value → tM → tO} {M : tM} {a0 a2 a3 a4 a5 a6 : Option Value} {x : Nat} {S : List Value} : rn ca C_X9_firstTubeTo 71 [a0, some (.ref x), a2, a3, a4, a5, a6] S M = rn ca C_X9_firstTubeTo 72 [a0, some (.ref x), a2, a3, a4, a5, a6] (.ref x :: S) M := (rn_at k_X9_firstTubeTo_71).trans rfl
theorem k_X9_firstTubeTo_72 : lk 72 C_X9_firstTubeTo = some (.getfield 33, (4, 2, 0, 100006)) := by decide +kernel
theorem s_X9_firstTubeTo_72 {ca : Nat → List Value → tM → tO} {M : tM} {L : tL} {b : Nat} {S : List Value} : rn ca C_X9_firstTubeTo 72 L (.ref b :: S) M = if clsO b = some 4 then rn ca C_X9_firstTubeTo 75 L (fv M b 2 :: S) M else none := (rn_at k_X9_firstTubeTo_72).trans rnx_ite
theorem k_X9_firstTubeTo_75 : lk 75 C_X9_firstTubeTo = some (.if_icmp .ge 116, (191, 0, 0, 0)) := by decide +kernel
theorem s_X9_firstTubeTo_75 {ca : Nat → List Value → tM → tO} {M : tM} {L : tL} {x y : Int32} {S : List Value} : rn ca C_X9_firstTubeTo 75 L (.int y :: .int x :: S) M = if y ≤ x then rn ca C_X9_firstTubeTo 191 L S M else rn ca C_X9_firstTubeTo 78 L S M := (rn_at k_X9_firstTubeTo_75).trans rnx_ite
theorem k_X9_firstTubeTo_78 : lk 78 C_X9_firstTubeTo = some (.iload 6, (0, 0, 0, 0)) := by decide +kernel
theorem s_X9_firstTubeTo_78 {ca : Nat → List Value → tM → tO} {M : tM} {a0 a1 a2 a3 a4 a5 : Option Value} {x : Int32} {S : List Value} : rn ca C_X9_firstTubeTo 78 [a0, a1, a2, a3, a4, a5, some (.int x)] S M = rn ca C_X9_firstTubeTo 80 [a0, a1, a2, a3, a4, a5, some (.int x)] (.int x :: S) M := (rn_at k_X9_firstTubeTo_78).trans rfl
theorem k_X9_firstTubeTo_80 : lk 80 C_X9_firstTubeTo = some (.bipush 16, (0, 0, 0, 0)) := by decide +kernel
theorem s_X9_firstTubeTo_80 {ca : Nat → List Value → tM → tO} {M : tM} {L : tL} {S : List Value} : rn ca C_X9_firstTubeTo 80 L S M = rn ca C_X9_firstTubeTo 82 L (.int (iI 16) :: S) M := (rn_at k_X9_firstTubeTo_80).trans rfl
theorem k_X9_firstTubeTo_82 : lk 82 C_X9_firstTubeTo = some (.if_icmp .ge 109, (191, 0, 0, 0)) := by decide +kernel
theorem s_X9_firstTubeTo_82 {ca : Nat → List Value → tM → tO} {M : tM} {L : tL} {x y : Int32} {S : List Value} : rn ca C_X9_firstTubeTo 82 L (.int y :: .int x :: S) M = if y ≤ x then rn ca C_X9_firstTubeTo 191 L S M else rn ca C_X9_firstTubeTo 85 L S M := (rn_at k_X9_firstTubeTo_82).trans rnx_ite
theorem k_X9_firstTubeTo_85 : lk 85 C_X9_firstTubeTo = some (.aload_n 0, (0, 0, 0, 0)) := by decide +kernel
theorem s_X9_firstTubeTo_85 {ca : Nat → List Value → tM → tO} {M : tM} {a1 a2 a3 a4 a5 a6 : Option Value} {x : Nat} {S : List Value} : rn ca C_X9_firstTubeTo 85 [some (.ref x), a1, a2, a3, a4, a5, a6] S M = rn ca C_X9_firstTubeTo 86 [some (.ref x), a1, a2, a3, a4, a5, a6] (.ref x :: S) M := (rn_at k_X9_firstTubeTo_85).trans rfl
theorem k_X9_firstTubeTo_86 : lk 86 C_X9_firstTubeTo = some (.getfield 15, (9, 1, 0, 91)) := by decide +kernel
theorem s_X9_firstTubeTo_86 {ca : Nat → List Value → tM → tO} {M : tM} {L : tL} {b : Nat} {S : List Value} : rn ca C_X9_firstTubeTo 86 L (.ref b :: S) M = if clsO b = some 9 then rn ca C_X9_firstTubeTo 89 L (fv M b 1 :: S) M else none := (rn_at k_X9_firstTubeTo_86).trans rnx_ite
theorem k_X9_firstTubeTo_89 : lk 89 C_X9_firstTubeTo = some (.iload 6, (0, 0, 0, 0)) := by decide +kernel
theorem s_X9_firstTubeTo_89 {ca : Nat → List Value → tM → tO} {M : tM} {a0 a1 a2 a3 a4 a5 : Option Value} {x : Int32} {S : List Value} : rn ca C_X9_firstTubeTo 89 [a0, a1, a2, a3, a4, a5, some (.int x)] S M = rn ca C_X9_firstTubeTo 91 [a0, a1, a2, a3, a4, a5, some (.int x)] (.int x :: S) M := (rn_at k_X9_firstTubeTo_89).trans rfl
theorem k_X9_firstTubeTo_91 : lk 91 C_X9_firstTubeTo = some (.baload, (0, 0, 0, 0)) := by decide +kernel
theorem s_X9_firstTubeTo_91 {ca : Nat → List Value → tM → tO} {M : tM} {L : tL} {a : Nat} {i : Int32} {S : List Value} : rn ca C_X9_firstTubeTo 91 L (.int i :: .ref a :: S) M = if akind a = 1 ∧ inb i (alen M a) then rn ca C_X9_firstTubeTo 92 L (.int (M.1 a i.toInt.toNat) :: S) M else none := (rn_at k_X9_firstTubeTo_91).trans rnx_ite
theorem k_X9_firstTubeTo_92 : lk 92 C_X9_firstTubeTo = some (.ifCond .eq 43, (135, 0, 0, 0)) := by decide +kernel
theorem s_X9_firstTubeTo_92 {ca : Nat → List Value → tM → tO} {M : tM} {L : tL} {x : Int32} {S : List Value} : rn ca C_X9_firstTubeTo 92 L (.int x :: S) M = if x = iI 0 then rn ca C_X9_firstTubeTo 135 L S M else rn ca C_X9_firstTubeTo 95 L S M := (rn_at k_X9_firstTubeTo_92).trans rnx_ite
theorem k_X9_firstTubeTo_95 : lk 95 C_X9_firstTubeTo = some (.aload_n 1, (0, 0, 0, 0)) := by decide +kernel
theorem s_X9_firstTubeTo_95 {ca : Nat → List Value → tM → tO} {M : tM} {a0 a2 a3 a4 a5 a6 : Option Value} {x : Nat} {S : List Value} : rn ca C_X9_firstTubeTo 95 [a0, some (.ref x), a2, a3, a4, a5, a6] S M = rn ca C_X9_firstTubeTo 96 [a0, some (.ref x), a2, a3, a4, a5, a6] (.ref x :: S) M := (rn_at k_X9_firstTubeTo_95).trans rfl
theorem k_X9_firstTubeTo_96 : lk 96 C_X9_firstTubeTo = some (.getfield 63, (4, 3, 0, 100014)) := by decide +kernel
theorem s_X9_firstTubeTo_96 {ca : Nat → List Value → tM → tO} {M : tM} {L : tL} {b : Nat} {S : List Value} : rn ca C_X9_firstTubeTo 96 L (.ref b :: S) M = if clsO b = some 4 then rn ca C_X9_firstTubeTo 99 L (fv M b 3 :: S) M else none := (rn_at k_X9_firstTubeTo_96).trans rnx_ite
theorem k_X9_firstTubeTo_99 : lk 99 C_X9_firstTubeTo = some (.iload 6, (0, 0, 0, 0)) := by decide +kernel
theorem s_X9_firstTubeTo_99 {ca : Nat → List Value → tM → tO} {M : tM} {a0 a1 a2 a3 a4 a5 : Option Value} {x : Int32} {S : List Value} : rn ca C_X9_firstTubeTo 99 [a0, a1, a2, a3, a4, a5, some (.int x)] S M = rn ca C_X9_firstTubeTo 101 [a0, a1, a2, a3, a4, a5, some (.int x)] (.int x :: S) M := (rn_at k_X9_firstTubeTo_99).trans rfl
theorem k_X9_firstTubeTo_101 : lk 101 C_X9_firstTubeTo = some (.iaload, (0, 0, 0, 0)) := by decide +kernel
theorem s_X9_firstTubeTo_101 {ca : Nat → List Value → tM → tO} {M : tM} {L : tL} {a : Nat} {i : Int32} {S : List Value} : rn ca C_X9_firstTubeTo 101 L (.int i :: .ref a :: S) M = if (akind a = 0 ∨ akind a = 6 ∨ akind a = 7) ∧ inb i (alen M a) then rn ca C_X9_firstTubeTo 102 L (.int (M.1 a i.toInt.toNat) :: S) M else none := (rn_at k_X9_firstTubeTo_101).trans rnx_ite
theorem k_X9_firstTubeTo_102 : lk 102 C_X9_firstTubeTo = some (.iload 4, (0, 0, 0, 0)) := by decide +kernel
theorem s_X9_firstTubeTo_102 {ca : Nat → List Value → tM → tO} {M : tM} {a0 a1 a2 a3 a5 a6 : Option Value} {x : Int32} {S : List Value} : rn ca C_X9_firstTubeTo 102 [a0, a1, a2, a3, some (.int x), a5, a6] S M = rn ca C_X9_firstTubeTo 104 [a0, a1, a2, a3, some (.int x), a5, a6] (.int x :: S) M := (rn_at k_X9_firstTubeTo_102).trans rfl
theorem k_X9_firstTubeTo_104 : lk 104 C_X9_firstTubeTo = some (.if_icmp .ne 31, (135, 0, 0, 0)) := by decide +kernel
theorem s_X9_firstTubeTo_104 {ca : Nat → List Value → tM → tO} {M : tM} {L : tL} {x y : Int32} {S : List Value} : rn ca C_X9_firstTubeTo 104 L (.int y :: .int x :: S) M = if ¬ x = y then rn ca C_X9_firstTubeTo 135 L S M else rn ca C_X9_firstTubeTo 107 L S M := (rn_at k_X9_firstTubeTo_104).trans rnx_ite
theorem k_X9_firstTubeTo_107 : lk 107 C_X9_firstTubeTo = some (.aload_n 0, (0, 0, 0, 0)) := by decide +kernel
theorem s_X9_firstTubeTo_107 {ca : Nat → List Value → tM → tO} {M : tM} {a1 a2 a3 a4 a5 a6 : Option Value} {x : Nat} {S : List Value} : rn ca C_X9_firstTubeTo 107 [some (.ref x), a1, a2, a3, a4, a5, a6] S M = rn ca C_X9_firstTubeTo 108 [some (.ref x), a1, a2, a3, a4, a5, a6] (.ref x :: S) M := (rn_at k_X9_firstTubeTo_107).trans rfl
theorem k_X9_firstTubeTo_108 : lk 108 C_X9_firstTubeTo = some (.getfield 9, (9, 0, 0, 89)) := by decide +kernel
theorem s_X9_firstTubeTo_108 {ca : Nat → List Value → tM → tO} {M : tM} {L : tL} {b : Nat} {S : List Value} : rn ca C_X9_firstTubeTo 108 L (.ref b :: S) M = if clsO b = some 9 then rn ca C_X9_firstTubeTo 111 L (fv M b 0 :: S) M else none := (rn_at k_X9_firstTubeTo_108).trans rnx_ite
theorem k_X9_firstTubeTo_111 : lk 111 C_X9_firstTubeTo = some (.iload 6, (0, 0, 0, 0)) := by decide +kernel
theorem s_X9_firstTubeTo_111 {ca : Nat → List Value → tM → tO} {M : tM} {a0 a1 a2 a3 a4 a5 : Option Value} {x : Int32} {S : List Value} : rn ca C_X9_firstTubeTo 111 [a0, a1, a2, a3, a4, a5, some (.int x)] S M = rn ca C_X9_firstTubeTo 113 [a0, a1, a2, a3, a4, a5, some (.int x)] (.int x :: S) M := (rn_at k_X9_firstTubeTo_111).trans rfl
theorem k_X9_firstTubeTo_113 : lk 113 C_X9_firstTubeTo = some (.iaload, (0, 0, 0, 0)) := by decide +kernel
theorem s_X9_firstTubeTo_113 {ca : Nat → List Value → tM → tO} {M : tM} {L : tL} {a : Nat} {i : Int32} {S : List Value} : rn ca C_X9_firstTubeTo 113 L (.int i :: .ref a :: S) M = if (akind a = 0 ∨ akind a = 6 ∨ akind a = 7) ∧ inb i (alen M a) then rn ca C_X9_firstTubeTo 114 L (.int (M.1 a i.toInt.toNat) :: S) M else none := (rn_at k_X9_firstTubeTo_113).trans rnx_ite
theorem k_X9_firstTubeTo_114 : lk 114 C_X9_firstTubeTo = some (.aload_n 0, (0, 0, 0, 0)) := by decide +kernel
theorem s_X9_firstTubeTo_114 {ca : Nat → List Value → tM → tO} {M : tM} {a1 a2 a3 a4 a5 a6 : Option Value} {x : Nat} {S : List Value} : rn ca C_X9_firstTubeTo 114 [some (.ref x), a1, a2, a3, a4, a5, a6] S M = rn ca C_X9_firstTubeTo 115 [some (.ref x), a1, a2, a3, a4, a5, a6] (.ref x :: S) M := (rn_at k_X9_firstTubeTo_114).trans rfl
theorem k_X9_firstTubeTo_115 : lk 115 C_X9_firstTubeTo = some (.aload_n 1, (0, 0, 0, 0)) := by decide +kernel
theorem s_X9_firstTubeTo_115 {ca : Nat → List Value → tM → tO} {M : tM} {a0 a2 a3 a4 a5 a6 : Option Value} {x : Nat} {S : List Value} : rn ca C_X9_firstTubeTo 115 [a0, some (.ref x), a2, a3, a4, a5, a6] S M = rn ca C_X9_firstTubeTo 116 [a0, some (.ref x), a2, a3, a4, a5, a6] (.ref x :: S) M := (rn_at k_X9_firstTubeTo_115).trans rfl
theorem k_X9_firstTubeTo_116 : lk 116 C_X9_firstTubeTo = some (.getfield 66, (4, 4, 0, 100019)) := by decide +kernel
theorem s_X9_firstTubeTo_116 {ca : Nat → List Value → tM → tO} {M : tM} {L : tL} {b : Nat} {S : List Value} : rn ca C_X9_firstTubeTo 116 L (.ref b :: S) M = if clsO b = some 4 then rn ca C_X9_firstTubeTo 119 L (fv M b 4 :: S) M else none := (rn_at k_X9_firstTubeTo_116).trans rnx_ite
theorem k_X9_firstTubeTo_119 : lk 119 C_X9_firstTubeTo = some (.iload 6, (0, 0, 0, 0)) := by decide +kernel
theorem s_X9_firstTubeTo_119 {ca : Nat → List Value → tM → tO} {M : tM} {a0 a1 a2 a3 a4 a5 : Option Value} {x : Int32} {S : List Value} : rn ca C_X9_firstTubeTo 119 [a0, a1, a2, a3, a4, a5, some (.int x)] S M = rn ca C_X9_firstTubeTo 121 [a0, a1, a2, a3, a4, a5, some (.int x)] (.int x :: S) M := (rn_at k_X9_firstTubeTo_119).trans rfl
theorem k_X9_firstTubeTo_121 : lk 121 C_X9_firstTubeTo = some (.iaload, (0, 0, 0, 0)) := by decide +kernel
theorem s_X9_firstTubeTo_121 {ca : Nat → List Value → tM → tO} {M : tM} {L : tL} {a : Nat} {i : Int32} {S : List Value} : rn ca C_X9_firstTubeTo 121 L (.int i :: .ref a :: S) M = if (akind a = 0 ∨ akind a = 6 ∨ akind a = 7) ∧ inb i (alen M a) then rn ca C_X9_firstTubeTo 122 L (.int (M.1 a i.toInt.toNat) :: S) M else none := (rn_at k_X9_firstTubeTo_121).trans rnx_ite
theorem k_X9_firstTubeTo_122 : lk 122 C_X9_firstTubeTo = some (.iload_n 3, (0, 0, 0, 0)) := by decide +kernel
theorem s_X9_firstTubeTo_122 {ca : Nat → List Value → tM → tO} {M : tM} {a0 a1 a2 a4 a5 a6 : Option Value} {x : Int32} {S : List Value} : rn ca C_X9_firstTubeTo 122 [a0, a1, a2, some (.int x), a4, a5, a6] S M = rn ca C_X9_firstTubeTo 123 [a0, a1, a2, some (.int x), a4, a5, a6] (.int x :: S) M := (rn_at k_X9_firstTubeTo_122).trans rfl
theorem k_X9_firstTubeTo_123 : lk 123 C_X9_firstTubeTo = some (.invokevirtual 110, (85, 2, 9, 736)) := by decide +kernel
theorem s_X9_firstTubeTo_123 {ca : Nat → List Value → tM → tO} {M : tM} {L : tL} {v1 v2 : Value} {r0 : Int32} {b : Nat} : rn ca C_X9_firstTubeTo 123 L [v2, v1, .ref b, .int r0] M = if clsO b = some 9 then rnk ca C_X9_firstTubeTo 126 L [.int r0] (ca m_X9_between [.ref b, v1, v2] M) else none := (rn_at k_X9_firstTubeTo_123).trans rnx_ite
theorem k_X9_firstTubeTo_126 : lk 126 C_X9_firstTubeTo = some (.iadd, (0, 0, 0, 0)) := by decide +kernel
theorem s_X9_firstTubeTo_126 {ca : Nat → List Value → tM → tO} {M : tM} {L : tL} {x y : Int32} {S : List Value} : rn ca C_X9_firstTubeTo 126 L (.int y :: .int x :: S) M = rn ca C_X9_firstTubeTo 127 L (.int (x + y) :: S) M := (rn_at k_X9_firstTubeTo_126).trans rfl
theorem k_X9_firstTubeTo_127 : lk 127 C_X9_firstTubeTo = some (.iload 5, (0, 0, 0, 0)) := by decide +kernel
theorem s_X9_firstTubeTo_127 {ca : Nat → List Value → tM → tO} {M : tM} {a0 a1 a2 a3 a4 a6 : Option Value} {x : Int32} {S : List Value} : rn ca C_X9_firstTubeTo 127 [a0, a1, a2, a3, a4, some (.int x), a6] S M = rn ca C_X9_firstTubeTo 129 [a0, a1, a2, a3, a4, some (.int x), a6] (.int x :: S) M := (rn_at k_X9_firstTubeTo_127).trans rfl
theorem k_X9_firstTubeTo_129 : lk 129 C_X9_firstTubeTo = some (.if_icmp .ne 6, (135, 0, 0, 0)) := by decide +kernel
theorem s_X9_firstTubeTo_129 {ca : Nat → List Value → tM → tO} {M : tM} {L : tL} {x y : Int32} {S : List Value} : rn ca C_X9_firstTubeTo 129 L (.int y :: .int x :: S) M = if ¬ x = y then rn ca C_X9_firstTubeTo 135 L S M else rn ca C_X9_firstTubeTo 132 L S M := (rn_at k_X9_firstTubeTo_129).trans rnx_ite
theorem k_X9_firstTubeTo_132 : lk 132 C_X9_firstTubeTo = some (.iload 6, (0, 0, 0, 0)) := by decide +kernel
theorem s_X9_firstTubeTo_132 {ca : Nat → List Value → tM → tO} {M : tM} {a0 a1 a2 a3 a4 a5 : Option Value} {x : Int32} {S : List Value} : rn ca C_X9_firstTubeTo 132 [a0, a1, a2, a3, a4, a5, some (.int x)] S M = rn ca C_X9_firstTubeTo 134 [a0, a1, a2, a3, a4, a5, some (.int x)] (.int x :: S) M := (rn_at k_X9_firstTubeTo_132).trans rfl
theorem k_X9_firstTubeTo_134 : lk 134 C_X9_firstTubeTo = some (.ireturn, (0, 0, 0, 0)) := by decide +kernel
theorem s_X9_firstTubeTo_134 {ca : Nat → List Value → tM → tO} {M : tM} {L : tL} {x : Int32} : rn ca C_X9_firstTubeTo 134 L [.int x] M = some (some (.int x), M) := (rn_at k_X9_firstTubeTo_134).trans rfl
theorem k_X9_firstTubeTo_135 : lk 135 C_X9_firstTubeTo = some (.aload_n 0, (0, 0, 0, 0)) := by decide +kernel
theorem s_X9_firstTubeTo_135 {ca : Nat → List Value → tM → tO} {M : tM} {a1 a2 a3 a4 a5 a6 : Option Value} {x : Nat} {S : List Value} : rn ca C_X9_firstTubeTo 135 [some (.ref x), a1, a2, a3, a4, a5, a6] S M = rn ca C_X9_firstTubeTo 136 [some (.ref x), a1, a2, a3, a4, a5, a6] (.ref x :: S) M := (rn_at k_X9_firstTubeTo_135).trans rfl
theorem k_X9_firstTubeTo_136 : lk 136 C_X9_firstTubeTo = some (.getfield 19, (9, 2, 0, 92)) := by decide +kernel
theorem s_X9_firstTubeTo_136 {ca : Nat → List Value → tM → tO} {M : tM} {L : tL} {b : Nat} {S : List Value} : rn ca C_X9_firstTubeTo 136 L (.ref b :: S) M = if clsO b = some 9 then rn ca C_X9_firstTubeTo 139 L (fv M b 2 :: S) M else none := (rn_at k_X9_firstTubeTo_136).trans rnx_ite
theorem k_X9_firstTubeTo_139 : lk 139 C_X9_firstTubeTo = some (.iload 6, (0, 0, 0, 0)) := by decide +kernel
theorem s_X9_firstTubeTo_139 {ca : Nat → List Value → tM → tO} {M : tM} {a0 a1 a2 a3 a4 a5 : Option Value} {x : Int32} {S : List Value} : rn ca C_X9_firstTubeTo 139 [a0, a1, a2, a3, a4, a5, some (.int x)] S M = rn ca C_X9_firstTubeTo 141 [a0, a1, a2, a3, a4, a5, some (.int x)] (.int x :: S) M := (rn_at k_X9_firstTubeTo_139).trans rfl
theorem k_X9_firstTubeTo_141 : lk 141 C_X9_firstTubeTo = some (.baload, (0, 0, 0, 0)) := by decide +kernel
theorem s_X9_firstTubeTo_141 {ca : Nat → List Value → tM → tO} {M : tM} {L : tL} {a : Nat} {i : Int32} {S : List Value} : rn ca C_X9_firstTubeTo 141 L (.int i :: .ref a :: S) M = if akind a = 1 ∧ inb i (alen M a) then rn ca C_X9_firstTubeTo 142 L (.int (M.1 a i.toInt.toNat) :: S) M else none := (rn_at k_X9_firstTubeTo_141).trans rnx_ite
theorem k_X9_firstTubeTo_142 : lk 142 C_X9_firstTubeTo = some (.ifCond .eq 43, (185, 0, 0, 0)) := by decide +kernel
theorem s_X9_firstTubeTo_142 {ca : Nat → List Value → tM → tO} {M : tM} {L : tL} {x : Int32} {S : List Value} : rn ca C_X9_firstTubeTo 142 L (.int x :: S) M = if x = iI 0 then rn ca C_X9_firstTubeTo 185 L S M else rn ca C_X9_firstTubeTo 145 L S M := (rn_at k_X9_firstTubeTo_142).trans rnx_ite
theorem k_X9_firstTubeTo_145 : lk 145 C_X9_firstTubeTo = some (.aload_n 1, (0, 0, 0, 0)) := by decide +kernel
theorem s_X9_firstTubeTo_145 {ca : Nat → List Value → tM → tO} {M : tM} {a0 a2 a3 a4 a5 a6 : Option Value} {x : Nat} {S : List Value} : rn ca C_X9_firstTubeTo 145 [a0, some (.ref x), a2, a3, a4, a5, a6] S M = rn ca C_X9_firstTubeTo 146 [a0, some (.ref x), a2, a3, a4, a5, a6] (.ref x :: S) M := (rn_at k_X9_firstTubeTo_145).trans rfl
theorem k_X9_firstTubeTo_146 : lk 146 C_X9_firstTubeTo = some (.getfield 66, (4, 4, 0, 100019)) := by decide +kernel
theorem s_X9_firstTubeTo_146 {ca : Nat → List Value → tM → tO} {M : tM} {L : tL} {b : Nat} {S : List Value} : rn ca C_X9_firstTubeTo 146 L (.ref b :: S) M = if clsO b = some 4 then rn ca C_X9_firstTubeTo 149 L (fv M b 4 :: S) M else none := (rn_at k_X9_firstTubeTo_146).trans rnx_ite
theorem k_X9_firstTubeTo_149 : lk 149 C_X9_firstTubeTo = some (.iload 6, (0, 0, 0, 0)) := by decide +kernel
theorem s_X9_firstTubeTo_149 {ca : Nat → List Value → tM → tO} {M : tM} {a0 a1 a2 a3 a4 a5 : Option Value} {x : Int32} {S : List Value} : rn ca C_X9_firstTubeTo 149 [a0, a1, a2, a3, a4, a5, some (.int x)] S M = rn ca C_X9_firstTubeTo 151 [a0, a1, a2, a3, a4, a5, some (.int x)] (.int x :: S) M := (rn_at k_X9_firstTubeTo_149).trans rfl
theorem k_X9_firstTubeTo_151 : lk 151 C_X9_firstTubeTo = some (.iaload, (0, 0, 0, 0)) := by decide +kernel
theorem s_X9_firstTubeTo_151 {ca : Nat → List Value → tM → tO} {M : tM} {L : tL} {a : Nat} {i : Int32} {S : List Value} : rn ca C_X9_firstTubeTo 151 L (.int i :: .ref a :: S) M = if (akind a = 0 ∨ akind a = 6 ∨ akind a = 7) ∧ inb i (alen M a) then rn ca C_X9_firstTubeTo 152 L (.int (M.1 a i.toInt.toNat) :: S) M else none := (rn_at k_X9_firstTubeTo_151).trans rnx_ite
theorem k_X9_firstTubeTo_152 : lk 152 C_X9_firstTubeTo = some (.iload 4, (0, 0, 0, 0)) := by decide +kernel
theorem s_X9_firstTubeTo_152 {ca : Nat → List Value → tM → tO} {M : tM} {a0 a1 a2 a3 a5 a6 : Option Value} {x : Int32} {S : List Value} : rn ca C_X9_firstTubeTo 152 [a0, a1, a2, a3, some (.int x), a5, a6] S M = rn ca C_X9_firstTubeTo 154 [a0, a1, a2, a3, some (.int x), a5, a6] (.int x :: S) M := (rn_at k_X9_firstTubeTo_152).trans rfl
theorem k_X9_firstTubeTo_154 : lk 154 C_X9_firstTubeTo = some (.if_icmp .ne 31, (185, 0, 0, 0)) := by decide +kernel
theorem s_X9_firstTubeTo_154 {ca : Nat → List Value → tM → tO} {M : tM} {L : tL} {x y : Int32} {S : List Value} : rn ca C_X9_firstTubeTo 154 L (.int y :: .int x :: S) M = if ¬ x = y then rn ca C_X9_firstTubeTo 185 L S M else rn ca C_X9_firstTubeTo 157 L S M := (rn_at k_X9_firstTubeTo_154).trans rnx_ite
theorem k_X9_firstTubeTo_157 : lk 157 C_X9_firstTubeTo = some (.aload_n 0, (0, 0, 0, 0)) := by decide +kernel
theorem s_X9_firstTubeTo_157 {ca : Nat → List Value → tM → tO} {M : tM} {a1 a2 a3 a4 a5 a6 : Option Value} {x : Nat} {S : List Value} : rn ca C_X9_firstTubeTo 157 [some (.ref x), a1, a2, a3, a4, a5, a6] S M = rn ca C_X9_firstTubeTo 158 [some (.ref x), a1, a2, a3, a4, a5, a6] (.ref x :: S) M := (rn_at k_X9_firstTubeTo_157).trans rfl
theorem k_X9_firstTubeTo_158 : lk 158 C_X9_firstTubeTo = some (.getfield 9, (9, 0, 0, 89)) := by decide +kernel
theorem s_X9_firstTubeTo_158 {ca : Nat → List Value → tM → tO} {M : tM} {L : tL} {b : Nat} {S : List Value} : rn ca C_X9_firstTubeTo 158 L (.ref b :: S) M = if clsO b = some 9 then rn ca C_X9_firstTubeTo 161 L (fv M b 0 :: S) M else none := (rn_at k_X9_firstTubeTo_158).trans rnx_ite
theorem k_X9_firstTubeTo_161 : lk 161 C_X9_firstTubeTo = some (.iload 6, (0, 0, 0, 0)) := by decide +kernel
theorem s_X9_firstTubeTo_161 {ca : Nat → List Value → tM → tO} {M : tM} {a0 a1 a2 a3 a4 a5 : Option Value} {x : Int32} {S : List Value} : rn ca C_X9_firstTubeTo 161 [a0, a1, a2, a3, a4, a5, some (.int x)] S M = rn ca C_X9_firstTubeTo 163 [a0, a1, a2, a3, a4, a5, some (.int x)] (.int x :: S) M := (rn_at k_X9_firstTubeTo_161).trans rfl
theorem k_X9_firstTubeTo_163 : lk 163 C_X9_firstTubeTo = some (.iaload, (0, 0, 0, 0)) := by decide +kernel
theorem s_X9_firstTubeTo_163 {ca : Nat → List Value → tM → tO} {M : tM} {L : tL} {a : Nat} {i : Int32} {S : List Value} : rn ca C_X9_firstTubeTo 163 L (.int i :: .ref a :: S) M = if (akind a = 0 ∨ akind a = 6 ∨ akind a = 7) ∧ inb i (alen M a) then rn ca C_X9_firstTubeTo 164 L (.int (M.1 a i.toInt.toNat) :: S) M else none := (rn_at k_X9_firstTubeTo_163).trans rnx_ite
theorem k_X9_firstTubeTo_164 : lk 164 C_X9_firstTubeTo = some (.aload_n 0, (0, 0, 0, 0)) := by decide +kernel
theorem s_X9_firstTubeTo_164 {ca : Nat → List Value → tM → tO} {M : tM} {a1 a2 a3 a4 a5 a6 : Option Value} {x : Nat} {S : List Value} : rn ca C_X9_firstTubeTo 164 [some (.ref x), a1, a2, a3, a4, a5, a6] S M = rn ca C_X9_firstTubeTo 165 [some (.ref x), a1, a2, a3, a4, a5, a6] (.ref x :: S) M := (rn_at k_X9_firstTubeTo_164).trans rfl
theorem k_X9_firstTubeTo_165 : lk 165 C_X9_firstTubeTo = some (.aload_n 1, (0, 0, 0, 0)) := by decide +kernel
theorem s_X9_firstTubeTo_165 {ca : Nat → List Value → tM → tO} {M : tM} {a0 a2 a3 a4 a5 a6 : Option Value} {x : Nat} {S : List Value} : rn ca C_X9_firstTubeTo 165 [a0, some (.ref x), a2, a3, a4, a5, a6] S M = rn ca C_X9_firstTubeTo 166 [a0, some (.ref x), a2, a3, a4, a5, a6] (.ref x :: S) M := (rn_at k_X9_firstTubeTo_165).trans rfl
theorem k_X9_firstTubeTo_166 : lk 166 C_X9_firstTubeTo = some (.getfield 63, (4, 3, 0, 100014)) := by decide +kernel
theorem s_X9_firstTubeTo_166 {ca : Nat → List Value → tM → tO} {M : tM} {L : tL} {b : Nat} {S : List Value} : rn ca C_X9_firstTubeTo 166 L (.ref b :: S) M = if clsO b = some 4 then rn ca C_X9_firstTubeTo 169 L (fv M b 3 :: S) M else none := (rn_at k_X9_firstTubeTo_166).trans rnx_ite
theorem k_X9_firstTubeTo_169 : lk 169 C_X9_firstTubeTo = some (.iload 6, (0, 0, 0, 0)) := by decide +kernel
theorem s_X9_firstTubeTo_169 {ca : Nat → List Value → tM → tO} {M : tM} {a0 a1 a2 a3 a4 a5 : Option Value} {x : Int32} {S : List Value} : rn ca C_X9_firstTubeTo 169 [a0, a1, a2, a3, a4, a5, some (.int x)] S M = rn ca C_X9_firstTubeTo 171 [a0, a1, a2, a3, a4, a5, some (.int x)] (.int x :: S) M := (rn_at k_X9_firstTubeTo_169).trans rfl
theorem k_X9_firstTubeTo_171 : lk 171 C_X9_firstTubeTo = some (.iaload, (0, 0, 0, 0)) := by decide +kernel
theorem s_X9_firstTubeTo_171 {ca : Nat → List Value → tM → tO} {M : tM} {L : tL} {a : Nat} {i : Int32} {S : List Value} : rn ca C_X9_firstTubeTo 171 L (.int i :: .ref a :: S) M = if (akind a = 0 ∨ akind a = 6 ∨ akind a = 7) ∧ inb i (alen M a) then rn ca C_X9_firstTubeTo 172 L (.int (M.1 a i.toInt.toNat) :: S) M else none := (rn_at k_X9_firstTubeTo_171).trans rnx_ite
theorem k_X9_firstTubeTo_172 : lk 172 C_X9_firstTubeTo = some (.iload_n 3, (0, 0, 0, 0)) := by decide +kernel
theorem s_X9_firstTubeTo_172 {ca : Nat → List Value → tM → tO} {M : tM} {a0 a1 a2 a4 a5 a6 : Option Value} {x : Int32} {S : List Value} : rn ca C_X9_firstTubeTo 172 [a0, a1, a2, some (.int x), a4, a5, a6] S M = rn ca C_X9_firstTubeTo 173 [a0, a1, a2, some (.int x), a4, a5, a6] (.int x :: S) M := (rn_at k_X9_firstTubeTo_172).trans rfl
theorem k_X9_firstTubeTo_173 : lk 173 C_X9_firstTubeTo = some (.invokevirtual 110, (85, 2, 9, 736)) := by decide +kernel
theorem s_X9_firstTubeTo_173 {ca : Nat → List Value → tM → tO} {M : tM} {L : tL} {v1 v2 : Value} {r0 : Int32} {b : Nat} : rn ca C_X9_firstTubeTo 173 L [v2, v1, .ref b, .int r0] M = if clsO b = some 9 then rnk ca C_X9_firstTubeTo 176 L [.int r0] (ca m_X9_between [.ref b, v1, v2] M) else none := (rn_at k_X9_firstTubeTo_173).trans rnx_ite
theorem k_X9_firstTubeTo_176 : lk 176 C_X9_firstTubeTo = some (.iadd, (0, 0, 0, 0)) := by decide +kernel
theorem s_X9_firstTubeTo_176 {ca : Nat → List Value → tM → tO} {M : tM} {L : tL} {x y : Int32} {S : List Value} : rn ca C_X9_firstTubeTo 176 L (.int y :: .int x :: S) M = rn ca C_X9_firstTubeTo 177 L (.int (x + y) :: S) M := (rn_at k_X9_firstTubeTo_176).trans rfl
theorem k_X9_firstTubeTo_177 : lk 177 C_X9_firstTubeTo = some (.iload 5, (0, 0, 0, 0)) := by decide +kernel
theorem s_X9_firstTubeTo_177 {ca : Nat → List Value → tM → tO} {M : tM} {a0 a1 a2 a3 a4 a6 : Option Value} {x : Int32} {S : List Value} : rn ca C_X9_firstTubeTo 177 [a0, a1, a2, a3, a4, some (.int x), a6] S M = rn ca C_X9_firstTubeTo 179 [a0, a1, a2, a3, a4, some (.int x), a6] (.int x :: S) M := (rn_at k_X9_firstTubeTo_177).trans rfl
theorem k_X9_firstTubeTo_179 : lk 179 C_X9_firstTubeTo = some (.if_icmp .ne 6, (185, 0, 0, 0)) := by decide +kernel
theorem s_X9_firstTubeTo_179 {ca : Nat → List Value → tM → tO} {M : tM} {L : tL} {x y : Int32} {S : List Value} : rn ca C_X9_firstTubeTo 179 L (.int y :: .int x :: S) M = if ¬ x = y then rn ca C_X9_firstTubeTo 185 L S M else rn ca C_X9_firstTubeTo 182 L S M := (rn_at k_X9_firstTubeTo_179).trans rnx_ite
theorem k_X9_firstTubeTo_182 : lk 182 C_X9_firstTubeTo = some (.iload 6, (0, 0, 0, 0)) := by decide +kernel
theorem s_X9_firstTubeTo_182 {ca : Nat → List Value → tM → tO} {M : tM} {a0 a1 a2 a3 a4 a5 : Option Value} {x : Int32} {S : List Value} : rn ca C_X9_firstTubeTo 182 [a0, a1, a2, a3, a4, a5, some (.int x)] S M = rn ca C_X9_firstTubeTo 184 [a0, a1, a2, a3, a4, a5, some (.int x)] (.int x :: S) M := (rn_at k_X9_firstTubeTo_182).trans rfl
theorem k_X9_firstTubeTo_184 : lk 184 C_X9_firstTubeTo = some (.ireturn, (0, 0, 0, 0)) := by decide +kernel
theorem s_X9_firstTubeTo_184 {ca : Nat → List Value → tM → tO} {M : tM} {L : tL} {x : Int32} : rn ca C_X9_firstTubeTo 184 L [.int x] M = some (some (.int x), M) := (rn_at k_X9_firstTubeTo_184).trans rfl
theorem k_X9_firstTubeTo_185 : lk 185 C_X9_firstTubeTo = some (.iinc 6 1, (0, 0, 0, 0)) := by decide +kernel
theorem s_X9_firstTubeTo_185 {ca : Nat → List Value → tM → tO} {M : tM} {a0 a1 a2 a3 a4 a5 : Option Value} {x : Int32} {S : List Value} : rn ca C_X9_firstTubeTo 185 [a0, a1, a2, a3, a4, a5, some (.int x)] S M = rn ca C_X9_firstTubeTo 188 [a0, a1, a2, a3, a4, a5, some (.int (x + iI 1))] S M := (rn_at k_X9_firstTubeTo_185).trans rfl
theorem k_X9_firstTubeTo_188 : lk 188 C_X9_firstTubeTo = some (.goto (-119), (69, 0, 0, 0)) := by decide +kernel
theorem s_X9_firstTubeTo_188 {ca : Nat → List Value → tM → tO} {M : tM} {L : tL} {S : List Value} : rn ca C_X9_firstTubeTo 188 L S M = rn ca C_X9_firstTubeTo 69 L S M := (rn_at k_X9_firstTubeTo_188).trans rfl
theorem k_X9_firstTubeTo_191 : lk 191 C_X9_firstTubeTo = some (.iconst (-1), (0, 0, 0, 0)) := by decide +kernel
theorem s_X9_firstTubeTo_191 {ca : Nat → List Value → tM → tO} {M : tM} {L : tL} {S : List Value} : rn ca C_X9_firstTubeTo 191 L S M = rn ca C_X9_firstTubeTo 192 L (.int (iI (-1)) :: S) M := (rn_at k_X9_firstTubeTo_191).trans rfl
theorem k_X9_firstTubeTo_192 : lk 192 C_X9_firstTubeTo = some (.ireturn, (0, 0, 0, 0)) := by decide +kernel
theorem s_X9_firstTubeTo_192 {ca : Nat → List Value → tM → tO} {M : tM} {L : tL} {x : Int32} : rn ca C_X9_firstTubeTo 192 L [.int x] M = some (some (.int x), M) := (rn_at k_X9_firstTubeTo_192).trans rfl
theorem k_X9_desksWithin_0 : lk 0 C_X9_desksWithin = some (.iconst 0, (0, 0, 0, 0)) := by decide +kernel
theorem s_X9_desksWithin_0 {ca : Nat → List Value → tM → tO} {M : tM} {L : tL} {S : List Value} : rn ca C_X9_desksWithin 0 L S M = rn ca C_X9_desksWithin 1 L (.int (iI 0) :: S) M := (rn_at k_X9_desksWithin_0).trans rfl
theorem k_X9_desksWithin_1 : lk 1 C_X9_desksWithin = some (.istore_n 3, (0, 0, 0, 0)) := by decide +kernel
theorem s_X9_desksWithin_1 {ca : Nat → List Value → tM → tO} {M : tM} {a0 a1 a2 a3 a4 : Option Value} {x : Int32} {S : List Value} : rn ca C_X9_desksWithin 1 [a0, a1, a2, a3, a4] (.int x :: S) M = rn ca C_X9_desksWithin 2 [a0, a1, a2, some (.int x), a4] S M := (rn_at k_X9_desksWithin_1).trans rfl
theorem k_X9_desksWithin_2 : lk 2 C_X9_desksWithin = some (.iconst 0, (0, 0, 0, 0)) := by decide +kernel
theorem s_X9_desksWithin_2 {ca : Nat → List Value → tM → tO} {M : tM} {L : tL} {S : List Value} : rn ca C_X9_desksWithin 2 L S M = rn ca C_X9_desksWithin 3 L (.int (iI 0) :: S) M := (rn_at k_X9_desksWithin_2).trans rfl
theorem k_X9_desksWithin_3 : lk 3 C_X9_desksWithin = some (.istore 4, (0, 0, 0, 0)) := by decide +kernel
theorem s_X9_desksWithin_3 {ca : Nat → List Value → tM → tO} {M : tM} {a0 a1 a2 a3 a4 : Option Value} {x : Int32} {S : List Value} : rn ca C_X9_desksWithin 3 [a0, a1, a2, a3, a4] (.int x :: S) M = rn ca C_X9_desksWithin 5 [a0, a1, a2, a3, some (.int x)] S M := (rn_at k_X9_desksWithin_3).trans rfl
theorem k_X9_desksWithin_5 : lk 5 C_X9_desksWithin = some (.iload 4, (0, 0, 0, 0)) := by decide +kernel
theorem s_X9_desksWithin_5 {ca : Nat → List Value → tM → tO} {M : tM} {a0 a1 a2 a3 : Option Value} {x : Int32} {S : List Value} : rn ca C_X9_desksWithin 5 [a0, a1, a2, a3, some (.int x)] S M = rn ca C_X9_desksWithin 7 [a0, a1, a2, a3, some (.int x)] (.int x :: S) M := (rn_at k_X9_desksWithin_5).trans rfl
theorem k_X9_desksWithin_7 : lk 7 C_X9_desksWithin = some (.aload_n 1, (0, 0, 0, 0)) := by decide +kernel
theorem s_X9_desksWithin_7 {ca : Nat → List Value → tM → tO} {M : tM} {a0 a2 a3 a4 : Option Value} {x : Nat} {S : List Value} : rn ca C_X9_desksWithin 7 [a0, some (.ref x), a2, a3, a4] S M = rn ca C_X9_desksWithin 8 [a0, some (.ref x), a2, a3, a4] (.ref x :: S) M := (rn_at k_X9_desksWithin_7).trans rfl
theorem k_X9_desksWithin_8 : lk 8 C_X9_desksWithin = some (.getfield 76, (4, 0, 0, 100003)) := by decide +kernel
theorem s_X9_desksWithin_8 {ca : Nat → List Value → tM → tO} {M : tM} {L : tL} {b : Nat} {S : List Value} : rn ca C_X9_desksWithin 8 L (.ref b :: S) M = if clsO b = some 4 then rn ca C_X9_desksWithin 11 L (fv M b 0 :: S) M else none := (rn_at k_X9_desksWithin_8).trans rnx_ite
theorem k_X9_desksWithin_11 : lk 11 C_X9_desksWithin = some (.if_icmp .ge 34, (45, 0, 0, 0)) := by decide +kernel
theorem s_X9_desksWithin_11 {ca : Nat → List Value → tM → tO} {M : tM} {L : tL} {x y : Int32} {S : List Value} : rn ca C_X9_desksWithin 11 L (.int y :: .int x :: S) M = if y ≤ x then rn ca C_X9_desksWithin 45 L S M else rn ca C_X9_desksWithin 14 L S M := (rn_at k_X9_desksWithin_11).trans rnx_ite
theorem k_X9_desksWithin_14 : lk 14 C_X9_desksWithin = some (.iload 4, (0, 0, 0, 0)) := by decide +kernel
theorem s_X9_desksWithin_14 {ca : Nat → List Value → tM → tO} {M : tM} {a0 a1 a2 a3 : Option Value} {x : Int32} {S : List Value} : rn ca C_X9_desksWithin 14 [a0, a1, a2, a3, some (.int x)] S M = rn ca C_X9_desksWithin 16 [a0, a1, a2, a3, some (.int x)] (.int x :: S) M := (rn_at k_X9_desksWithin_14).trans rfl
theorem k_X9_desksWithin_16 : lk 16 C_X9_desksWithin = some (.bipush 8, (0, 0, 0, 0)) := by decide +kernel
theorem s_X9_desksWithin_16 {ca : Nat → List Value → tM → tO} {M : tM} {L : tL} {S : List Value} : rn ca C_X9_desksWithin 16 L S M = rn ca C_X9_desksWithin 18 L (.int (iI 8) :: S) M := (rn_at k_X9_desksWithin_16).trans rfl
theorem k_X9_desksWithin_18 : lk 18 C_X9_desksWithin = some (.if_icmp .ge 27, (45, 0, 0, 0)) := by decide +kernel
theorem s_X9_desksWithin_18 {ca : Nat → List Value → tM → tO} {M : tM} {L : tL} {x y : Int32} {S : List Value} : rn ca C_X9_desksWithin 18 L (.int y :: .int x :: S) M = if y ≤ x then rn ca C_X9_desksWithin 45 L S M else rn ca C_X9_desksWithin 21 L S M := (rn_at k_X9_desksWithin_18).trans rnx_ite
theorem k_X9_desksWithin_21 : lk 21 C_X9_desksWithin = some (.aload_n 0, (0, 0, 0, 0)) := by decide +kernel
theorem s_X9_desksWithin_21 {ca : Nat → List Value → tM → tO} {M : tM} {a1 a2 a3 a4 : Option Value} {x : Nat} {S : List Value} : rn ca C_X9_desksWithin 21 [some (.ref x), a1, a2, a3, a4] S M = rn ca C_X9_desksWithin 22 [some (.ref x), a1, a2, a3, a4] (.ref x :: S) M := (rn_at k_X9_desksWithin_21).trans rfl
theorem k_X9_desksWithin_22 : lk 22 C_X9_desksWithin = some (.getfield 22, (9, 3, 0, 93)) := by decide +kernel
theorem s_X9_desksWithin_22 {ca : Nat → List Value → tM → tO} {M : tM} {L : tL} {b : Nat} {S : List Value} : rn ca C_X9_desksWithin 22 L (.ref b :: S) M = if clsO b = some 9 then rn ca C_X9_desksWithin 25 L (fv M b 3 :: S) M else none := (rn_at k_X9_desksWithin_22).trans rnx_ite
theorem k_X9_desksWithin_25 : lk 25 C_X9_desksWithin = some (.iload 4, (0, 0, 0, 0)) := by decide +kernel
theorem s_X9_desksWithin_25 {ca : Nat → List Value → tM → tO} {M : tM} {a0 a1 a2 a3 : Option Value} {x : Int32} {S : List Value} : rn ca C_X9_desksWithin 25 [a0, a1, a2, a3, some (.int x)] S M = rn ca C_X9_desksWithin 27 [a0, a1, a2, a3, some (.int x)] (.int x :: S) M := (rn_at k_X9_desksWithin_25).trans rfl
theorem k_X9_desksWithin_27 : lk 27 C_X9_desksWithin = some (.iaload, (0, 0, 0, 0)) := by decide +kernel
theorem s_X9_desksWithin_27 {ca : Nat → List Value → tM → tO} {M : tM} {L : tL} {a : Nat} {i : Int32} {S : List Value} : rn ca C_X9_desksWithin 27 L (.int i :: .ref a :: S) M = if (akind a = 0 ∨ akind a = 6 ∨ akind a = 7) ∧ inb i (alen M a) then rn ca C_X9_desksWithin 28 L (.int (M.1 a i.toInt.toNat) :: S) M else none := (rn_at k_X9_desksWithin_27).trans rnx_ite
theorem k_X9_desksWithin_28 : lk 28 C_X9_desksWithin = some (.iload_n 2, (0, 0, 0, 0)) := by decide +kernel
theorem s_X9_desksWithin_28 {ca : Nat → List Value → tM → tO} {M : tM} {a0 a1 a3 a4 : Option Value} {x : Int32} {S : List Value} : rn ca C_X9_desksWithin 28 [a0, a1, some (.int x), a3, a4] S M = rn ca C_X9_desksWithin 29 [a0, a1, some (.int x), a3, a4] (.int x :: S) M := (rn_at k_X9_desksWithin_28).trans rfl
theorem k_X9_desksWithin_29 : lk 29 C_X9_desksWithin = some (.if_icmp .gt 10, (39, 0, 0, 0)) := by decide +kernel
theorem s_X9_desksWithin_29 {ca : Nat → List Value → tM → tO} {M : tM} {L : tL} {x y : Int32} {S : List Value} : rn ca C_X9_desksWithin 29 L (.int y :: .int x :: S) M = if y < x then rn ca C_X9_desksWithin 39 L S M else rn ca C_X9_desksWithin 32 L S M := (rn_at k_X9_desksWithin_29).trans rnx_ite
theorem k_X9_desksWithin_32 : lk 32 C_X9_desksWithin = some (.iload_n 3, (0, 0, 0, 0)) := by decide +kernel
theorem s_X9_desksWithin_32 {ca : Nat → List Value → tM → tO} {M : tM} {a0 a1 a2 a4 : Option Value} {x : Int32} {S : List Value} : rn ca C_X9_desksWithin 32 [a0, a1, a2, some (.int x), a4] S M = rn ca C_X9_desksWithin 33 [a0, a1, a2, some (.int x), a4] (.int x :: S) M := (rn_at k_X9_desksWithin_32).trans rfl
theorem k_X9_desksWithin_33 : lk 33 C_X9_desksWithin = some (.iconst 1, (0, 0, 0, 0)) := by decide +kernel
theorem s_X9_desksWithin_33 {ca : Nat → List Value → tM → tO} {M : tM} {L : tL} {S : List Value} : rn ca C_X9_desksWithin 33 L S M = rn ca C_X9_desksWithin 34 L (.int (iI 1) :: S) M := (rn_at k_X9_desksWithin_33).trans rfl
theorem k_X9_desksWithin_34 : lk 34 C_X9_desksWithin = some (.iload 4, (0, 0, 0, 0)) := by decide +kernel
theorem s_X9_desksWithin_34 {ca : Nat → List Value → tM → tO} {M : tM} {a0 a1 a2 a3 : Option Value} {x : Int32} {S : List Value} : rn ca C_X9_desksWithin 34 [a0, a1, a2, a3, some (.int x)] S M = rn ca C_X9_desksWithin 36 [a0, a1, a2, a3, some (.int x)] (.int x :: S) M := (rn_at k_X9_desksWithin_34).trans rfl
theorem k_X9_desksWithin_36 : lk 36 C_X9_desksWithin = some (.ishl, (0, 0, 0, 0)) := by decide +kernel
theorem s_X9_desksWithin_36 {ca : Nat → List Value → tM → tO} {M : tM} {L : tL} {x y : Int32} {S : List Value} : rn ca C_X9_desksWithin 36 L (.int y :: .int x :: S) M = rn ca C_X9_desksWithin 37 L (.int (x <<< (y &&& 31)) :: S) M := (rn_at k_X9_desksWithin_36).trans rfl
theorem k_X9_desksWithin_37 : lk 37 C_X9_desksWithin = some (.ior, (0, 0, 0, 0)) := by decide +kernel
theorem s_X9_desksWithin_37 {ca : Nat → List Value → tM → tO} {M : tM} {L : tL} {x y : Int32} {S : List Value} : rn ca C_X9_desksWithin 37 L (.int y :: .int x :: S) M = rn ca C_X9_desksWithin 38 L (.int (x ||| y) :: S) M := (rn_at k_X9_desksWithin_37).trans rfl
theorem k_X9_desksWithin_38 : lk 38 C_X9_desksWithin = some (.istore_n 3, (0, 0, 0, 0)) := by decide +kernel
theorem s_X9_desksWithin_38 {ca : Nat → List Value → tM → tO} {M : tM} {a0 a1 a2 a3 a4 : Option Value} {x : Int32} {S : List Value} : rn ca C_X9_desksWithin 38 [a0, a1, a2, a3, a4] (.int x :: S) M = rn ca C_X9_desksWithin 39 [a0, a1, a2, some (.int x), a4] S M := (rn_at k_X9_desksWithin_38).trans rfl
theorem k_X9_desksWithin_39 : lk 39 C_X9_desksWithin = some (.iinc 4 1, (0, 0, 0, 0)) := by decide +kernel
theorem s_X9_desksWithin_39 {ca : Nat → List Value → tM → tO} {M : tM} {a0 a1 a2 a3 : Option Value} {x : Int32} {S : List Value} : rn ca C_X9_desksWithin 39 [a0, a1, a2, a3, some (.int x)] S M = rn ca C_X9_desksWithin 42 [a0, a1, a2, a3, some (.int (x + iI 1))] S M := (rn_at k_X9_desksWithin_39).trans rfl
theorem k_X9_desksWithin_42 : lk 42 C_X9_desksWithin = some (.goto (-37), (5, 0, 0, 0)) := by decide +kernel
theorem s_X9_desksWithin_42 {ca : Nat → List Value → tM → tO} {M : tM} {L : tL} {S : List Value} : rn ca C_X9_desksWithin 42 L S M = rn ca C_X9_desksWithin 5 L S M := (rn_at k_X9_desksWithin_42).trans rfl
theorem k_X9_desksWithin_45 : lk 45 C_X9_desksWithin = some (.iload_n 3, (0, 0, 0, 0)) := by decide +kernel
theorem s_X9_desksWithin_45 {ca : Nat → List Value → tM → tO} {M : tM} {a0 a1 a2 a4 : Option Value} {x : Int32} {S : List Value} : rn ca C_X9_desksWithin 45 [a0, a1, a2, some (.int x), a4] S M = rn ca C_X9_desksWithin 46 [a0, a1, a2, some (.int x), a4] (.int x :: S) M := (rn_at k_X9_desksWithin_45).trans rfl
theorem k_X9_desksWithin_46 : lk 46 C_X9_desksWithin = some (.ireturn, (0, 0, 0, 0)) := by decide +kernel
theorem s_X9_desksWithin_46 {ca : Nat → List Value → tM → tO} {M : tM} {L : tL} {x : Int32} : rn ca C_X9_desksWithin 46 L [.int x] M = some (some (.int x), M) := (rn_at k_X9_desksWithin_46).trans rfl
theorem k_X9_keepReach_0 : lk 0 C_X9_keepReach = some (.aload_n 0, (0, 0, 0, 0)) := by decide +kernel
theorem s_X9_keepReach_0 {ca : Nat → List Value → tM → tO} {M : tM} {x : Nat} {S : List Value} : rn ca C_X9_keepReach 0 [some (.ref x)] S M = rn ca C_X9_keepReach 1 [some (.ref x)] (.ref x :: S) M := (rn_at k_X9_keepReach_0).trans rfl
theorem k_X9_keepReach_1 : lk 1 C_X9_keepReach = some (.getfield 22, (9, 3, 0, 93)) := by decide +kernel
theorem s_X9_keepReach_1 {ca : Nat → List Value → tM → tO} {M : tM} {L : tL} {b : Nat} {S : List Value} : rn ca C_X9_keepReach 1 L (.ref b :: S) M = if clsO b = some 9 then rn ca C_X9_keepReach 4 L (fv M b 3 :: S) M else none := (rn_at k_X9_keepReach_1).trans rnx_ite
theorem k_X9_keepReach_4 : lk 4 C_X9_keepReach = some (.iconst 0, (0, 0, 0, 0)) := by decide +kernel
theorem s_X9_keepReach_4 {ca : Nat → List Value → tM → tO} {M : tM} {L : tL} {S : List Value} : rn ca C_X9_keepReach 4 L S M = rn ca C_X9_keepReach 5 L (.int (iI 0) :: S) M := (rn_at k_X9_keepReach_4).trans rfl
theorem k_X9_keepReach_5 : lk 5 C_X9_keepReach = some (.aload_n 0, (0, 0, 0, 0)) := by decide +kernel
theorem s_X9_keepReach_5 {ca : Nat → List Value → tM → tO} {M : tM} {x : Nat} {S : List Value} : rn ca C_X9_keepReach 5 [some (.ref x)] S M = rn ca C_X9_keepReach 6 [some (.ref x)] (.ref x :: S) M := (rn_at k_X9_keepReach_5).trans rfl
theorem k_X9_keepReach_6 : lk 6 C_X9_keepReach = some (.getfield 25, (9, 4, 0, 94)) := by decide +kernel
theorem s_X9_keepReach_6 {ca : Nat → List Value → tM → tO} {M : tM} {L : tL} {b : Nat} {S : List Value} : rn ca C_X9_keepReach 6 L (.ref b :: S) M = if clsO b = some 9 then rn ca C_X9_keepReach 9 L (fv M b 4 :: S) M else none := (rn_at k_X9_keepReach_6).trans rnx_ite
theorem k_X9_keepReach_9 : lk 9 C_X9_keepReach = some (.iconst 0, (0, 0, 0, 0)) := by decide +kernel
theorem s_X9_keepReach_9 {ca : Nat → List Value → tM → tO} {M : tM} {L : tL} {S : List Value} : rn ca C_X9_keepReach 9 L S M = rn ca C_X9_keepReach 10 L (.int (iI 0) :: S) M := (rn_at k_X9_keepReach_9).trans rfl
theorem k_X9_keepReach_10 : lk 10 C_X9_keepReach = some (.bipush 8, (0, 0, 0, 0)) := by decide +kernel
theorem s_X9_keepReach_10 {ca : Nat → List Value → tM → tO} {M : tM} {L : tL} {S : List Value} : rn ca C_X9_keepReach 10 L S M = rn ca C_X9_keepReach 12 L (.int (iI 8) :: S) M := (rn_at k_X9_keepReach_10).trans rfl
theorem k_X9_keepReach_12 : lk 12 C_X9_keepReach = some (.invokestatic 83, (0, 0, 1, 735)) := by decide +kernel
theorem s_X9_keepReach_12 {ca : Nat → List Value → tM → tO} {M : tM} {L : tL} {s d : Nat} {sp dp n : Int32} : rn ca C_X9_keepReach 12 L [.int n, .int dp, .ref d, .int sp, .ref s] M = if akind s = 0 ∧ akind d = 0 ∧ 0 ≤ sp.toInt ∧ 0 ≤ dp.toInt ∧ 0 ≤ n.toInt ∧ sp.toInt + n.toInt ≤ (alen M s : Int) ∧ dp.toInt + n.toInt ≤ (alen M d : Int) then rn ca C_X9_keepReach 15 L [] (rI M d (cpy (M.1 s) (M.1 d) sp.toInt.toNat dp.toInt.toNat n.toInt.toNat)) else if akind s = 2 ∧ akind d = 2 ∧ 0 ≤ sp.toInt ∧ 0 ≤ dp.toInt ∧ 0 ≤ n.toInt ∧ sp.toInt + n.toInt ≤ (alen M s : Int) ∧ dp.toInt + n.toInt ≤ (alen M d : Int) then rn ca C_X9_keepReach 15 L [] (rJ M d (cpy (M.2 s) (M.2 d) sp.toInt.toNat dp.toInt.toNat n.toInt.toNat)) else none := by rw [rn_at k_X9_keepReach_12]; simp only [ta, rnx_ite]; rfl
theorem k_X9_keepReach_15 : lk 15 C_X9_keepReach = some (.return_, (0, 0, 0, 0)) := by decide +kernel
theorem s_X9_keepReach_15 {ca : Nat → List Value → tM → tO} {M : tM} {L : tL} : rn ca C_X9_keepReach 15 L [] M = some (none, M) := (rn_at k_X9_keepReach_15).trans rfl
theorem k_X9_laterAt_0 : lk 0 C_X9_laterAt = some (.iload_n 1, (0, 0, 0, 0)) := by decide +kernel
theorem s_X9_laterAt_0 {ca : Nat → List Value → tM → tO} {M : tM} {a0 : Option Value} {x : Int32} {S : List Value} : rn ca C_X9_laterAt 0 [a0, some (.int x)] S M = rn ca C_X9_laterAt 1 [a0, some (.int x)] (.int x :: S) M := (rn_at k_X9_laterAt_0).trans rfl
theorem k_X9_laterAt_1 : lk 1 C_X9_laterAt = some (.ifCond .lt 27, (28, 0, 0, 0)) := by decide +kernel
theorem s_X9_laterAt_1 {ca : Nat → List Value → tM → tO} {M : tM} {L : tL} {x : Int32} {S : List Value} : rn ca C_X9_laterAt 1 L (.int x :: S) M = if x < iI 0 then rn ca C_X9_laterAt 28 L S M else rn ca C_X9_laterAt 4 L S M := (rn_at k_X9_laterAt_1).trans rnx_ite
theorem k_X9_laterAt_4 : lk 4 C_X9_laterAt = some (.iload_n 1, (0, 0, 0, 0)) := by decide +kernel
theorem s_X9_laterAt_4 {ca : Nat → List Value → tM → tO} {M : tM} {a0 : Option Value} {x : Int32} {S : List Value} : rn ca C_X9_laterAt 4 [a0, some (.int x)] S M = rn ca C_X9_laterAt 5 [a0, some (.int x)] (.int x :: S) M := (rn_at k_X9_laterAt_4).trans rfl
theorem k_X9_laterAt_5 : lk 5 C_X9_laterAt = some (.bipush 8, (0, 0, 0, 0)) := by decide +kernel
theorem s_X9_laterAt_5 {ca : Nat → List Value → tM → tO} {M : tM} {L : tL} {S : List Value} : rn ca C_X9_laterAt 5 L S M = rn ca C_X9_laterAt 7 L (.int (iI 8) :: S) M := (rn_at k_X9_laterAt_5).trans rfl
theorem k_X9_laterAt_7 : lk 7 C_X9_laterAt = some (.if_icmp .ge 21, (28, 0, 0, 0)) := by decide +kernel
theorem s_X9_laterAt_7 {ca : Nat → List Value → tM → tO} {M : tM} {L : tL} {x y : Int32} {S : List Value} : rn ca C_X9_laterAt 7 L (.int y :: .int x :: S) M = if y ≤ x then rn ca C_X9_laterAt 28 L S M else rn ca C_X9_laterAt 10 L S M := (rn_at k_X9_laterAt_7).trans rnx_ite
theorem k_X9_laterAt_10 : lk 10 C_X9_laterAt = some (.aload_n 0, (0, 0, 0, 0)) := by decide +kernel
theorem s_X9_laterAt_10 {ca : Nat → List Value → tM → tO} {M : tM} {a1 : Option Value} {x : Nat} {S : List Value} : rn ca C_X9_laterAt 10 [some (.ref x), a1] S M = rn ca C_X9_laterAt 11 [some (.ref x), a1] (.ref x :: S) M := (rn_at k_X9_laterAt_10).trans rfl
theorem k_X9_laterAt_11 : lk 11 C_X9_laterAt = some (.getfield 25, (9, 4, 0, 94)) := by decide +kernel
theorem s_X9_laterAt_11 {ca : Nat → List Value → tM → tO} {M : tM} {L : tL} {b : Nat} {S : List Value} : rn ca C_X9_laterAt 11 L (.ref b :: S) M = if clsO b = some 9 then rn ca C_X9_laterAt 14 L (fv M b 4 :: S) M else none := (rn_at k_X9_laterAt_11).trans rnx_ite
theorem k_X9_laterAt_14 : lk 14 C_X9_laterAt = some (.iload_n 1, (0, 0, 0, 0)) := by decide +kernel
theorem s_X9_laterAt_14 {ca : Nat → List Value → tM → tO} {M : tM} {a0 : Option Value} {x : Int32} {S : List Value} : rn ca C_X9_laterAt 14 [a0, some (.int x)] S M = rn ca C_X9_laterAt 15 [a0, some (.int x)] (.int x :: S) M := (rn_at k_X9_laterAt_14).trans rfl
theorem k_X9_laterAt_15 : lk 15 C_X9_laterAt = some (.iaload, (0, 0, 0, 0)) := by decide +kernel
theorem s_X9_laterAt_15 {ca : Nat → List Value → tM → tO} {M : tM} {L : tL} {a : Nat} {i : Int32} {S : List Value} : rn ca C_X9_laterAt 15 L (.int i :: .ref a :: S) M = if (akind a = 0 ∨ akind a = 6 ∨ akind a = 7) ∧ inb i (alen M a) then rn ca C_X9_laterAt 16 L (.int (M.1 a i.toInt.toNat) :: S) M else none := (rn_at k_X9_laterAt_15).trans rnx_ite
theorem k_X9_laterAt_16 : lk 16 C_X9_laterAt = some (.aload_n 0, (0, 0, 0, 0)) := by decide +kernel
theorem s_X9_laterAt_16 {ca : Nat → List Value → tM → tO} {M : tM} {a1 : Option Value} {x : Nat} {S : List Value} : rn ca C_X9_laterAt 16 [some (.ref x), a1] S M = rn ca C_X9_laterAt 17 [some (.ref x), a1] (.ref x :: S) M := (rn_at k_X9_laterAt_16).trans rfl
theorem k_X9_laterAt_17 : lk 17 C_X9_laterAt = some (.getfield 22, (9, 3, 0, 93)) := by decide +kernel
theorem s_X9_laterAt_17 {ca : Nat → List Value → tM → tO} {M : tM} {L : tL} {b : Nat} {S : List Value} : rn ca C_X9_laterAt 17 L (.ref b :: S) M = if clsO b = some 9 then rn ca C_X9_laterAt 20 L (fv M b 3 :: S) M else none := (rn_at k_X9_laterAt_17).trans rnx_ite
theorem k_X9_laterAt_20 : lk 20 C_X9_laterAt = some (.iload_n 1, (0, 0, 0, 0)) := by decide +kernel
theorem s_X9_laterAt_20 {ca : Nat → List Value → tM → tO} {M : tM} {a0 : Option Value} {x : Int32} {S : List Value} : rn ca C_X9_laterAt 20 [a0, some (.int x)] S M = rn ca C_X9_laterAt 21 [a0, some (.int x)] (.int x :: S) M := (rn_at k_X9_laterAt_20).trans rfl
theorem k_X9_laterAt_21 : lk 21 C_X9_laterAt = some (.iaload, (0, 0, 0, 0)) := by decide +kernel
theorem s_X9_laterAt_21 {ca : Nat → List Value → tM → tO} {M : tM} {L : tL} {a : Nat} {i : Int32} {S : List Value} : rn ca C_X9_laterAt 21 L (.int i :: .ref a :: S) M = if (akind a = 0 ∨ akind a = 6 ∨ akind a = 7) ∧ inb i (alen M a) then rn ca C_X9_laterAt 22 L (.int (M.1 a i.toInt.toNat) :: S) M else none := (rn_at k_X9_laterAt_21).trans rnx_ite
theorem k_X9_laterAt_22 : lk 22 C_X9_laterAt = some (.invokestatic 114, (0, 2, 2, 883)) := by decide +kernel
theorem s_X9_laterAt_22 {ca : Nat → List Value → tM → tO} {M : tM} {L : tL} {x y : Int32} : rn ca C_X9_laterAt 22 L [.int y, .int x] M = rn ca C_X9_laterAt 25 L [.int (mxI x y)] M := (rn_at k_X9_laterAt_22).trans rfl
theorem k_X9_laterAt_25 : lk 25 C_X9_laterAt = some (.goto 6, (31, 0, 0, 0)) := by decide +kernel
theorem s_X9_laterAt_25 {ca : Nat → List Value → tM → tO} {M : tM} {L : tL} {S : List Value} : rn ca C_X9_laterAt 25 L S M = rn ca C_X9_laterAt 31 L S M := (rn_at k_X9_laterAt_25).trans rfl
theorem k_X9_laterAt_28 : lk 28 C_X9_laterAt = some (.sipush 9999, (0, 0, 0, 0)) := by decide +kernel
theorem s_X9_laterAt_28 {ca : Nat → List Value → tM → tO} {M : tM} {L : tL} {S : List Value} : rn ca C_X9_laterAt 28 L S M = rn ca C_X9_laterAt 31 L (.int (iI 9999) :: S) M := (rn_at k_X9_laterAt_28).trans rfl
theorem k_X9_laterAt_31 : lk 31 C_X9_laterAt = some (.ireturn, (0, 0, 0, 0)) := by decide +kernel
theorem s_X9_laterAt_31 {ca : Nat → List Value → tM → tO} {M : tM} {L : tL} {x : Int32} : rn ca C_X9_laterAt 31 L [.int x] M = some (some (.int x), M) := (rn_at k_X9_laterAt_31).trans rfl
theorem k_X9_deskToMeet_0 : lk 0 C_X9_deskToMeet = some (.iconst (-1), (0, 0, 0, 0)) := by decide +kernel
theorem s_X9_deskToMeet_0 {ca : Nat → List Value → tM → tO} {M : tM} {L : tL} {S : List Value} : rn ca C_X9_deskToMeet 0 L S M = rn ca C_X9_deskToMeet 1 L (.int (iI (-1)) :: S) M := (rn_at k_X9_deskToMeet_0).trans rfl
theorem k_X9_deskToMeet_1 : lk 1 C_X9_deskToMeet = some (.istore_n 2, (0, 0, 0, 0)) := by decide +kernel
theorem s_X9_deskToMeet_1 {ca : Nat → List Value → tM → tO} {M : tM} {a0 a1 a2 a3 a4 : Option Value} {x : Int32} {S : List Value} : rn ca C_X9_deskToMeet 1 [a0, a1, a2, a3, a4] (.int x :: S) M = rn ca C_X9_deskToMeet 2 [a0, a1, some (.int x), a3, a4] S M := (rn_at k_X9_deskToMeet_1).trans rfl
theorem k_X9_deskToMeet_2 : lk 2 C_X9_deskToMeet = some (.sipush 9999, (0, 0, 0, 0)) := by decide +kernel
theorem s_X9_deskToMeet_2 {ca : Nat → List Value → tM → tO} {M : tM} {L : tL} {S : List Value} : rn ca C_X9_deskToMeet 2 L S M = rn ca C_X9_deskToMeet 5 L (.int (iI 9999) :: S) M := (rn_at k_X9_deskToMeet_2).trans rfl
theorem k_X9_deskToMeet_5 : lk 5 C_X9_deskToMeet = some (.istore_n 3, (0, 0, 0, 0)) := by decide +kernel
theorem s_X9_deskToMeet_5 {ca : Nat → List Value → tM → tO} {M : tM} {a0 a1 a2 a3 a4 : Option Value} {x : Int32} {S : List Value} : rn ca C_X9_deskToMeet 5 [a0, a1, a2, a3, a4] (.int x :: S) M = rn ca C_X9_deskToMeet 6 [a0, a1, a2, some (.int x), a4] S M := (rn_at k_X9_deskToMeet_5).trans rfl
theorem k_X9_deskToMeet_6 : lk 6 C_X9_deskToMeet = some (.iconst 0, (0, 0, 0, 0)) := by decide +kernel
theorem s_X9_deskToMeet_6 {ca : Nat → List Value → tM → tO} {M : tM} {L : tL} {S : List Value} : rn ca C_X9_deskToMeet 6 L S M = rn ca C_X9_deskToMeet 7 L (.int (iI 0) :: S) M := (rn_at k_X9_deskToMeet_6).trans rfl
theorem k_X9_deskToMeet_7 : lk 7 C_X9_deskToMeet = some (.istore 4, (0, 0, 0, 0)) := by decide +kernel
theorem s_X9_deskToMeet_7 {ca : Nat → List Value → tM → tO} {M : tM} {a0 a1 a2 a3 a4 : Option Value} {x : Int32} {S : List Value} : rn ca C_X9_deskToMeet 7 [a0, a1, a2, a3, a4] (.int x :: S) M = rn ca C_X9_deskToMeet 9 [a0, a1, a2, a3, some (.int x)] S M := (rn_at k_X9_deskToMeet_7).trans rfl
theorem k_X9_deskToMeet_9 : lk 9 C_X9_deskToMeet = some (.iload 4, (0, 0, 0, 0)) := by decide +kernel
theorem s_X9_deskToMeet_9 {ca : Nat → List Value → tM → tO} {M : tM} {a0 a1 a2 a3 : Option Value} {x : Int32} {S : List Value} : rn ca C_X9_deskToMeet 9 [a0, a1, a2, a3, some (.int x)] S M = rn ca C_X9_deskToMeet 11 [a0, a1, a2, a3, some (.int x)] (.int x :: S) M := (rn_at k_X9_deskToMeet_9).trans rfl
theorem k_X9_deskToMeet_11 : lk 11 C_X9_deskToMeet = some (.aload_n 1, (0, 0, 0, 0)) := by decide +kernel
theorem s_X9_deskToMeet_11 {ca : Nat → List Value → tM → tO} {M : tM} {a0 a2 a3 a4 : Option Value} {x : Nat} {S : List Value} : rn ca C_X9_deskToMeet 11 [a0, some (.ref x), a2, a3, a4] S M = rn ca C_X9_deskToMeet 12 [a0, some (.ref x), a2, a3, a4] (.ref x :: S) M := (rn_at k_X9_deskToMeet_11).trans rfl
theorem k_X9_deskToMeet_12 : lk 12 C_X9_deskToMeet = some (.getfield 76, (4, 0, 0, 100003)) := by decide +kernel
theorem s_X9_deskToMeet_12 {ca : Nat → List Value → tM → tO} {M : tM} {L : tL} {b : Nat} {S : List Value} : rn ca C_X9_deskToMeet 12 L (.ref b :: S) M = if clsO b = some 4 then rn ca C_X9_deskToMeet 15 L (fv M b 0 :: S) M else none := (rn_at k_X9_deskToMeet_12).trans rnx_ite
theorem k_X9_deskToMeet_15 : lk 15 C_X9_deskToMeet = some (.if_icmp .ge 36, (51, 0, 0, 0)) := by decide +kernel
theorem s_X9_deskToMeet_15 {ca : Nat → List Value → tM → tO} {M : tM} {L : tL} {x y : Int32} {S : List Value} : rn ca C_X9_deskToMeet 15 L (.int y :: .int x :: S) M = if y ≤ x then rn ca C_X9_deskToMeet 51 L S M else rn ca C_X9_deskToMeet 18 L S M := (rn_at k_X9_deskToMeet_15).trans rnx_ite
theorem k_X9_deskToMeet_18 : lk 18 C_X9_deskToMeet = some (.iload 4, (0, 0, 0, 0)) := by decide +kernel
theorem s_X9_deskToMeet_18 {ca : Nat → List Value → tM → tO} {M : tM} {a0 a1 a2 a3 : Option Value} {x : Int32} {S : List Value} : rn ca C_X9_deskToMeet 18 [a0, a1, a2, a3, some (.int x)] S M = rn ca C_X9_deskToMeet 20 [a0, a1, a2, a3, some (.int x)] (.int x :: S) M := (rn_at k_X9_deskToMeet_18).trans rfl
theorem k_X9_deskToMeet_20 : lk 20 C_X9_deskToMeet = some (.bipush 8, (0, 0, 0, 0)) := by decide +kernel
theorem s_X9_deskToMeet_20 {ca : Nat → List Value → tM → tO} {M : tM} {L : tL} {S : List Value} : rn ca C_X9_deskToMeet 20 L S M = rn ca C_X9_deskToMeet 22 L (.int (iI 8) :: S) M := (rn_at k_X9_deskToMeet_20).trans rfl
theorem k_X9_deskToMeet_22 : lk 22 C_X9_deskToMeet = some (.if_icmp .ge 29, (51, 0, 0, 0)) := by decide +kernel
theorem s_X9_deskToMeet_22 {ca : Nat → List Value → tM → tO} {M : tM} {L : tL} {x y : Int32} {S : List Value} : rn ca C_X9_deskToMeet 22 L (.int y :: .int x :: S) M = if y ≤ x then rn ca C_X9_deskToMeet 51 L S M else rn ca C_X9_deskToMeet 25 L S M := (rn_at k_X9_deskToMeet_22).trans rnx_ite
theorem k_X9_deskToMeet_25 : lk 25 C_X9_deskToMeet = some (.aload_n 0, (0, 0, 0, 0)) := by decide +kernel
theorem s_X9_deskToMeet_25 {ca : Nat → List Value → tM → tO} {M : tM} {a1 a2 a3 a4 : Option Value} {x : Nat} {S : List Value} : rn ca C_X9_deskToMeet 25 [some (.ref x), a1, a2, a3, a4] S M = rn ca C_X9_deskToMeet 26 [some (.ref x), a1, a2, a3, a4] (.ref x :: S) M := (rn_at k_X9_deskToMeet_25).trans rfl
theorem k_X9_deskToMeet_26 : lk 26 C_X9_deskToMeet = some (.iload 4, (0, 0, 0, 0)) := by decide +kernel
theorem s_X9_deskToMeet_26 {ca : Nat → List Value → tM → tO} {M : tM} {a0 a1 a2 a3 : Option Value} {x : Int32} {S : List Value} : rn ca C_X9_deskToMeet 26 [a0, a1, a2, a3, some (.int x)] S M = rn ca C_X9_deskToMeet 28 [a0, a1, a2, a3, some (.int x)] (.int x :: S) M := (rn_at k_X9_deskToMeet_26).trans rfl
theorem k_X9_deskToMeet_28 : lk 28 C_X9_deskToMeet = some (.invokevirtual 119, (92, 1, 9, 879)) := by decide +kernel
theorem s_X9_deskToMeet_28 {ca : Nat → List Value → tM → tO} {M : tM} {L : tL} {v1 : Value} {b : Nat} : rn ca C_X9_deskToMeet 28 L [v1, .ref b] M = if clsO b = some 9 then rnk ca C_X9_deskToMeet 31 L [] (ca m_X9_laterAt [.ref b, v1] M) else none := (rn_at k_X9_deskToMeet_28).trans rnx_ite
theorem k_X9_deskToMeet_31 : lk 31 C_X9_deskToMeet = some (.iload_n 3, (0, 0, 0, 0)) := by decide +kernel
theorem s_X9_deskToMeet_31 {ca : Nat → List Value → tM → tO} {M : tM} {a0 a1 a2 a4 : Option Value} {x : Int32} {S : List Value} : rn ca C_X9_deskToMeet 31 [a0, a1, a2, some (.int x), a4] S M = rn ca C_X9_deskToMeet 32 [a0, a1, a2, some (.int x), a4] (.int x :: S) M := (rn_at k_X9_deskToMeet_31).trans rfl
theorem k_X9_deskToMeet_32 : lk 32 C_X9_deskToMeet = some (.if_icmp .ge 13, (45, 0, 0, 0)) := by decide +kernel
theorem s_X9_deskToMeet_32 {ca : Nat → List Value → tM → tO} {M : tM} {L : tL} {x y : Int32} {S : List Value} : rn ca C_X9_deskToMeet 32 L (.int y :: .int x :: S) M = if y ≤ x then rn ca C_X9_deskToMeet 45 L S M else rn ca C_X9_deskToMeet 35 L S M := (rn_at k_X9_deskToMeet_32).trans rnx_ite
theorem k_X9_deskToMeet_35 : lk 35 C_X9_deskToMeet = some (.aload_n 0, (0, 0, 0, 0)) := by decide +kernel
theorem s_X9_deskToMeet_35 {ca : Nat → List Value → tM → tO} {M : tM} {a1 a2 a3 a4 : Option Value} {x : Nat} {S : List Value} : rn ca C_X9_deskToMeet 35 [some (.ref x), a1, a2, a3, a4] S M = rn ca C_X9_deskToMeet 36 [some (.ref x), a1, a2, a3, a4] (.ref x :: S) M := (rn_at k_X9_deskToMeet_35).trans rfl
theorem k_X9_deskToMeet_36 : lk 36 C_X9_deskToMeet = some (.iload 4, (0, 0, 0, 0)) := by decide +kernel
theorem s_X9_deskToMeet_36 {ca : Nat → List Value → tM → tO} {M : tM} {a0 a1 a2 a3 : Option Value} {x : Int32} {S : List Value} : rn ca C_X9_deskToMeet 36 [a0, a1, a2, a3, some (.int x)] S M = rn ca C_X9_deskToMeet 38 [a0, a1, a2, a3, some (.int x)] (.int x :: S) M := (rn_at k_X9_deskToMeet_36).trans rfl
theorem k_X9_deskToMeet_38 : lk 38 C_X9_deskToMeet = some (.invokevirtual 119, (92, 1, 9, 879)) := by decide +kernel
theorem s_X9_deskToMeet_38 {ca : Nat → List Value → tM → tO} {M : tM} {L : tL} {v1 : Value} {b : Nat} : rn ca C_X9_deskToMeet 38 L [v1, .ref b] M = if clsO b = some 9 then rnk ca C_X9_deskToMeet 41 L [] (ca m_X9_laterAt [.ref b, v1] M) else none := (rn_at k_X9_deskToMeet_38).trans rnx_ite
theorem k_X9_deskToMeet_41 : lk 41 C_X9_deskToMeet = some (.istore_n 3, (0, 0, 0, 0)) := by decide +kernel
theorem s_X9_deskToMeet_41 {ca : Nat → List Value → tM → tO} {M : tM} {a0 a1 a2 a3 a4 : Option Value} {x : Int32} {S : List Value} : rn ca C_X9_deskToMeet 41 [a0, a1, a2, a3, a4] (.int x :: S) M = rn ca C_X9_deskToMeet 42 [a0, a1, a2, some (.int x), a4] S M := (rn_at k_X9_deskToMeet_41).trans rfl
theorem k_X9_deskToMeet_42 : lk 42 C_X9_deskToMeet = some (.iload 4, (0, 0, 0, 0)) := by decide +kernel
theorem s_X9_deskToMeet_42 {ca : Nat → List Value → tM → tO} {M : tM} {a0 a1 a2 a3 : Option Value} {x : Int32} {S : List Value} : rn ca C_X9_deskToMeet 42 [a0, a1, a2, a3, some (.int x)] S M = rn ca C_X9_deskToMeet 44 [a0, a1, a2, a3, some (.int x)] (.int x :: S) M := (rn_at k_X9_deskToMeet_42).trans rfl
theorem k_X9_deskToMeet_44 : lk 44 C_X9_deskToMeet = some (.istore_n 2, (0, 0, 0, 0)) := by decide +kernel
theorem s_X9_deskToMeet_44 {ca : Nat → List Value → tM → tO} {M : tM} {a0 a1 a2 a3 a4 : Option Value} {x : Int32} {S : List Value} : rn ca C_X9_deskToMeet 44 [a0, a1, a2, a3, a4] (.int x :: S) M = rn ca C_X9_deskToMeet 45 [a0, a1, some (.int x), a3, a4] S M := (rn_at k_X9_deskToMeet_44).trans rfl
theorem k_X9_deskToMeet_45 : lk 45 C_X9_deskToMeet = some (.iinc 4 1, (0, 0, 0, 0)) := by decide +kernel
theorem s_X9_deskToMeet_45 {ca : Nat → List Value → tM → tO} {M : tM} {a0 a1 a2 a3 : Option Value} {x : Int32} {S : List Value} : rn ca C_X9_deskToMeet 45 [a0, a1, a2, a3, some (.int x)] S M = rn ca C_X9_deskToMeet 48 [a0, a1, a2, a3, some (.int (x + iI 1))] S M := (rn_at k_X9_deskToMeet_45).trans rfl
theorem k_X9_deskToMeet_48 : lk 48 C_X9_deskToMeet = some (.goto (-39), (9, 0, 0, 0)) := by decide +kernel
theorem s_X9_deskToMeet_48 {ca : Nat → List Value → tM → tO} {M : tM} {L : tL} {S : List Value} : rn ca C_X9_deskToMeet 48 L S M = rn ca C_X9_deskToMeet 9 L S M := (rn_at k_X9_deskToMeet_48).trans rfl
theorem k_X9_deskToMeet_51 : lk 51 C_X9_deskToMeet = some (.iload_n 2, (0, 0, 0, 0)) := by decide +kernel
theorem s_X9_deskToMeet_51 {ca : Nat → List Value → tM → tO} {M : tM} {a0 a1 a3 a4 : Option Value} {x : Int32} {S : List Value} : rn ca C_X9_deskToMeet 51 [a0, a1, some (.int x), a3, a4] S M = rn ca C_X9_deskToMeet 52 [a0, a1, some (.int x), a3, a4] (.int x :: S) M := (rn_at k_X9_deskToMeet_51).trans rfl
theorem k_X9_deskToMeet_52 : lk 52 C_X9_deskToMeet = some (.ireturn, (0, 0, 0, 0)) := by decide +kernel
theorem s_X9_deskToMeet_52 {ca : Nat → List Value → tM → tO} {M : tM} {L : tL} {x : Int32} : rn ca C_X9_deskToMeet 52 L [.int x] M = some (some (.int x), M) := (rn_at k_X9_deskToMeet_52).trans rfl
theorem k_X9_longestFrom_0 : lk 0 C_X9_longestFrom = some (.iconst 0, (0, 0, 0, 0)) := by decide +kernel
theorem s_X9_longestFrom_0 {ca : Nat → List Value → tM → tO} {M : tM} {L : tL} {S : List Value} : rn ca C_X9_longestFrom 0 L S M = rn ca C_X9_longestFrom 1 L (.int (iI 0) :: S) M := (rn_at k_X9_longestFrom_0).trans rfl
theorem k_X9_longestFrom_1 : lk 1 C_X9_longestFrom = some (.istore_n 3, (0, 0, 0, 0)) := by decide +kernel
theorem s_X9_longestFrom_1 {ca : Nat → List Value → tM → tO} {M : tM} {a0 a1 a2 a3 a4 : Option Value} {x : Int32} {S : List Value} : rn ca C_X9_longestFrom 1 [a0, a1, a2, a3, a4] (.int x :: S) M = rn ca C_X9_longestFrom 2 [a0, a1, a2, some (.int x), a4] S M := (rn_at k_X9_longestFrom_1).trans rfl
theorem k_X9_longestFrom_2 : lk 2 C_X9_longestFrom = some (.iconst 0, (0, 0, 0, 0)) := by decide +kernel
theorem s_X9_longestFrom_2 {ca : Nat → List Value → tM → tO} {M : tM} {L : tL} {S : List Value} : rn ca C_X9_longestFrom 2 L S M = rn ca C_X9_longestFrom 3 L (.int (iI 0) :: S) M := (rn_at k_X9_longestFrom_2).trans rfl
theorem k_X9_longestFrom_3 : lk 3 C_X9_longestFrom = some (.istore 4, (0, 0, 0, 0)) := by decide +kernel
theorem s_X9_longestFrom_3 {ca : Nat → List Value → tM → tO} {M : tM} {a0 a1 a2 a3 a4 : Option Value} {x : Int32} {S : List Value} : rn ca C_X9_longestFrom 3 [a0, a1, a2, a3, a4] (.int x :: S) M = rn ca C_X9_longestFrom 5 [a0, a1, a2, a3, some (.int x)] S M := (rn_at k_X9_longestFrom_3).trans rfl
theorem k_X9_longestFrom_5 : lk 5 C_X9_longestFrom = some (.iload 4, (0, 0, 0, 0)) := by decide +kernel
theorem s_X9_longestFrom_5 {ca : Nat → List Value → tM → tO} {M : tM} {a0 a1 a2 a3 : Option Value} {x : Int32} {S : List Value} : rn ca C_X9_longestFrom 5 [a0, a1, a2, a3, some (.int x)] S M = rn ca C_X9_longestFrom 7 [a0, a1, a2, a3, some (.int x)] (.int x :: S) M := (rn_at k_X9_longestFrom_5).trans rfl
theorem k_X9_longestFrom_7 : lk 7 C_X9_longestFrom = some (.aload_n 1, (0, 0, 0, 0)) := by decide +kernel
theorem s_X9_longestFrom_7 {ca : Nat → List Value → tM → tO} {M : tM} {a0 a2 a3 a4 : Option Value} {x : Nat} {S : List Value} : rn ca C_X9_longestFrom 7 [a0, some (.ref x), a2, a3, a4] S M = rn ca C_X9_longestFrom 8 [a0, some (.ref x), a2, a3, a4] (.ref x :: S) M := (rn_at k_X9_longestFrom_7).trans rfl
theorem k_X9_longestFrom_8 : lk 8 C_X9_longestFrom = some (.getfield 76, (4, 0, 0, 100003)) := by decide +kernel
theorem s_X9_longestFrom_8 {ca : Nat → List Value → tM → tO} {M : tM} {L : tL} {b : Nat} {S : List Value} : rn ca C_X9_longestFrom 8 L (.ref b :: S) M = if clsO b = some 4 then rn ca C_X9_longestFrom 11 L (fv M b 0 :: S) M else none := (rn_at k_X9_longestFrom_8).trans rnx_ite
theorem k_X9_longestFrom_11 : lk 11 C_X9_longestFrom = some (.if_icmp .ge 28, (39, 0, 0, 0)) := by decide +kernel
theorem s_X9_longestFrom_11 {ca : Nat → List Value → tM → tO} {M : tM} {L : tL} {x y : Int32} {S : List Value} : rn ca C_X9_longestFrom 11 L (.int y :: .int x :: S) M = if y ≤ x then rn ca C_X9_longestFrom 39 L S M else rn ca C_X9_longestFrom 14 L S M := (rn_at k_X9_longestFrom_11).trans rnx_ite
theorem k_X9_longestFrom_14 : lk 14 C_X9_longestFrom = some (.iload 4, (0, 0, 0, 0)) := by decide +kernel
theorem s_X9_longestFrom_14 {ca : Nat → List Value → tM → tO} {M : tM} {a0 a1 a2 a3 : Option Value} {x : Int32} {S : List Value} : rn ca C_X9_longestFrom 14 [a0, a1, a2, a3, some (.int x)] S M = rn ca C_X9_longestFrom 16 [a0, a1, a2, a3, some (.int x)] (.int x :: S) M := (rn_at k_X9_longestFrom_14).trans rfl
theorem k_X9_longestFrom_16 : lk 16 C_X9_longestFrom = some (.bipush 8, (0, 0, 0, 0)) := by decide +kernel
theorem s_X9_longestFrom_16 {ca : Nat → List Value → tM → tO} {M : tM} {L : tL} {S : List Value} : rn ca C_X9_longestFrom 16 L S M = rn ca C_X9_longestFrom 18 L (.int (iI 8) :: S) M := (rn_at k_X9_longestFrom_16).trans rfl
theorem k_X9_longestFrom_18 : lk 18 C_X9_longestFrom = some (.if_icmp .ge 21, (39, 0, 0, 0)) := by decide +kernel
theorem s_X9_longestFrom_18 {ca : Nat → List Value → tM → tO} {M : tM} {L : tL} {x y : Int32} {S : List Value} : rn ca C_X9_longestFrom 18 L (.int y :: .int x :: S) M = if y ≤ x then rn ca C_X9_longestFrom 39 L S M else rn ca C_X9_longestFrom 21 L S M := (rn_at k_X9_longestFrom_18).trans rnx_ite
theorem k_X9_longestFrom_21 : lk 21 C_X9_longestFrom = some (.iload_n 3, (0, 0, 0, 0)) := by decide +kernel
theorem s_X9_longestFrom_21 {ca : Nat → List Value → tM → tO} {M : tM} {a0 a1 a2 a4 : Option Value} {x : Int32} {S : List Value} : rn ca C_X9_longestFrom 21 [a0, a1, a2, some (.int x), a4] S M = rn ca C_X9_longestFrom 22 [a0, a1, a2, some (.int x), a4] (.int x :: S) M := (rn_at k_X9_longestFrom_21).trans rfl
theorem k_X9_longestFrom_22 : lk 22 C_X9_longestFrom = some (.aload_n 0, (0, 0, 0, 0)) := by decide +kernel
theorem s_X9_longestFrom_22 {ca : Nat → List Value → tM → tO} {M : tM} {a1 a2 a3 a4 : Option Value} {x : Nat} {S : List Value} : rn ca C_X9_longestFrom 22 [some (.ref x), a1, a2, a3, a4] S M = rn ca C_X9_longestFrom 23 [some (.ref x), a1, a2, a3, a4] (.ref x :: S) M := (rn_at k_X9_longestFrom_22).trans rfl
theorem k_X9_longestFrom_23 : lk 23 C_X9_longestFrom = some (.iload_n 2, (0, 0, 0, 0)) := by decide +kernel
theorem s_X9_longestFrom_23 {ca : Nat → List Value → tM → tO} {M : tM} {a0 a1 a3 a4 : Option Value} {x : Int32} {S : List Value} : rn ca C_X9_longestFrom 23 [a0, a1, some (.int x), a3, a4] S M = rn ca C_X9_longestFrom 24 [a0, a1, some (.int x), a3, a4] (.int x :: S) M := (rn_at k_X9_longestFrom_23).trans rfl
theorem k_X9_longestFrom_24 : lk 24 C_X9_longestFrom = some (.iload 4, (0, 0, 0, 0)) := by decide +kernel
theorem s_X9_longestFrom_24 {ca : Nat → List Value → tM → tO} {M : tM} {a0 a1 a2 a3 : Option Value} {x : Int32} {S : List Value} : rn ca C_X9_longestFrom 24 [a0, a1, a2, a3, some (.int x)] S M = rn ca C_X9_longestFrom 26 [a0, a1, a2, a3, some (.int x)] (.int x :: S) M := (rn_at k_X9_longestFrom_24).trans rfl
theorem k_X9_longestFrom_26 : lk 26 C_X9_longestFrom = some (.invokevirtual 110, (85, 2, 9, 736)) := by decide +kernel
theorem s_X9_longestFrom_26 {ca : Nat → List Value → tM → tO} {M : tM} {L : tL} {v1 v2 : Value} {r0 : Int32} {b : Nat} : rn ca C_X9_longestFrom 26 L [v2, v1, .ref b, .int r0] M = if clsO b = some 9 then rnk ca C_X9_longestFrom 29 L [.int r0] (ca m_X9_between [.ref b, v1, v2] M) else none := (rn_at k_X9_longestFrom_26).trans rnx_ite
theorem k_X9_longestFrom_29 : lk 29 C_X9_longestFrom = some (.invokestatic 114, (0, 2, 2, 883)) := by decide +kernel
theorem s_X9_longestFrom_29 {ca : Nat → List Value → tM → tO} {M : tM} {L : tL} {x y : Int32} : rn ca C_X9_longestFrom 29 L [.int y, .int x] M = rn ca C_X9_longestFrom 32 L [.int (mxI x y)] M := (rn_at k_X9_longestFrom_29).trans rfl
theorem k_X9_longestFrom_32 : lk 32 C_X9_longestFrom = some (.istore_n 3, (0, 0, 0, 0)) := by decide +kernel
theorem s_X9_longestFrom_32 {ca : Nat → List Value → tM → tO} {M : tM} {a0 a1 a2 a3 a4 : Option Value} {x : Int32} {S : List Value} : rn ca C_X9_longestFrom 32 [a0, a1, a2, a3, a4] (.int x :: S) M = rn ca C_X9_longestFrom 33 [a0, a1, a2, some (.int x), a4] S M := (rn_at k_X9_longestFrom_32).trans rfl
theorem k_X9_longestFrom_33 : lk 33 C_X9_longestFrom = some (.iinc 4 1, (0, 0, 0, 0)) := by decide +kernel
theorem s_X9_longestFrom_33 {ca : Nat → List Value → tM → tO} {M : tM} {a0 a1 a2 a3 : Option Value} {x : Int32} {S : List Value} : rn ca C_X9_longestFrom 33 [a0, a1, a2, a3, some (.int x)] S M = rn ca C_X9_longestFrom 36 [a0, a1, a2, a3, some (.int (x + iI 1))] S M := (rn_at k_X9_longestFrom_33).trans rfl
theorem k_X9_longestFrom_36 : lk 36 C_X9_longestFrom = some (.goto (-31), (5, 0, 0, 0)) := by decide +kernel
theorem s_X9_longestFrom_36 {ca : Nat → List Value → tM → tO} {M : tM} {L : tL} {S : List Value} : rn ca C_X9_longestFrom 36 L S M = rn ca C_X9_longestFrom 5 L S M := (rn_at k_X9_longestFrom_36).trans rfl
theorem k_X9_longestFrom_39 : lk 39 C_X9_longestFrom = some (.iload_n 3, (0, 0, 0, 0)) := by decide +kernel
theorem s_X9_longestFrom_39 {ca : Nat → List Value → tM → tO} {M : tM} {a0 a1 a2 a4 : Option Value} {x : Int32} {S : List Value} : rn ca C_X9_longestFrom 39 [a0, a1, a2, some (.int x), a4] S M = rn ca C_X9_longestFrom 40 [a0, a1, a2, some (.int x), a4] (.int x :: S) M := (rn_at k_X9_longestFrom_39).trans rfl
theorem k_X9_longestFrom_40 : lk 40 C_X9_longestFrom = some (.ireturn, (0, 0, 0, 0)) := by decide +kernel
theorem s_X9_longestFrom_40 {ca : Nat → List Value → tM → tO} {M : tM} {L : tL} {x : Int32} : rn ca C_X9_longestFrom 40 L [.int x] M = some (some (.int x), M) := (rn_at k_X9_longestFrom_40).trans rfl
theorem k_J6_bitCount_0f7a4_0 : lk 0 C_J6_bitCount_0f7a4 = some (.iload_n 0, (0, 0, 0, 0)) := by decide +kernel
theorem s_J6_bitCount_0f7a4_0 {ca : Nat → List Value → tM → tO} {M : tM} {x : Int32} {S : List Value} : rn ca C_J6_bitCount_0f7a4 0 [some (.int x)] S M = rn ca C_J6_bitCount_0f7a4 1 [some (.int x)] (.int x :: S) M := (rn_at k_J6_bitCount_0f7a4_0).trans rfl
theorem k_J6_bitCount_0f7a4_1 : lk 1 C_J6_bitCount_0f7a4 = some (.iload_n 0, (0, 0, 0, 0)) := by decide +kernel
theorem s_J6_bitCount_0f7a4_1 {ca : Nat → List Value → tM → tO} {M : tM} {x : Int32} {S : List Value} : rn ca C_J6_bitCount_0f7a4 1 [some (.int x)] S M = rn ca C_J6_bitCount_0f7a4 2 [some (.int x)] (.int x :: S) M := (rn_at k_J6_bitCount_0f7a4_1).trans rfl
theorem k_J6_bitCount_0f7a4_2 : lk 2 C_J6_bitCount_0f7a4 = some (.iconst 1, (0, 0, 0, 0)) := by decide +kernel
theorem s_J6_bitCount_0f7a4_2 {ca : Nat → List Value → tM → tO} {M : tM} {L : tL} {S : List Value} : rn ca C_J6_bitCount_0f7a4 2 L S M = rn ca C_J6_bitCount_0f7a4 3 L (.int (iI 1) :: S) M := (rn_at k_J6_bitCount_0f7a4_2).trans rfl
theorem k_J6_bitCount_0f7a4_3 : lk 3 C_J6_bitCount_0f7a4 = some (.iushr, (0, 0, 0, 0)) := by decide +kernel
theorem s_J6_bitCount_0f7a4_3 {ca : Nat → List Value → tM → tO} {M : tM} {L : tL} {x y : Int32} {S : List Value} : rn ca C_J6_bitCount_0f7a4 3 L (.int y :: .int x :: S) M = rn ca C_J6_bitCount_0f7a4 4 L (.int (ius x y) :: S) M := (rn_at k_J6_bitCount_0f7a4_3).trans rfl
theorem k_J6_bitCount_0f7a4_4 : lk 4 C_J6_bitCount_0f7a4 = some (.ldc_w 265, (0, 0, 1431655765, 825)) := by decide +kernel
theorem s_J6_bitCount_0f7a4_4 {ca : Nat → List Value → tM → tO} {M : tM} {L : tL} {S : List Value} : rn ca C_J6_bitCount_0f7a4 4 L S M = rn ca C_J6_bitCount_0f7a4 7 L (.int (iI 1431655765) :: S) M := (rn_at k_J6_bitCount_0f7a4_4).trans rfl
theorem k_J6_bitCount_0f7a4_7 : lk 7 C_J6_bitCount_0f7a4 = some (.iand, (0, 0, 0, 0)) := by decide +kernel
theorem s_J6_bitCount_0f7a4_7 {ca : Nat → List Value → tM → tO} {M : tM} {L : tL} {x y : Int32} {S : List Value} : rn ca C_J6_bitCount_0f7a4 7 L (.int y :: .int x :: S) M = rn ca C_J6_bitCount_0f7a4 8 L (.int (x &&& y) :: S) M := (rn_at k_J6_bitCount_0f7a4_7).trans rfl
theorem k_J6_bitCount_0f7a4_8 : lk 8 C_J6_bitCount_0f7a4 = some (.isub, (0, 0, 0, 0)) := by decide +kernel
theorem s_J6_bitCount_0f7a4_8 {ca : Nat → List Value → tM → tO} {M : tM} {L : tL} {x y : Int32} {S : List Value} : rn ca C_J6_bitCount_0f7a4 8 L (.int y :: .int x :: S) M = rn ca C_J6_bitCount_0f7a4 9 L (.int (x - y) :: S) M := (rn_at k_J6_bitCount_0f7a4_8).trans rfl
theorem k_J6_bitCount_0f7a4_9 : lk 9 C_J6_bitCount_0f7a4 = some (.istore_n 0, (0, 0, 0, 0)) := by decide +kernel
theorem s_J6_bitCount_0f7a4_9 {ca : Nat → List Value → tM → tO} {M : tM} {a0 : Option Value} {x : Int32} {S : List Value} : rn ca C_J6_bitCount_0f7a4 9 [a0] (.int x :: S) M = rn ca C_J6_bitCount_0f7a4 10 [some (.int x)] S M := (rn_at k_J6_bitCount_0f7a4_9).trans rfl
theorem k_J6_bitCount_0f7a4_10 : lk 10 C_J6_bitCount_0f7a4 = some (.iload_n 0, (0, 0, 0, 0)) := by decide +kernel
theorem s_J6_bitCount_0f7a4_10 {ca : Nat → List Value → tM → tO} {M : tM} {x : Int32} {S : List Value} : rn ca C_J6_bitCount_0f7a4 10 [some (.int x)] S M = rn ca C_J6_bitCount_0f7a4 11 [some (.int x)] (.int x :: S) M := (rn_at k_J6_bitCount_0f7a4_10).trans rfl
theorem k_J6_bitCount_0f7a4_11 : lk 11 C_J6_bitCount_0f7a4 = some (.ldc_w 266, (0, 0, 858993459, 826)) := by decide +kernel
theorem s_J6_bitCount_0f7a4_11 {ca : Nat → List Value → tM → tO} {M : tM} {L : tL} {S : List Value} : rn ca C_J6_bitCount_0f7a4 11 L S M = rn ca C_J6_bitCount_0f7a4 14 L (.int (iI 858993459) :: S) M := (rn_at k_J6_bitCount_0f7a4_11).trans rfl
theorem k_J6_bitCount_0f7a4_14 : lk 14 C_J6_bitCount_0f7a4 = some (.iand, (0, 0, 0, 0)) := by decide +kernel
theorem s_J6_bitCount_0f7a4_14 {ca : Nat → List Value → tM → tO} {M : tM} {L : tL} {x y : Int32} {S : List Value} : rn ca C_J6_bitCount_0f7a4 14 L (.int y :: .int x :: S) M = rn ca C_J6_bitCount_0f7a4 15 L (.int (x &&& y) :: S) M := (rn_at k_J6_bitCount_0f7a4_14).trans rfl
theorem k_J6_bitCount_0f7a4_15 : lk 15 C_J6_bitCount_0f7a4 = some (.iload_n 0, (0, 0, 0, 0)) := by decide +kernel
theorem s_J6_bitCount_0f7a4_15 {ca : Nat → List Value → tM → tO} {M : tM} {x : Int32} {S : List Value} : rn ca C_J6_bitCount_0f7a4 15 [some (.int x)] S M = rn ca C_J6_bitCount_0f7a4 16 [some (.int x)] (.int x :: S) M := (rn_at k_J6_bitCount_0f7a4_15).trans rfl
theorem k_J6_bitCount_0f7a4_16 : lk 16 C_J6_bitCount_0f7a4 = some (.iconst 2, (0, 0, 0, 0)) := by decide +kernel
theorem s_J6_bitCount_0f7a4_16 {ca : Nat → List Value → tM → tO} {M : tM} {L : tL} {S : List Value} : rn ca C_J6_bitCount_0f7a4 16 L S M = rn ca C_J6_bitCount_0f7a4 17 L (.int (iI 2) :: S) M := (rn_at k_J6_bitCount_0f7a4_16).trans rfl
theorem k_J6_bitCount_0f7a4_17 : lk 17 C_J6_bitCount_0f7a4 = some (.iushr, (0, 0, 0, 0)) := by decide +kernel
theorem s_J6_bitCount_0f7a4_17 {ca : Nat → List Value → tM → tO} {M : tM} {L : tL} {x y : Int32} {S : List Value} : rn ca C_J6_bitCount_0f7a4 17 L (.int y :: .int x :: S) M = rn ca C_J6_bitCount_0f7a4 18 L (.int (ius x y) :: S) M := (rn_at k_J6_bitCount_0f7a4_17).trans rfl
theorem k_J6_bitCount_0f7a4_18 : lk 18 C_J6_bitCount_0f7a4 = some (.ldc_w 266, (0, 0, 858993459, 826)) := by decide +kernel
theorem s_J6_bitCount_0f7a4_18 {ca : Nat → List Value → tM → tO} {M : tM} {L : tL} {S : List Value} : rn ca C_J6_bitCount_0f7a4 18 L S M = rn ca C_J6_bitCount_0f7a4 21 L (.int (iI 858993459) :: S) M := (rn_at k_J6_bitCount_0f7a4_18).trans rfl
theorem k_J6_bitCount_0f7a4_21 : lk 21 C_J6_bitCount_0f7a4 = some (.iand, (0, 0, 0, 0)) := by decide +kernel
theorem s_J6_bitCount_0f7a4_21 {ca : Nat → List Value → tM → tO} {M : tM} {L : tL} {x y : Int32} {S : List Value} : rn ca C_J6_bitCount_0f7a4 21 L (.int y :: .int x :: S) M = rn ca C_J6_bitCount_0f7a4 22 L (.int (x &&& y) :: S) M := (rn_at k_J6_bitCount_0f7a4_21).trans rfl
theorem k_J6_bitCount_0f7a4_22 : lk 22 C_J6_bitCount_0f7a4 = some (.iadd, (0, 0, 0, 0)) := by decide +kernel
theorem s_J6_bitCount_0f7a4_22 {ca : Nat → List Value → tM → tO} {M : tM} {L : tL} {x y : Int32} {S : List Value} : rn ca C_J6_bitCount_0f7a4 22 L (.int y :: .int x :: S) M = rn ca C_J6_bitCount_0f7a4 23 L (.int (x + y) :: S) M := (rn_at k_J6_bitCount_0f7a4_22).trans rfl
theorem k_J6_bitCount_0f7a4_23 : lk 23 C_J6_bitCount_0f7a4 = some (.istore_n 0, (0, 0, 0, 0)) := by decide +kernel
theorem s_J6_bitCount_0f7a4_23 {ca : Nat → List Value → tM → tO} {M : tM} {a0 : Option Value} {x : Int32} {S : List Value} : rn ca C_J6_bitCount_0f7a4 23 [a0] (.int x :: S) M = rn ca C_J6_bitCount_0f7a4 24 [some (.int x)] S M := (rn_at k_J6_bitCount_0f7a4_23).trans rfl
theorem k_J6_bitCount_0f7a4_24 : lk 24 C_J6_bitCount_0f7a4 = some (.iload_n 0, (0, 0, 0, 0)) := by decide +kernel
theorem s_J6_bitCount_0f7a4_24 {ca : Nat → List Value → tM → tO} {M : tM} {x : Int32} {S : List Value} : rn ca C_J6_bitCount_0f7a4 24 [some (.int x)] S M = rn ca C_J6_bitCount_0f7a4 25 [some (.int x)] (.int x :: S) M := (rn_at k_J6_bitCount_0f7a4_24).trans rfl
theorem k_J6_bitCount_0f7a4_25 : lk 25 C_J6_bitCount_0f7a4 = some (.iload_n 0, (0, 0, 0, 0)) := by decide +kernel
theorem s_J6_bitCount_0f7a4_25 {ca : Nat → List Value → tM → tO} {M : tM} {x : Int32} {S : List Value} : rn ca C_J6_bitCount_0f7a4 25 [some (.int x)] S M = rn ca C_J6_bitCount_0f7a4 26 [some (.int x)] (.int x :: S) M := (rn_at k_J6_bitCount_0f7a4_25).trans rfl
theorem k_J6_bitCount_0f7a4_26 : lk 26 C_J6_bitCount_0f7a4 = some (.iconst 4, (0, 0, 0, 0)) := by decide +kernel
theorem s_J6_bitCount_0f7a4_26 {ca : Nat → List Value → tM → tO} {M : tM} {L : tL} {S : List Value} : rn ca C_J6_bitCount_0f7a4 26 L S M = rn ca C_J6_bitCount_0f7a4 27 L (.int (iI 4) :: S) M := (rn_at k_J6_bitCount_0f7a4_26).trans rfl
theorem k_J6_bitCount_0f7a4_27 : lk 27 C_J6_bitCount_0f7a4 = some (.iushr, (0, 0, 0, 0)) := by decide +kernel
theorem s_J6_bitCount_0f7a4_27 {ca : Nat → List Value → tM → tO} {M : tM} {L : tL} {x y : Int32} {S : List Value} : rn ca C_J6_bitCount_0f7a4 27 L (.int y :: .int x :: S) M = rn ca C_J6_bitCount_0f7a4 28 L (.int (ius x y) :: S) M := (rn_at k_J6_bitCount_0f7a4_27).trans rfl
theorem k_J6_bitCount_0f7a4_28 : lk 28 C_J6_bitCount_0f7a4 = some (.iadd, (0, 0, 0, 0)) := by decide +kernel
theorem s_J6_bitCount_0f7a4_28 {ca : Nat → List Value → tM → tO} {M : tM} {L : tL} {x y : Int32} {S : List Value} : rn ca C_J6_bitCount_0f7a4 28 L (.int y :: .int x :: S) M = rn ca C_J6_bitCount_0f7a4 29 L (.int (x + y) :: S) M := (rn_at k_J6_bitCount_0f7a4_28).trans rfl
theorem k_J6_bitCount_0f7a4_29 : lk 29 C_J6_bitCount_0f7a4 = some (.ldc_w 267, (0, 0, 252645135, 827)) := by decide +kernel
theorem s_J6_bitCount_0f7a4_29 {ca : Nat → List Value → tM → tO} {M : tM} {L : tL} {S : List Value} : rn ca C_J6_bitCount_0f7a4 29 L S M = rn ca C_J6_bitCount_0f7a4 32 L (.int (iI 252645135) :: S) M := (rn_at k_J6_bitCount_0f7a4_29).trans rfl
theorem k_J6_bitCount_0f7a4_32 : lk 32 C_J6_bitCount_0f7a4 = some (.iand, (0, 0, 0, 0)) := by decide +kernel
theorem s_J6_bitCount_0f7a4_32 {ca : Nat → List Value → tM → tO} {M : tM} {L : tL} {x y : Int32} {S : List Value} : rn ca C_J6_bitCount_0f7a4 32 L (.int y :: .int x :: S) M = rn ca C_J6_bitCount_0f7a4 33 L (.int (x &&& y) :: S) M := (rn_at k_J6_bitCount_0f7a4_32).trans rfl
theorem k_J6_bitCount_0f7a4_33 : lk 33 C_J6_bitCount_0f7a4 = some (.istore_n 0, (0, 0, 0, 0)) := by decide +kernel
theorem s_J6_bitCount_0f7a4_33 {ca : Nat → List Value → tM → tO} {M : tM} {a0 : Option Value} {x : Int32} {S : List Value} : rn ca C_J6_bitCount_0f7a4 33 [a0] (.int x :: S) M = rn ca C_J6_bitCount_0f7a4 34 [some (.int x)] S M := (rn_at k_J6_bitCount_0f7a4_33).trans rfl
theorem k_J6_bitCount_0f7a4_34 : lk 34 C_J6_bitCount_0f7a4 = some (.iload_n 0, (0, 0, 0, 0)) := by decide +kernel
theorem s_J6_bitCount_0f7a4_34 {ca : Nat → List Value → tM → tO} {M : tM} {x : Int32} {S : List Value} : rn ca C_J6_bitCount_0f7a4 34 [some (.int x)] S M = rn ca C_J6_bitCount_0f7a4 35 [some (.int x)] (.int x :: S) M := (rn_at k_J6_bitCount_0f7a4_34).trans rfl
theorem k_J6_bitCount_0f7a4_35 : lk 35 C_J6_bitCount_0f7a4 = some (.iload_n 0, (0, 0, 0, 0)) := by decide +kernel
theorem s_J6_bitCount_0f7a4_35 {ca : Nat → List Value → tM → tO} {M : tM} {x : Int32} {S : List Value} : rn ca C_J6_bitCount_0f7a4 35 [some (.int x)] S M = rn ca C_J6_bitCount_0f7a4 36 [some (.int x)] (.int x :: S) M := (rn_at k_J6_bitCount_0f7a4_35).trans rfl
theorem k_J6_bitCount_0f7a4_36 : lk 36 C_J6_bitCount_0f7a4 = some (.bipush 8, (0, 0, 0, 0)) := by decide +kernel
theorem s_J6_bitCount_0f7a4_36 {ca : Nat → List Value → tM → tO} {M : tM} {L : tL} {S : List Value} : rn ca C_J6_bitCount_0f7a4 36 L S M = rn ca C_J6_bitCount_0f7a4 38 L (.int (iI 8) :: S) M := (rn_at k_J6_bitCount_0f7a4_36).trans rfl
theorem k_J6_bitCount_0f7a4_38 : lk 38 C_J6_bitCount_0f7a4 = some (.iushr, (0, 0, 0, 0)) := by decide +kernel
theorem s_J6_bitCount_0f7a4_38 {ca : Nat → List Value → tM → tO} {M : tM} {L : tL} {x y : Int32} {S : List Value} : rn ca C_J6_bitCount_0f7a4 38 L (.int y :: .int x :: S) M = rn ca C_J6_bitCount_0f7a4 39 L (.int (ius x y) :: S) M := (rn_at k_J6_bitCount_0f7a4_38).trans rfl
theorem k_J6_bitCount_0f7a4_39 : lk 39 C_J6_bitCount_0f7a4 = some (.iadd, (0, 0, 0, 0)) := by decide +kernel
theorem s_J6_bitCount_0f7a4_39 {ca : Nat → List Value → tM → tO} {M : tM} {L : tL} {x y : Int32} {S : List Value} : rn ca C_J6_bitCount_0f7a4 39 L (.int y :: .int x :: S) M = rn ca C_J6_bitCount_0f7a4 40 L (.int (x + y) :: S) M := (rn_at k_J6_bitCount_0f7a4_39).trans rfl
theorem k_J6_bitCount_0f7a4_40 : lk 40 C_J6_bitCount_0f7a4 = some (.istore_n 0, (0, 0, 0, 0)) := by decide +kernel
theorem s_J6_bitCount_0f7a4_40 {ca : Nat → List Value → tM → tO} {M : tM} {a0 : Option Value} {x : Int32} {S : List Value} : rn ca C_J6_bitCount_0f7a4 40 [a0] (.int x :: S) M = rn ca C_J6_bitCount_0f7a4 41 [some (.int x)] S M := (rn_at k_J6_bitCount_0f7a4_40).trans rfl
theorem k_J6_bitCount_0f7a4_41 : lk 41 C_J6_bitCount_0f7a4 = some (.iload_n 0, (0, 0, 0, 0)) := by decide +kernel
theorem s_J6_bitCount_0f7a4_41 {ca : Nat → List Value → tM → tO} {M : tM} {x : Int32} {S : List Value} : rn ca C_J6_bitCount_0f7a4 41 [some (.int x)] S M = rn ca C_J6_bitCount_0f7a4 42 [some (.int x)] (.int x :: S) M := (rn_at k_J6_bitCount_0f7a4_41).trans rfl
theorem k_J6_bitCount_0f7a4_42 : lk 42 C_J6_bitCount_0f7a4 = some (.iload_n 0, (0, 0, 0, 0)) := by decide +kernel
theorem s_J6_bitCount_0f7a4_42 {ca : Nat → List Value → tM → tO} {M : tM} {x : Int32} {S : List Value} : rn ca C_J6_bitCount_0f7a4 42 [some (.int x)] S M = rn ca C_J6_bitCount_0f7a4 43 [some (.int x)] (.int x :: S) M := (rn_at k_J6_bitCount_0f7a4_42).trans rfl
theorem k_J6_bitCount_0f7a4_43 : lk 43 C_J6_bitCount_0f7a4 = some (.bipush 16, (0, 0, 0, 0)) := by decide +kernel
theorem s_J6_bitCount_0f7a4_43 {ca : Nat → List Value → tM → tO} {M : tM} {L : tL} {S : List Value} : rn ca C_J6_bitCount_0f7a4 43 L S M = rn ca C_J6_bitCount_0f7a4 45 L (.int (iI 16) :: S) M := (rn_at k_J6_bitCount_0f7a4_43).trans rfl
theorem k_J6_bitCount_0f7a4_45 : lk 45 C_J6_bitCount_0f7a4 = some (.iushr, (0, 0, 0, 0)) := by decide +kernel
theorem s_J6_bitCount_0f7a4_45 {ca : Nat → List Value → tM → tO} {M : tM} {L : tL} {x y : Int32} {S : List Value} : rn ca C_J6_bitCount_0f7a4 45 L (.int y :: .int x :: S) M = rn ca C_J6_bitCount_0f7a4 46 L (.int (ius x y) :: S) M := (rn_at k_J6_bitCount_0f7a4_45).trans rfl
theorem k_J6_bitCount_0f7a4_46 : lk 46 C_J6_bitCount_0f7a4 = some (.iadd, (0, 0, 0, 0)) := by decide +kernel
theorem s_J6_bitCount_0f7a4_46 {ca : Nat → List Value → tM → tO} {M : tM} {L : tL} {x y : Int32} {S : List Value} : rn ca C_J6_bitCount_0f7a4 46 L (.int y :: .int x :: S) M = rn ca C_J6_bitCount_0f7a4 47 L (.int (x + y) :: S) M := (rn_at k_J6_bitCount_0f7a4_46).trans rfl
theorem k_J6_bitCount_0f7a4_47 : lk 47 C_J6_bitCount_0f7a4 = some (.istore_n 0, (0, 0, 0, 0)) := by decide +kernel
theorem s_J6_bitCount_0f7a4_47 {ca : Nat → List Value → tM → tO} {M : tM} {a0 : Option Value} {x : Int32} {S : List Value} : rn ca C_J6_bitCount_0f7a4 47 [a0] (.int x :: S) M = rn ca C_J6_bitCount_0f7a4 48 [some (.int x)] S M := (rn_at k_J6_bitCount_0f7a4_47).trans rfl
theorem k_J6_bitCount_0f7a4_48 : lk 48 C_J6_bitCount_0f7a4 = some (.iload_n 0, (0, 0, 0, 0)) := by decide +kernel
theorem s_J6_bitCount_0f7a4_48 {ca : Nat → List Value → tM → tO} {M : tM} {x : Int32} {S : List Value} : rn ca C_J6_bitCount_0f7a4 48 [some (.int x)] S M = rn ca C_J6_bitCount_0f7a4 49 [some (.int x)] (.int x :: S) M := (rn_at k_J6_bitCount_0f7a4_48).trans rfl
theorem k_J6_bitCount_0f7a4_49 : lk 49 C_J6_bitCount_0f7a4 = some (.bipush 63, (0, 0, 0, 0)) := by decide +kernel
theorem s_J6_bitCount_0f7a4_49 {ca : Nat → List Value → tM → tO} {M : tM} {L : tL} {S : List Value} : rn ca C_J6_bitCount_0f7a4 49 L S M = rn ca C_J6_bitCount_0f7a4 51 L (.int (iI 63) :: S) M := (rn_at k_J6_bitCount_0f7a4_49).trans rfl
theorem k_J6_bitCount_0f7a4_51 : lk 51 C_J6_bitCount_0f7a4 = some (.iand, (0, 0, 0, 0)) := by decide +kernel
theorem s_J6_bitCount_0f7a4_51 {ca : Nat → List Value → tM → tO} {M : tM} {L : tL} {x y : Int32} {S : List Value} : rn ca C_J6_bitCount_0f7a4 51 L (.int y :: .int x :: S) M = rn ca C_J6_bitCount_0f7a4 52 L (.int (x &&& y) :: S) M := (rn_at k_J6_bitCount_0f7a4_51).trans rfl
theorem k_J6_bitCount_0f7a4_52 : lk 52 C_J6_bitCount_0f7a4 = some (.ireturn, (0, 0, 0, 0)) := by decide +kernel
theorem s_J6_bitCount_0f7a4_52 {ca : Nat → List Value → tM → tO} {M : tM} {L : tL} {x : Int32} : rn ca C_J6_bitCount_0f7a4 52 L [.int x] M = some (some (.int x), M) := (rn_at k_J6_bitCount_0f7a4_52).trans rfl
theorem k_J7_fill_d0a16_0 : lk 0 C_J7_fill_d0a16 = some (.iconst 0, (0, 0, 0, 0)) := by decide +kernel
theorem s_J7_fill_d0a16_0 {ca : Nat → List Value → tM → tO} {M : tM} {L : tL} {S : List Value} : rn ca C_J7_fill_d0a16 0 L S M = rn ca C_J7_fill_d0a16 1 L (.int (iI 0) :: S) M := (rn_at k_J7_fill_d0a16_0).trans rfl
theorem k_J7_fill_d0a16_1 : lk 1 C_J7_fill_d0a16 = some (.istore_n 3, (0, 0, 0, 0)) := by decide +kernel
theorem s_J7_fill_d0a16_1 {ca : Nat → List Value → tM → tO} {M : tM} {a0 a1 a2 a3 a4 : Option Value} {x : Int32} {S : List Value} : rn ca C_J7_fill_d0a16 1 [a0, a1, a2, a3, a4] (.int x :: S) M = rn ca C_J7_fill_d0a16 2 [a0, a1, a2, some (.int x), a4] S M := (rn_at k_J7_fill_d0a16_1).trans rfl
theorem k_J7_fill_d0a16_2 : lk 2 C_J7_fill_d0a16 = some (.aload_n 0, (0, 0, 0, 0)) := by decide +kernel
theorem s_J7_fill_d0a16_2 {ca : Nat → List Value → tM → tO} {M : tM} {a1 a2 a3 a4 : Option Value} {x : Nat} {S : List Value} : rn ca C_J7_fill_d0a16 2 [some (.ref x), a1, a2, a3, a4] S M = rn ca C_J7_fill_d0a16 3 [some (.ref x), a1, a2, a3, a4] (.ref x :: S) M := (rn_at k_J7_fill_d0a16_2).trans rfl
theorem k_J7_fill_d0a16_3 : lk 3 C_J7_fill_d0a16 = some (.arraylength, (0, 0, 0, 0)) := by decide +kernel
theorem s_J7_fill_d0a16_3 {ca : Nat → List Value → tM → tO} {M : tM} {L : tL} {a : Nat} {S : List Value} : rn ca C_J7_fill_d0a16 3 L (.ref a :: S) M = if akind a < 9 then rn ca C_J7_fill_d0a16 4 L (.int (iI (alen M a : Int)) :: S) M else none := (rn_at k_J7_fill_d0a16_3).trans rnx_ite
theorem k_J7_fill_d0a16_4 : lk 4 C_J7_fill_d0a16 = some (.istore 4, (0, 0, 0, 0)) := by decide +kernel
theorem s_J7_fill_d0a16_4 {ca : Nat → List Value → tM → tO} {M : tM} {a0 a1 a2 a3 a4 : Option Value} {x : Int32} {S : List Value} : rn ca C_J7_fill_d0a16 4 [a0, a1, a2, a3, a4] (.int x :: S) M = rn ca C_J7_fill_d0a16 6 [a0, a1, a2, a3, some (.int x)] S M := (rn_at k_J7_fill_d0a16_4).trans rfl
theorem k_J7_fill_d0a16_6 : lk 6 C_J7_fill_d0a16 = some (.iload_n 3, (0, 0, 0, 0)) := by decide +kernel
theorem s_J7_fill_d0a16_6 {ca : Nat → List Value → tM → tO} {M : tM} {a0 a1 a2 a4 : Option Value} {x : Int32} {S : List Value} : rn ca C_J7_fill_d0a16 6 [a0, a1, a2, some (.int x), a4] S M = rn ca C_J7_fill_d0a16 7 [a0, a1, a2, some (.int x), a4] (.int x :: S) M := (rn_at k_J7_fill_d0a16_6).trans rfl
theorem k_J7_fill_d0a16_7 : lk 7 C_J7_fill_d0a16 = some (.iload 4, (0, 0, 0, 0)) := by decide +kernel
theorem s_J7_fill_d0a16_7 {ca : Nat → List Value → tM → tO} {M : tM} {a0 a1 a2 a3 : Option Value} {x : Int32} {S : List Value} : rn ca C_J7_fill_d0a16 7 [a0, a1, a2, a3, some (.int x)] S M = rn ca C_J7_fill_d0a16 9 [a0, a1, a2, a3, some (.int x)] (.int x :: S) M := (rn_at k_J7_fill_d0a16_7).trans rfl
theorem k_J7_fill_d0a16_9 : lk 9 C_J7_fill_d0a16 = some (.if_icmp .ge 13, (22, 0, 0, 0)) := by decide +kernel
theorem s_J7_fill_d0a16_9 {ca : Nat → List Value → tM → tO} {M : tM} {L : tL} {x y : Int32} {S : List Value} : rn ca C_J7_fill_d0a16 9 L (.int y :: .int x :: S) M = if y ≤ x then rn ca C_J7_fill_d0a16 22 L S M else rn ca C_J7_fill_d0a16 12 L S M := (rn_at k_J7_fill_d0a16_9).trans rnx_ite
theorem k_J7_fill_d0a16_12 : lk 12 C_J7_fill_d0a16 = some (.aload_n 0, (0, 0, 0, 0)) := by decide +kernel
theorem s_J7_fill_d0a16_12 {ca : Nat → List Value → tM → tO} {M : tM} {a1 a2 a3 a4 : Option Value} {x : Nat} {S : List Value} : rn ca C_J7_fill_d0a16 12 [some (.ref x), a1, a2, a3, a4] S M = rn ca C_J7_fill_d0a16 13 [some (.ref x), a1, a2, a3, a4] (.ref x :: S) M := (rn_at k_J7_fill_d0a16_12).trans rfl
theorem k_J7_fill_d0a16_13 : lk 13 C_J7_fill_d0a16 = some (.iload_n 3, (0, 0, 0, 0)) := by decide +kernel
theorem s_J7_fill_d0a16_13 {ca : Nat → List Value → tM → tO} {M : tM} {a0 a1 a2 a4 : Option Value} {x : Int32} {S : List Value} : rn ca C_J7_fill_d0a16 13 [a0, a1, a2, some (.int x), a4] S M = rn ca C_J7_fill_d0a16 14 [a0, a1, a2, some (.int x), a4] (.int x :: S) M := (rn_at k_J7_fill_d0a16_13).trans rfl
theorem k_J7_fill_d0a16_14 : lk 14 C_J7_fill_d0a16 = some (.lload_n 1, (0, 0, 0, 0)) := by decide +kernel
theorem s_J7_fill_d0a16_14 {ca : Nat → List Value → tM → tO} {M : tM} {a0 a2 a3 a4 : Option Value} {x : Int64} {S : List Value} : rn ca C_J7_fill_d0a16 14 [a0, some (.long x), a2, a3, a4] S M = rn ca C_J7_fill_d0a16 15 [a0, some (.long x), a2, a3, a4] (.long x :: S) M := (rn_at k_J7_fill_d0a16_14).trans rfl
theorem k_J7_fill_d0a16_15 : lk 15 C_J7_fill_d0a16 = some (.lastore, (0, 0, 0, 0)) := by decide +kernel
theorem s_J7_fill_d0a16_15 {ca : Nat → List Value → tM → tO} {M : tM} {L : tL} {a : Nat} {i : Int32} {x : Int64} {S : List Value} : rn ca C_J7_fill_d0a16 15 L (.long x :: .int i :: .ref a :: S) M = if akind a = 2 ∧ inb i (alen M a) then rn ca C_J7_fill_d0a16 16 L S (sJ M a i.toInt.toNat x) else none := (rn_at k_J7_fill_d0a16_15).trans rnx_ite
theorem k_J7_fill_d0a16_16 : lk 16 C_J7_fill_d0a16 = some (.iinc 3 1, (0, 0, 0, 0)) := by decide +kernel
theorem s_J7_fill_d0a16_16 {ca : Nat → List Value → tM → tO} {M : tM} {a0 a1 a2 a4 : Option Value} {x : Int32} {S : List Value} : rn ca C_J7_fill_d0a16 16 [a0, a1, a2, some (.int x), a4] S M = rn ca C_J7_fill_d0a16 19 [a0, a1, a2, some (.int (x + iI 1)), a4] S M := (rn_at k_J7_fill_d0a16_16).trans rfl
theorem k_J7_fill_d0a16_19 : lk 19 C_J7_fill_d0a16 = some (.goto (-13), (6, 0, 0, 0)) := by decide +kernel
theorem s_J7_fill_d0a16_19 {ca : Nat → List Value → tM → tO} {M : tM} {L : tL} {S : List Value} : rn ca C_J7_fill_d0a16 19 L S M = rn ca C_J7_fill_d0a16 6 L S M := (rn_at k_J7_fill_d0a16_19).trans rfl
theorem k_J7_fill_d0a16_22 : lk 22 C_J7_fill_d0a16 = some (.return_, (0, 0, 0, 0)) := by decide +kernel
theorem s_J7_fill_d0a16_22 {ca : Nat → List Value → tM → tO} {M : tM} {L : tL} : rn ca C_J7_fill_d0a16 22 L [] M = some (none, M) := (rn_at k_J7_fill_d0a16_22).trans rfl
theorem k_J7_fill_53178_0 : lk 0 C_J7_fill_53178 = some (.iconst 0, (0, 0, 0, 0)) := by decide +kernel
theorem s_J7_fill_53178_0 {ca : Nat → List Value → tM → tO} {M : tM} {L : tL} {S : List Value} : rn ca C_J7_fill_53178 0 L S M = rn ca C_J7_fill_53178 1 L (.int (iI 0) :: S) M := (rn_at k_J7_fill_53178_0).trans rfl
theorem k_J7_fill_53178_1 : lk 1 C_J7_fill_53178 = some (.istore_n 2, (0, 0, 0, 0)) := by decide +kernel
theorem s_J7_fill_53178_1 {ca : Nat → List Value → tM → tO} {M : tM} {a0 a1 a2 a3 : Option Value} {x : Int32} {S : List Value} : rn ca C_J7_fill_53178 1 [a0, a1, a2, a3] (.int x :: S) M = rn ca C_J7_fill_53178 2 [a0, a1, some (.int x), a3] S M := (rn_at k_J7_fill_53178_1).trans rfl
theorem k_J7_fill_53178_2 : lk 2 C_J7_fill_53178 = some (.aload_n 0, (0, 0, 0, 0)) := by decide +kernel
theorem s_J7_fill_53178_2 {ca : Nat → List Value → tM → tO} {M : tM} {a1 a2 a3 : Option Value} {x : Nat} {S : List Value} : rn ca C_J7_fill_53178 2 [some (.ref x), a1, a2, a3] S M = rn ca C_J7_fill_53178 3 [some (.ref x), a1, a2, a3] (.ref x :: S) M := (rn_at k_J7_fill_53178_2).trans rfl
theorem k_J7_fill_53178_3 : lk 3 C_J7_fill_53178 = some (.arraylength, (0, 0, 0, 0)) := by decide +kernel
theorem s_J7_fill_53178_3 {ca : Nat → List Value → tM → tO} {M : tM} {L : tL} {a : Nat} {S : List Value} : rn ca C_J7_fill_53178 3 L (.ref a :: S) M = if akind a < 9 then rn ca C_J7_fill_53178 4 L (.int (iI (alen M a : Int)) :: S) M else none := (rn_at k_J7_fill_53178_3).trans rnx_ite
theorem k_J7_fill_53178_4 : lk 4 C_J7_fill_53178 = some (.istore_n 3, (0, 0, 0, 0)) := by decide +kernel
theorem s_J7_fill_53178_4 {ca : Nat → List Value → tM → tO} {M : tM} {a0 a1 a2 a3 : Option Value} {x : Int32} {S : List Value} : rn ca C_J7_fill_53178 4 [a0, a1, a2, a3] (.int x :: S) M = rn ca C_J7_fill_53178 5 [a0, a1, a2, some (.int x)] S M := (rn_at k_J7_fill_53178_4).trans rfl
theorem k_J7_fill_53178_5 : lk 5 C_J7_fill_53178 = some (.iload_n 2, (0, 0, 0, 0)) := by decide +kernel
theorem s_J7_fill_53178_5 {ca : Nat → List Value → tM → tO} {M : tM} {a0 a1 a3 : Option Value} {x : Int32} {S : List Value} : rn ca C_J7_fill_53178 5 [a0, a1, some (.int x), a3] S M = rn ca C_J7_fill_53178 6 [a0, a1, some (.int x), a3] (.int x :: S) M := (rn_at k_J7_fill_53178_5).trans rfl
theorem k_J7_fill_53178_6 : lk 6 C_J7_fill_53178 = some (.iload_n 3, (0, 0, 0, 0)) := by decide +kernel
theorem s_J7_fill_53178_6 {ca : Nat → List Value → tM → tO} {M : tM} {a0 a1 a2 : Option Value} {x : Int32} {S : List Value} : rn ca C_J7_fill_53178 6 [a0, a1, a2, some (.int x)] S M = rn ca C_J7_fill_53178 7 [a0, a1, a2, some (.int x)] (.int x :: S) M := (rn_at k_J7_fill_53178_6).trans rfl
theorem k_J7_fill_53178_7 : lk 7 C_J7_fill_53178 = some (.if_icmp .ge 13, (20, 0, 0, 0)) := by decide +kernel
theorem s_J7_fill_53178_7 {ca : Nat → List Value → tM → tO} {M : tM} {L : tL} {x y : Int32} {S : List Value} : rn ca C_J7_fill_53178 7 L (.int y :: .int x :: S) M = if y ≤ x then rn ca C_J7_fill_53178 20 L S M else rn ca C_J7_fill_53178 10 L S M := (rn_at k_J7_fill_53178_7).trans rnx_ite
theorem k_J7_fill_53178_10 : lk 10 C_J7_fill_53178 = some (.aload_n 0, (0, 0, 0, 0)) := by decide +kernel
theorem s_J7_fill_53178_10 {ca : Nat → List Value → tM → tO} {M : tM} {a1 a2 a3 : Option Value} {x : Nat} {S : List Value} : rn ca C_J7_fill_53178 10 [some (.ref x), a1, a2, a3] S M = rn ca C_J7_fill_53178 11 [some (.ref x), a1, a2, a3] (.ref x :: S) M := (rn_at k_J7_fill_53178_10).trans rfl
theorem k_J7_fill_53178_11 : lk 11 C_J7_fill_53178 = some (.iload_n 2, (0, 0, 0, 0)) := by decide +kernel
theorem s_J7_fill_53178_11 {ca : Nat → List Value → tM → tO} {M : tM} {a0 a1 a3 : Option Value} {x : Int32} {S : List Value} : rn ca C_J7_fill_53178 11 [a0, a1, some (.int x), a3] S M = rn ca C_J7_fill_53178 12 [a0, a1, some (.int x), a3] (.int x :: S) M := (rn_at k_J7_fill_53178_11).trans rfl
theorem k_J7_fill_53178_12 : lk 12 C_J7_fill_53178 = some (.iload_n 1, (0, 0, 0, 0)) := by decide +kernel
theorem s_J7_fill_53178_12 {ca : Nat → List Value → tM → tO} {M : tM} {a0 a2 a3 : Option Value} {x : Int32} {S : List Value} : rn ca C_J7_fill_53178 12 [a0, some (.int x), a2, a3] S M = rn ca C_J7_fill_53178 13 [a0, some (.int x), a2, a3] (.int x :: S) M := (rn_at k_J7_fill_53178_12).trans rfl
theorem k_J7_fill_53178_13 : lk 13 C_J7_fill_53178 = some (.iastore, (0, 0, 0, 0)) := by decide +kernel
theorem s_J7_fill_53178_13 {ca : Nat → List Value → tM → tO} {M : tM} {L : tL} {a : Nat} {i x : Int32} {S : List Value} : rn ca C_J7_fill_53178 13 L (.int x :: .int i :: .ref a :: S) M = if akind a = 0 ∧ inb i (alen M a) then rn ca C_J7_fill_53178 14 L S (sI M a i.toInt.toNat x) else none := (rn_at k_J7_fill_53178_13).trans rnx_ite
theorem k_J7_fill_53178_14 : lk 14 C_J7_fill_53178 = some (.iinc 2 1, (0, 0, 0, 0)) := by decide +kernel
theorem s_J7_fill_53178_14 {ca : Nat → List Value → tM → tO} {M : tM} {a0 a1 a3 : Option Value} {x : Int32} {S : List Value} : rn ca C_J7_fill_53178 14 [a0, a1, some (.int x), a3] S M = rn ca C_J7_fill_53178 17 [a0, a1, some (.int (x + iI 1)), a3] S M := (rn_at k_J7_fill_53178_14).trans rfl
theorem k_J7_fill_53178_17 : lk 17 C_J7_fill_53178 = some (.goto (-12), (5, 0, 0, 0)) := by decide +kernel
theorem s_J7_fill_53178_17 {ca : Nat → List Value → tM → tO} {M : tM} {L : tL} {S : List Value} : rn ca C_J7_fill_53178 17 L S M = rn ca C_J7_fill_53178 5 L S M := (rn_at k_J7_fill_53178_17).trans rfl
theorem k_J7_fill_53178_20 : lk 20 C_J7_fill_53178 = some (.return_, (0, 0, 0, 0)) := by decide +kernel
theorem s_J7_fill_53178_20 {ca : Nat → List Value → tM → tO} {M : tM} {L : tL} : rn ca C_J7_fill_53178 20 L [] M = some (none, M) := (rn_at k_J7_fill_53178_20).trans rfl
