theorem k_X11_fill_0 : lk 0 C_X11_fill = some (.aload_n 0, (0, 0, 0, 0)) := by decide +kernel
theorem s_X11_fill_0 {ca : Nat → List Value → tM → tO} {M : tM} {a1 a2 a3 a4 : Option Value} {x : Nat} {S : List Value} : rn ca C_X11_fill 0 [some (.ref x), a1, a2, a3, a4] S M = rn ca C_X11_fill 1 [some (.ref x), a1, a2, a3, a4] (.ref x :: S) M := (rn_at k_X11_fill_0).trans rfl
theorem k_X11_fill_1 : lk 1 C_X11_fill = some (.invokevirtual 214, (192, 0, 11, 757)) := by decide +kernel
theorem s_X11_fill_1 {ca : Nat → List Value → tM → tO} {M : tM} {L : tL} {b : Nat} : rn ca C_X11_fill 1 L [.ref b] M = if clsO b = some 11 then rnk ca C_X11_fill 4 L [] (ca m_X11_clear [.ref b] M) else none := (rn_at k_X11_fill_1).trans rnx_ite
theorem k_X11_fill_4 : lk 4 C_X11_fill = some (.iconst 0, (0, 0, 0, 0)) := by decide +kernel
theorem s_X11_fill_4 {ca : Nat → List Value → tM → tO} {M : tM} {L : tL} {S : List Value} : rn ca C_X11_fill 4 L S M = rn ca C_X11_fill 5 L (.int (iI 0) :: S) M := (rn_at k_X11_fill_4).trans rfl
theorem k_X11_fill_5 : lk 5 C_X11_fill = some (.istore_n 3, (0, 0, 0, 0)) := by decide +kernel
theorem s_X11_fill_5 {ca : Nat → List Value → tM → tO} {M : tM} {a0 a1 a2 a3 a4 : Option Value} {x : Int32} {S : List Value} : rn ca C_X11_fill 5 [a0, a1, a2, a3, a4] (.int x :: S) M = rn ca C_X11_fill 6 [a0, a1, a2, some (.int x), a4] S M := (rn_at k_X11_fill_5).trans rfl
theorem k_X11_fill_6 : lk 6 C_X11_fill = some (.iload_n 3, (0, 0, 0, 0)) := by decide +kernel
theorem s_X11_fill_6 {ca : Nat → List Value → tM → tO} {M : tM} {a0 a1 a2 a4 : Option Value} {x : Int32} {S : List Value} : rn ca C_X11_fill 6 [a0, a1, a2, some (.int x), a4] S M = rn ca C_X11_fill 7 [a0, a1, a2, some (.int x), a4] (.int x :: S) M := (rn_at k_X11_fill_6).trans rfl
theorem k_X11_fill_7 : lk 7 C_X11_fill = some (.aload_n 0, (0, 0, 0, 0)) := by decide +kernel
theorem s_X11_fill_7 {ca : Nat → List Value → tM → tO} {M : tM} {a1 a2 a3 a4 : Option Value} {x : Nat} {S : List Value} : rn ca C_X11_fill 7 [some (.ref x), a1, a2, a3, a4] S M = rn ca C_X11_fill 8 [some (.ref x), a1, a2, a3, a4] (.ref x :: S) M := (rn_at k_X11_fill_7).trans rfl
theorem k_X11_fill_8 : lk 8 C_X11_fill = some (.getfield 17, (11, 1, 0, 147)) := by decide +kernel
theorem s_X11_fill_8 {ca : Nat → List Value → tM → tO} {M : tM} {L : tL} {b : Nat} {S : List Value} : rn ca C_X11_fill 8 L (.ref b :: S) M = if clsO b = some 11 then rn ca C_X11_fill 11 L (fv M b 1 :: S) M else none := (rn_at k_X11_fill_8).trans rnx_ite
theorem k_X11_fill_11 : lk 11 C_X11_fill = some (.bipush 109, (0, 0, 0, 0)) := by decide +kernel
theorem s_X11_fill_11 {ca : Nat → List Value → tM → tO} {M : tM} {L : tL} {S : List Value} : rn ca C_X11_fill 11 L S M = rn ca C_X11_fill 13 L (.int (iI 109) :: S) M := (rn_at k_X11_fill_11).trans rfl
theorem k_X11_fill_13 : lk 13 C_X11_fill = some (.iaload, (0, 0, 0, 0)) := by decide +kernel
theorem s_X11_fill_13 {ca : Nat → List Value → tM → tO} {M : tM} {L : tL} {a : Nat} {i : Int32} {S : List Value} : rn ca C_X11_fill 13 L (.int i :: .ref a :: S) M = if (akind a = 0 ∨ akind a = 6 ∨ akind a = 7) ∧ inb i (alen M a) then rn ca C_X11_fill 14 L (.int (M.1 a i.toInt.toNat) :: S) M else none := (rn_at k_X11_fill_13).trans rnx_ite
theorem k_X11_fill_14 : lk 14 C_X11_fill = some (.if_icmp .ge 77, (91, 0, 0, 0)) := by decide +kernel
theorem s_X11_fill_14 {ca : Nat → List Value → tM → tO} {M : tM} {L : tL} {x y : Int32} {S : List Value} : rn ca C_X11_fill 14 L (.int y :: .int x :: S) M = if y ≤ x then rn ca C_X11_fill 91 L S M else rn ca C_X11_fill 17 L S M := (rn_at k_X11_fill_14).trans rnx_ite
theorem k_X11_fill_17 : lk 17 C_X11_fill = some (.iload_n 2, (0, 0, 0, 0)) := by decide +kernel
theorem s_X11_fill_17 {ca : Nat → List Value → tM → tO} {M : tM} {a0 a1 a3 a4 : Option Value} {x : Int32} {S : List Value} : rn ca C_X11_fill 17 [a0, a1, some (.int x), a3, a4] S M = rn ca C_X11_fill 18 [a0, a1, some (.int x), a3, a4] (.int x :: S) M := (rn_at k_X11_fill_17).trans rfl
theorem k_X11_fill_18 : lk 18 C_X11_fill = some (.ifCond .eq 7, (25, 0, 0, 0)) := by decide +kernel
theorem s_X11_fill_18 {ca : Nat → List Value → tM → tO} {M : tM} {L : tL} {x : Int32} {S : List Value} : rn ca C_X11_fill 18 L (.int x :: S) M = if x = iI 0 then rn ca C_X11_fill 25 L S M else rn ca C_X11_fill 21 L S M := (rn_at k_X11_fill_18).trans rnx_ite
theorem k_X11_fill_21 : lk 21 C_X11_fill = some (.iconst 1, (0, 0, 0, 0)) := by decide +kernel
theorem s_X11_fill_21 {ca : Nat → List Value → tM → tO} {M : tM} {L : tL} {S : List Value} : rn ca C_X11_fill 21 L S M = rn ca C_X11_fill 22 L (.int (iI 1) :: S) M := (rn_at k_X11_fill_21).trans rfl
theorem k_X11_fill_22 : lk 22 C_X11_fill = some (.goto 9, (31, 0, 0, 0)) := by decide +kernel
theorem s_X11_fill_22 {ca : Nat → List Value → tM → tO} {M : tM} {L : tL} {S : List Value} : rn ca C_X11_fill 22 L S M = rn ca C_X11_fill 31 L S M := (rn_at k_X11_fill_22).trans rfl
theorem k_X11_fill_25 : lk 25 C_X11_fill = some (.aload_n 0, (0, 0, 0, 0)) := by decide +kernel
theorem s_X11_fill_25 {ca : Nat → List Value → tM → tO} {M : tM} {a1 a2 a3 a4 : Option Value} {x : Nat} {S : List Value} : rn ca C_X11_fill 25 [some (.ref x), a1, a2, a3, a4] S M = rn ca C_X11_fill 26 [some (.ref x), a1, a2, a3, a4] (.ref x :: S) M := (rn_at k_X11_fill_25).trans rfl
theorem k_X11_fill_26 : lk 26 C_X11_fill = some (.iload_n 1, (0, 0, 0, 0)) := by decide +kernel
theorem s_X11_fill_26 {ca : Nat → List Value → tM → tO} {M : tM} {a0 a2 a3 a4 : Option Value} {x : Int32} {S : List Value} : rn ca C_X11_fill 26 [a0, some (.int x), a2, a3, a4] S M = rn ca C_X11_fill 27 [a0, some (.int x), a2, a3, a4] (.int x :: S) M := (rn_at k_X11_fill_26).trans rfl
theorem k_X11_fill_27 : lk 27 C_X11_fill = some (.iload_n 3, (0, 0, 0, 0)) := by decide +kernel
theorem s_X11_fill_27 {ca : Nat → List Value → tM → tO} {M : tM} {a0 a1 a2 a4 : Option Value} {x : Int32} {S : List Value} : rn ca C_X11_fill 27 [a0, a1, a2, some (.int x), a4] S M = rn ca C_X11_fill 28 [a0, a1, a2, some (.int x), a4] (.int x :: S) M := (rn_at k_X11_fill_27).trans rfl
theorem k_X11_fill_28 : lk 28 C_X11_fill = some (.invokevirtual 204, (190, 2, 11, 678)) := by decide +kernel
theorem s_X11_fill_28 {ca : Nat → List Value → tM → tO} {M : tM} {L : tL} {v1 v2 : Value} {b : Nat} : rn ca C_X11_fill 28 L [v2, v1, .ref b] M = if clsO b = some 11 then rnk ca C_X11_fill 31 L [] (ca m_X11_timeOf [.ref b, v1, v2] M) else none := (rn_at k_X11_fill_28).trans rnx_ite
theorem k_X11_fill_31 : lk 31 C_X11_fill = some (.istore 4, (0, 0, 0, 0)) := by decide +kernel
theorem s_X11_fill_31 {ca : Nat → List Value → tM → tO} {M : tM} {a0 a1 a2 a3 a4 : Option Value} {x : Int32} {S : List Value} : rn ca C_X11_fill 31 [a0, a1, a2, a3, a4] (.int x :: S) M = rn ca C_X11_fill 33 [a0, a1, a2, a3, some (.int x)] S M := (rn_at k_X11_fill_31).trans rfl
theorem k_X11_fill_33 : lk 33 C_X11_fill = some (.aload_n 0, (0, 0, 0, 0)) := by decide +kernel
theorem s_X11_fill_33 {ca : Nat → List Value → tM → tO} {M : tM} {a1 a2 a3 a4 : Option Value} {x : Nat} {S : List Value} : rn ca C_X11_fill 33 [some (.ref x), a1, a2, a3, a4] S M = rn ca C_X11_fill 34 [some (.ref x), a1, a2, a3, a4] (.ref x :: S) M := (rn_at k_X11_fill_33).trans rfl
theorem k_X11_fill_34 : lk 34 C_X11_fill = some (.iload_n 1, (0, 0, 0, 0)) := by decide +kernel
theorem s_X11_fill_34 {ca : Nat → List Value → tM → tO} {M : tM} {a0 a2 a3 a4 : Option Value} {x : Int32} {S : List Value} : rn ca C_X11_fill 34 [a0, some (.int x), a2, a3, a4] S M = rn ca C_X11_fill 35 [a0, some (.int x), a2, a3, a4] (.int x :: S) M := (rn_at k_X11_fill_34).trans rfl
theorem k_X11_fill_35 : lk 35 C_X11_fill = some (.iload_n 3, (0, 0, 0, 0)) := by decide +kernel
theorem s_X11_fill_35 {ca : Nat → List Value → tM → tO} {M : tM} {a0 a1 a2 a4 : Option Value} {x : Int32} {S : List Value} : rn ca C_X11_fill 35 [a0, a1, a2, some (.int x), a4] S M = rn ca C_X11_fill 36 [a0, a1, a2, some (.int x), a4] (.int x :: S) M := (rn_at k_X11_fill_35).trans rfl
theorem k_X11_fill_36 : lk 36 C_X11_fill = some (.iconst 0, (0, 0, 0, 0)) := by decide +kernel
theorem s_X11_fill_36 {ca : Nat → List Value → tM → tO} {M : tM} {L : tL} {S : List Value} : rn ca C_X11_fill 36 L S M = rn ca C_X11_fill 37 L (.int (iI 0) :: S) M := (rn_at k_X11_fill_36).trans rfl
theorem k_X11_fill_37 : lk 37 C_X11_fill = some (.invokevirtual 217, (189, 3, 11, 761)) := by decide +kernel
theorem s_X11_fill_37 {ca : Nat → List Value → tM → tO} {M : tM} {L : tL} {v1 v2 v3 : Value} {b : Nat} : rn ca C_X11_fill 37 L [v3, v2, v1, .ref b] M = if clsO b = some 11 then rnk ca C_X11_fill 40 L [] (ca m_X11_may [.ref b, v1, v2, v3] M) else none := (rn_at k_X11_fill_37).trans rnx_ite
theorem k_X11_fill_40 : lk 40 C_X11_fill = some (.ifCond .eq 19, (59, 0, 0, 0)) := by decide +kernel
theorem s_X11_fill_40 {ca : Nat → List Value → tM → tO} {M : tM} {L : tL} {x : Int32} {S : List Value} : rn ca C_X11_fill 40 L (.int x :: S) M = if x = iI 0 then rn ca C_X11_fill 59 L S M else rn ca C_X11_fill 43 L S M := (rn_at k_X11_fill_40).trans rnx_ite
theorem k_X11_fill_43 : lk 43 C_X11_fill = some (.aload_n 0, (0, 0, 0, 0)) := by decide +kernel
theorem s_X11_fill_43 {ca : Nat → List Value → tM → tO} {M : tM} {a1 a2 a3 a4 : Option Value} {x : Nat} {S : List Value} : rn ca C_X11_fill 43 [some (.ref x), a1, a2, a3, a4] S M = rn ca C_X11_fill 44 [some (.ref x), a1, a2, a3, a4] (.ref x :: S) M := (rn_at k_X11_fill_43).trans rfl
theorem k_X11_fill_44 : lk 44 C_X11_fill = some (.aload_n 0, (0, 0, 0, 0)) := by decide +kernel
theorem s_X11_fill_44 {ca : Nat → List Value → tM → tO} {M : tM} {a1 a2 a3 a4 : Option Value} {x : Nat} {S : List Value} : rn ca C_X11_fill 44 [some (.ref x), a1, a2, a3, a4] S M = rn ca C_X11_fill 45 [some (.ref x), a1, a2, a3, a4] (.ref x :: S) M := (rn_at k_X11_fill_44).trans rfl
theorem k_X11_fill_45 : lk 45 C_X11_fill = some (.iload_n 3, (0, 0, 0, 0)) := by decide +kernel
theorem s_X11_fill_45 {ca : Nat → List Value → tM → tO} {M : tM} {a0 a1 a2 a4 : Option Value} {x : Int32} {S : List Value} : rn ca C_X11_fill 45 [a0, a1, a2, some (.int x), a4] S M = rn ca C_X11_fill 46 [a0, a1, a2, some (.int x), a4] (.int x :: S) M := (rn_at k_X11_fill_45).trans rfl
theorem k_X11_fill_46 : lk 46 C_X11_fill = some (.invokevirtual 221, (150, 1, 11, 769)) := by decide +kernel
theorem s_X11_fill_46 {ca : Nat → List Value → tM → tO} {M : tM} {L : tL} {v1 : Value} {r0 : Nat} {b : Nat} : rn ca C_X11_fill 46 L [v1, .ref b, .ref r0] M = if clsO b = some 11 then rnk ca C_X11_fill 49 L [.ref r0] (ca m_X11_from [.ref b, v1] M) else none := (rn_at k_X11_fill_46).trans rnx_ite
theorem k_X11_fill_49 : lk 49 C_X11_fill = some (.aload_n 0, (0, 0, 0, 0)) := by decide +kernel
theorem s_X11_fill_49 {ca : Nat → List Value → tM → tO} {M : tM} {a1 a2 a3 a4 : Option Value} {x : Nat} {S : List Value} : rn ca C_X11_fill 49 [some (.ref x), a1, a2, a3, a4] S M = rn ca C_X11_fill 50 [some (.ref x), a1, a2, a3, a4] (.ref x :: S) M := (rn_at k_X11_fill_49).trans rfl
theorem k_X11_fill_50 : lk 50 C_X11_fill = some (.iload_n 3, (0, 0, 0, 0)) := by decide +kernel
theorem s_X11_fill_50 {ca : Nat → List Value → tM → tO} {M : tM} {a0 a1 a2 a4 : Option Value} {x : Int32} {S : List Value} : rn ca C_X11_fill 50 [a0, a1, a2, some (.int x), a4] S M = rn ca C_X11_fill 51 [a0, a1, a2, some (.int x), a4] (.int x :: S) M := (rn_at k_X11_fill_50).trans rfl
theorem k_X11_fill_51 : lk 51 C_X11_fill = some (.invokevirtual 224, (151, 1, 11, 773)) := by decide +kernel
theorem s_X11_fill_51 {ca : Nat → List Value → tM → tO} {M : tM} {L : tL} {v1 : Value} {r0 : Int32} {r1 : Nat} {b : Nat} : rn ca C_X11_fill 51 L [v1, .ref b, .int r0, .ref r1] M = if clsO b = some 11 then rnk ca C_X11_fill 54 L [.int r0, .ref r1] (ca m_X11_to [.ref b, v1] M) else none := (rn_at k_X11_fill_51).trans rnx_ite
theorem k_X11_fill_54 : lk 54 C_X11_fill = some (.iload 4, (0, 0, 0, 0)) := by decide +kernel
theorem s_X11_fill_54 {ca : Nat → List Value → tM → tO} {M : tM} {a0 a1 a2 a3 : Option Value} {x : Int32} {S : List Value} : rn ca C_X11_fill 54 [a0, a1, a2, a3, some (.int x)] S M = rn ca C_X11_fill 56 [a0, a1, a2, a3, some (.int x)] (.int x :: S) M := (rn_at k_X11_fill_54).trans rfl
theorem k_X11_fill_56 : lk 56 C_X11_fill = some (.invokevirtual 210, (193, 3, 11, 777)) := by decide +kernel
theorem s_X11_fill_56 {ca : Nat → List Value → tM → tO} {M : tM} {L : tL} {v1 v2 v3 : Value} {b : Nat} : rn ca C_X11_fill 56 L [v3, v2, v1, .ref b] M = if clsO b = some 11 then rnk ca C_X11_fill 59 L [] (ca m_X11_nearer [.ref b, v1, v2, v3] M) else none := (rn_at k_X11_fill_56).trans rnx_ite
theorem k_X11_fill_59 : lk 59 C_X11_fill = some (.aload_n 0, (0, 0, 0, 0)) := by decide +kernel
theorem s_X11_fill_59 {ca : Nat → List Value → tM → tO} {M : tM} {a1 a2 a3 a4 : Option Value} {x : Nat} {S : List Value} : rn ca C_X11_fill 59 [some (.ref x), a1, a2, a3, a4] S M = rn ca C_X11_fill 60 [some (.ref x), a1, a2, a3, a4] (.ref x :: S) M := (rn_at k_X11_fill_59).trans rfl
theorem k_X11_fill_60 : lk 60 C_X11_fill = some (.iload_n 1, (0, 0, 0, 0)) := by decide +kernel
theorem s_X11_fill_60 {ca : Nat → List Value → tM → tO} {M : tM} {a0 a2 a3 a4 : Option Value} {x : Int32} {S : List Value} : rn ca C_X11_fill 60 [a0, some (.int x), a2, a3, a4] S M = rn ca C_X11_fill 61 [a0, some (.int x), a2, a3, a4] (.int x :: S) M := (rn_at k_X11_fill_60).trans rfl
theorem k_X11_fill_61 : lk 61 C_X11_fill = some (.iload_n 3, (0, 0, 0, 0)) := by decide +kernel
theorem s_X11_fill_61 {ca : Nat → List Value → tM → tO} {M : tM} {a0 a1 a2 a4 : Option Value} {x : Int32} {S : List Value} : rn ca C_X11_fill 61 [a0, a1, a2, some (.int x), a4] S M = rn ca C_X11_fill 62 [a0, a1, a2, some (.int x), a4] (.int x :: S) M := (rn_at k_X11_fill_61).trans rfl
theorem k_X11_fill_62 : lk 62 C_X11_fill = some (.iconst 1, (0, 0, 0, 0)) := by decide +kernel
theorem s_X11_fill_62 {ca : Nat → List Value → tM → tO} {M : tM} {L : tL} {S : List Value} : rn ca C_X11_fill 62 L S M = rn ca C_X11_fill 63 L (.int (iI 1) :: S) M := (rn_at k_X11_fill_62).trans rfl
theorem k_X11_fill_63 : lk 63 C_X11_fill = some (.invokevirtual 217, (189, 3, 11, 761)) := by decide +kernel
theorem s_X11_fill_63 {ca : Nat → List Value → tM → tO} {M : tM} {L : tL} {v1 v2 v3 : Value} {b : Nat} : rn ca C_X11_fill 63 L [v3, v2, v1, .ref b] M = if clsO b = some 11 then rnk ca C_X11_fill 66 L [] (ca m_X11_may [.ref b, v1, v2, v3] M) else none := (rn_at k_X11_fill_63).trans rnx_ite
theorem k_X11_fill_66 : lk 66 C_X11_fill = some (.ifCond .eq 19, (85, 0, 0, 0)) := by decide +kernel
theorem s_X11_fill_66 {ca : Nat → List Value → tM → tO} {M : tM} {L : tL} {x : Int32} {S : List Value} : rn ca C_X11_fill 66 L (.int x :: S) M = if x = iI 0 then rn ca C_X11_fill 85 L S M else rn ca C_X11_fill 69 L S M := (rn_at k_X11_fill_66).trans rnx_ite
theorem k_X11_fill_69 : lk 69 C_X11_fill = some (.aload_n 0, (0, 0, 0, 0)) := by decide +kernel
theorem s_X11_fill_69 {ca : Nat → List Value → tM → tO} {M : tM} {a1 a2 a3 a4 : Option Value} {x : Nat} {S : List Value} : rn ca C_X11_fill 69 [some (.ref x), a1, a2, a3, a4] S M = rn ca C_X11_fill 70 [some (.ref x), a1, a2, a3, a4] (.ref x :: S) M := (rn_at k_X11_fill_69).trans rfl
theorem k_X11_fill_70 : lk 70 C_X11_fill = some (.aload_n 0, (0, 0, 0, 0)) := by decide +kernel
theorem s_X11_fill_70 {ca : Nat → List Value → tM → tO} {M : tM} {a1 a2 a3 a4 : Option Value} {x : Nat} {S : List Value} : rn ca C_X11_fill 70 [some (.ref x), a1, a2, a3, a4] S M = rn ca C_X11_fill 71 [some (.ref x), a1, a2, a3, a4] (.ref x :: S) M := (rn_at k_X11_fill_70).trans rfl
theorem k_X11_fill_71 : lk 71 C_X11_fill = some (.iload_n 3, (0, 0, 0, 0)) := by decide +kernel
theorem s_X11_fill_71 {ca : Nat → List Value → tM → tO} {M : tM} {a0 a1 a2 a4 : Option Value} {x : Int32} {S : List Value} : rn ca C_X11_fill 71 [a0, a1, a2, some (.int x), a4] S M = rn ca C_X11_fill 72 [a0, a1, a2, some (.int x), a4] (.int x :: S) M := (rn_at k_X11_fill_71).trans rfl
theorem k_X11_fill_72 : lk 72 C_X11_fill = some (.invokevirtual 224, (151, 1, 11, 773)) := by decide +kernel
theorem s_X11_fill_72 {ca : Nat → List Value → tM → tO} {M : tM} {L : tL} {v1 : Value} {r0 : Nat} {b : Nat} : rn ca C_X11_fill 72 L [v1, .ref b, .ref r0] M = if clsO b = some 11 then rnk ca C_X11_fill 75 L [.ref r0] (ca m_X11_to [.ref b, v1] M) else none := (rn_at k_X11_fill_72).trans rnx_ite
theorem k_X11_fill_75 : lk 75 C_X11_fill = some (.aload_n 0, (0, 0, 0, 0)) := by decide +kernel
theorem s_X11_fill_75 {ca : Nat → List Value → tM → tO} {M : tM} {a1 a2 a3 a4 : Option Value} {x : Nat} {S : List Value} : rn ca C_X11_fill 75 [some (.ref x), a1, a2, a3, a4] S M = rn ca C_X11_fill 76 [some (.ref x), a1, a2, a3, a4] (.ref x :: S) M := (rn_at k_X11_fill_75).trans rfl
theorem k_X11_fill_76 : lk 76 C_X11_fill = some (.iload_n 3, (0, 0, 0, 0)) := by decide +kernel
theorem s_X11_fill_76 {ca : Nat → List Value → tM → tO} {M : tM} {a0 a1 a2 a4 : Option Value} {x : Int32} {S : List Value} : rn ca C_X11_fill 76 [a0, a1, a2, some (.int x), a4] S M = rn ca C_X11_fill 77 [a0, a1, a2, some (.int x), a4] (.int x :: S) M := (rn_at k_X11_fill_76).trans rfl
theorem k_X11_fill_77 : lk 77 C_X11_fill = some (.invokevirtual 221, (150, 1, 11, 769)) := by decide +kernel
theorem s_X11_fill_77 {ca : Nat → List Value → tM → tO} {M : tM} {L : tL} {v1 : Value} {r0 : Int32} {r1 : Nat} {b : Nat} : rn ca C_X11_fill 77 L [v1, .ref b, .int r0, .ref r1] M = if clsO b = some 11 then rnk ca C_X11_fill 80 L [.int r0, .ref r1] (ca m_X11_from [.ref b, v1] M) else none := (rn_at k_X11_fill_77).trans rnx_ite
theorem k_X11_fill_80 : lk 80 C_X11_fill = some (.iload 4, (0, 0, 0, 0)) := by decide +kernel
theorem s_X11_fill_80 {ca : Nat → List Value → tM → tO} {M : tM} {a0 a1 a2 a3 : Option Value} {x : Int32} {S : List Value} : rn ca C_X11_fill 80 [a0, a1, a2, a3, some (.int x)] S M = rn ca C_X11_fill 82 [a0, a1, a2, a3, some (.int x)] (.int x :: S) M := (rn_at k_X11_fill_80).trans rfl
theorem k_X11_fill_82 : lk 82 C_X11_fill = some (.invokevirtual 210, (193, 3, 11, 777)) := by decide +kernel
theorem s_X11_fill_82 {ca : Nat → List Value → tM → tO} {M : tM} {L : tL} {v1 v2 v3 : Value} {b : Nat} : rn ca C_X11_fill 82 L [v3, v2, v1, .ref b] M = if clsO b = some 11 then rnk ca C_X11_fill 85 L [] (ca m_X11_nearer [.ref b, v1, v2, v3] M) else none := (rn_at k_X11_fill_82).trans rnx_ite
theorem k_X11_fill_85 : lk 85 C_X11_fill = some (.iinc 3 1, (0, 0, 0, 0)) := by decide +kernel
theorem s_X11_fill_85 {ca : Nat → List Value → tM → tO} {M : tM} {a0 a1 a2 a4 : Option Value} {x : Int32} {S : List Value} : rn ca C_X11_fill 85 [a0, a1, a2, some (.int x), a4] S M = rn ca C_X11_fill 88 [a0, a1, a2, some (.int (x + iI 1)), a4] S M := (rn_at k_X11_fill_85).trans rfl
theorem k_X11_fill_88 : lk 88 C_X11_fill = some (.goto (-82), (6, 0, 0, 0)) := by decide +kernel
theorem s_X11_fill_88 {ca : Nat → List Value → tM → tO} {M : tM} {L : tL} {S : List Value} : rn ca C_X11_fill 88 L S M = rn ca C_X11_fill 6 L S M := (rn_at k_X11_fill_88).trans rfl
theorem k_X11_fill_91 : lk 91 C_X11_fill = some (.aload_n 0, (0, 0, 0, 0)) := by decide +kernel
theorem s_X11_fill_91 {ca : Nat → List Value → tM → tO} {M : tM} {a1 a2 a3 a4 : Option Value} {x : Nat} {S : List Value} : rn ca C_X11_fill 91 [some (.ref x), a1, a2, a3, a4] S M = rn ca C_X11_fill 92 [some (.ref x), a1, a2, a3, a4] (.ref x :: S) M := (rn_at k_X11_fill_91).trans rfl
theorem k_X11_fill_92 : lk 92 C_X11_fill = some (.invokevirtual 227, (194, 0, 11, 782)) := by decide +kernel
theorem s_X11_fill_92 {ca : Nat → List Value → tM → tO} {M : tM} {L : tL} {b : Nat} : rn ca C_X11_fill 92 L [.ref b] M = if clsO b = some 11 then rnk ca C_X11_fill 95 L [] (ca m_X11_close [.ref b] M) else none := (rn_at k_X11_fill_92).trans rnx_ite
theorem k_X11_fill_95 : lk 95 C_X11_fill = some (.return_, (0, 0, 0, 0)) := by decide +kernel
theorem s_X11_fill_95 {ca : Nat → List Value → tM → tO} {M : tM} {L : tL} : rn ca C_X11_fill 95 L [] M = some (none, M) := (rn_at k_X11_fill_95).trans rfl
theorem k_X11_way_0 : lk 0 C_X11_way = some (.aload_n 0, (0, 0, 0, 0)) := by decide +kernel
theorem s_X11_way_0 {ca : Nat → List Value → tM → tO} {M : tM} {a1 a2 : Option Value} {x : Nat} {S : List Value} : rn ca C_X11_way 0 [some (.ref x), a1, a2] S M = rn ca C_X11_way 1 [some (.ref x), a1, a2] (.ref x :: S) M := (rn_at k_X11_way_0).trans rfl
theorem k_X11_way_1 : lk 1 C_X11_way = some (.getfield 64, (11, 14, 0, 158)) := by decide +kernel
theorem s_X11_way_1 {ca : Nat → List Value → tM → tO} {M : tM} {L : tL} {b : Nat} {S : List Value} : rn ca C_X11_way 1 L (.ref b :: S) M = if clsO b = some 11 then rn ca C_X11_way 4 L (fv M b 14 :: S) M else none := (rn_at k_X11_way_1).trans rnx_ite
theorem k_X11_way_4 : lk 4 C_X11_way = some (.bipush 8, (0, 0, 0, 0)) := by decide +kernel
theorem s_X11_way_4 {ca : Nat → List Value → tM → tO} {M : tM} {L : tL} {S : List Value} : rn ca C_X11_way 4 L S M = rn ca C_X11_way 6 L (.int (iI 8) :: S) M := (rn_at k_X11_way_4).trans rfl
theorem k_X11_way_6 : lk 6 C_X11_way = some (.aload_n 0, (0, 0, 0, 0)) := by decide +kernel
theorem s_X11_way_6 {ca : Nat → List Value → tM → tO} {M : tM} {a1 a2 : Option Value} {x : Nat} {S : List Value} : rn ca C_X11_way 6 [some (.ref x), a1, a2] S M = rn ca C_X11_way 7 [some (.ref x), a1, a2] (.ref x :: S) M := (rn_at k_X11_way_6).trans rfl
theorem k_X11_way_7 : lk 7 C_X11_way = some (.iload_n 1, (0, 0, 0, 0)) := by decide +kernel
theorem s_X11_way_7 {ca : Nat → List Value → tM → tO} {M : tM} {a0 a2 : Option Value} {x : Int32} {S : List Value} : rn ca C_X11_way 7 [a0, some (.int x), a2] S M = rn ca C_X11_way 8 [a0, some (.int x), a2] (.int x :: S) M := (rn_at k_X11_way_7).trans rfl
theorem k_X11_way_8 : lk 8 C_X11_way = some (.invokevirtual 137, (158, 1, 11, 331)) := by decide +kernel
theorem s_X11_way_8 {ca : Nat → List Value → tM → tO} {M : tM} {L : tL} {v1 : Value} {r0 : Int32} {r1 : Nat} {b : Nat} : rn ca C_X11_way 8 L [v1, .ref b, .int r0, .ref r1] M = if clsO b = some 11 then rnk ca C_X11_way 11 L [.int r0, .ref r1] (ca m_X11_at [.ref b, v1] M) else none := (rn_at k_X11_way_8).trans rnx_ite
theorem k_X11_way_11 : lk 11 C_X11_way = some (.imul, (0, 0, 0, 0)) := by decide +kernel
theorem s_X11_way_11 {ca : Nat → List Value → tM → tO} {M : tM} {L : tL} {x y : Int32} {S : List Value} : rn ca C_X11_way 11 L (.int y :: .int x :: S) M = rn ca C_X11_way 12 L (.int (x * y) :: S) M := (rn_at k_X11_way_11).trans rfl
theorem k_X11_way_12 : lk 12 C_X11_way = some (.iload_n 2, (0, 0, 0, 0)) := by decide +kernel
theorem s_X11_way_12 {ca : Nat → List Value → tM → tO} {M : tM} {a0 a1 : Option Value} {x : Int32} {S : List Value} : rn ca C_X11_way 12 [a0, a1, some (.int x)] S M = rn ca C_X11_way 13 [a0, a1, some (.int x)] (.int x :: S) M := (rn_at k_X11_way_12).trans rfl
theorem k_X11_way_13 : lk 13 C_X11_way = some (.iadd, (0, 0, 0, 0)) := by decide +kernel
theorem s_X11_way_13 {ca : Nat → List Value → tM → tO} {M : tM} {L : tL} {x y : Int32} {S : List Value} : rn ca C_X11_way 13 L (.int y :: .int x :: S) M = rn ca C_X11_way 14 L (.int (x + y) :: S) M := (rn_at k_X11_way_13).trans rfl
theorem k_X11_way_14 : lk 14 C_X11_way = some (.iaload, (0, 0, 0, 0)) := by decide +kernel
theorem s_X11_way_14 {ca : Nat → List Value → tM → tO} {M : tM} {L : tL} {a : Nat} {i : Int32} {S : List Value} : rn ca C_X11_way 14 L (.int i :: .ref a :: S) M = if (akind a = 0 ∨ akind a = 6 ∨ akind a = 7) ∧ inb i (alen M a) then rn ca C_X11_way 15 L (.int (M.1 a i.toInt.toNat) :: S) M else none := (rn_at k_X11_way_14).trans rnx_ite
theorem k_X11_way_15 : lk 15 C_X11_way = some (.ireturn, (0, 0, 0, 0)) := by decide +kernel
theorem s_X11_way_15 {ca : Nat → List Value → tM → tO} {M : tM} {L : tL} {x : Int32} : rn ca C_X11_way 15 L [.int x] M = some (some (.int x), M) := (rn_at k_X11_way_15).trans rfl
theorem k_X11_orNone_0 : lk 0 C_X11_orNone = some (.iload_n 0, (0, 0, 0, 0)) := by decide +kernel
theorem s_X11_orNone_0 {ca : Nat → List Value → tM → tO} {M : tM} {x : Int32} {S : List Value} : rn ca C_X11_orNone 0 [some (.int x)] S M = rn ca C_X11_orNone 1 [some (.int x)] (.int x :: S) M := (rn_at k_X11_orNone_0).trans rfl
theorem k_X11_orNone_1 : lk 1 C_X11_orNone = some (.sipush 9999, (0, 0, 0, 0)) := by decide +kernel
theorem s_X11_orNone_1 {ca : Nat → List Value → tM → tO} {M : tM} {L : tL} {S : List Value} : rn ca C_X11_orNone 1 L S M = rn ca C_X11_orNone 4 L (.int (iI 9999) :: S) M := (rn_at k_X11_orNone_1).trans rfl
theorem k_X11_orNone_4 : lk 4 C_X11_orNone = some (.if_icmp .lt 7, (11, 0, 0, 0)) := by decide +kernel
theorem s_X11_orNone_4 {ca : Nat → List Value → tM → tO} {M : tM} {L : tL} {x y : Int32} {S : List Value} : rn ca C_X11_orNone 4 L (.int y :: .int x :: S) M = if x < y then rn ca C_X11_orNone 11 L S M else rn ca C_X11_orNone 7 L S M := (rn_at k_X11_orNone_4).trans rnx_ite
theorem k_X11_orNone_7 : lk 7 C_X11_orNone = some (.iconst (-1), (0, 0, 0, 0)) := by decide +kernel
theorem s_X11_orNone_7 {ca : Nat → List Value → tM → tO} {M : tM} {L : tL} {S : List Value} : rn ca C_X11_orNone 7 L S M = rn ca C_X11_orNone 8 L (.int (iI (-1)) :: S) M := (rn_at k_X11_orNone_7).trans rfl
theorem k_X11_orNone_8 : lk 8 C_X11_orNone = some (.goto 4, (12, 0, 0, 0)) := by decide +kernel
theorem s_X11_orNone_8 {ca : Nat → List Value → tM → tO} {M : tM} {L : tL} {S : List Value} : rn ca C_X11_orNone 8 L S M = rn ca C_X11_orNone 12 L S M := (rn_at k_X11_orNone_8).trans rfl
theorem k_X11_orNone_11 : lk 11 C_X11_orNone = some (.iload_n 0, (0, 0, 0, 0)) := by decide +kernel
theorem s_X11_orNone_11 {ca : Nat → List Value → tM → tO} {M : tM} {x : Int32} {S : List Value} : rn ca C_X11_orNone 11 [some (.int x)] S M = rn ca C_X11_orNone 12 [some (.int x)] (.int x :: S) M := (rn_at k_X11_orNone_11).trans rfl
theorem k_X11_orNone_12 : lk 12 C_X11_orNone = some (.ireturn, (0, 0, 0, 0)) := by decide +kernel
theorem s_X11_orNone_12 {ca : Nat → List Value → tM → tO} {M : tM} {L : tL} {x : Int32} : rn ca C_X11_orNone 12 L [.int x] M = some (some (.int x), M) := (rn_at k_X11_orNone_12).trans rfl
theorem k_X11_first_0 : lk 0 C_X11_first = some (.iconst (-1), (0, 0, 0, 0)) := by decide +kernel
theorem s_X11_first_0 {ca : Nat → List Value → tM → tO} {M : tM} {L : tL} {S : List Value} : rn ca C_X11_first 0 L S M = rn ca C_X11_first 1 L (.int (iI (-1)) :: S) M := (rn_at k_X11_first_0).trans rfl
theorem k_X11_first_1 : lk 1 C_X11_first = some (.istore_n 3, (0, 0, 0, 0)) := by decide +kernel
theorem s_X11_first_1 {ca : Nat → List Value → tM → tO} {M : tM} {a0 a1 a2 a3 a4 a5 a6 a7 : Option Value} {x : Int32} {S : List Value} : rn ca C_X11_first 1 [a0, a1, a2, a3, a4, a5, a6, a7] (.int x :: S) M = rn ca C_X11_first 2 [a0, a1, a2, some (.int x), a4, a5, a6, a7] S M := (rn_at k_X11_first_1).trans rfl
theorem k_X11_first_2 : lk 2 C_X11_first = some (.aload_n 0, (0, 0, 0, 0)) := by decide +kernel
theorem s_X11_first_2 {ca : Nat → List Value → tM → tO} {M : tM} {a1 a2 a3 a4 a5 a6 a7 : Option Value} {x : Nat} {S : List Value} : rn ca C_X11_first 2 [some (.ref x), a1, a2, a3, a4, a5, a6, a7] S M = rn ca C_X11_first 3 [some (.ref x), a1, a2, a3, a4, a5, a6, a7] (.ref x :: S) M := (rn_at k_X11_first_2).trans rfl
theorem k_X11_first_3 : lk 3 C_X11_first = some (.getfield 17, (11, 1, 0, 147)) := by decide +kernel
theorem s_X11_first_3 {ca : Nat → List Value → tM → tO} {M : tM} {L : tL} {b : Nat} {S : List Value} : rn ca C_X11_first 3 L (.ref b :: S) M = if clsO b = some 11 then rn ca C_X11_first 6 L (fv M b 1 :: S) M else none := (rn_at k_X11_first_3).trans rnx_ite
theorem k_X11_first_6 : lk 6 C_X11_first = some (.bipush 109, (0, 0, 0, 0)) := by decide +kernel
theorem s_X11_first_6 {ca : Nat → List Value → tM → tO} {M : tM} {L : tL} {S : List Value} : rn ca C_X11_first 6 L S M = rn ca C_X11_first 8 L (.int (iI 109) :: S) M := (rn_at k_X11_first_6).trans rfl
theorem k_X11_first_8 : lk 8 C_X11_first = some (.iaload, (0, 0, 0, 0)) := by decide +kernel
theorem s_X11_first_8 {ca : Nat → List Value → tM → tO} {M : tM} {L : tL} {a : Nat} {i : Int32} {S : List Value} : rn ca C_X11_first 8 L (.int i :: .ref a :: S) M = if (akind a = 0 ∨ akind a = 6 ∨ akind a = 7) ∧ inb i (alen M a) then rn ca C_X11_first 9 L (.int (M.1 a i.toInt.toNat) :: S) M else none := (rn_at k_X11_first_8).trans rnx_ite
theorem k_X11_first_9 : lk 9 C_X11_first = some (.iconst 1, (0, 0, 0, 0)) := by decide +kernel
theorem s_X11_first_9 {ca : Nat → List Value → tM → tO} {M : tM} {L : tL} {S : List Value} : rn ca C_X11_first 9 L S M = rn ca C_X11_first 10 L (.int (iI 1) :: S) M := (rn_at k_X11_first_9).trans rfl
theorem k_X11_first_10 : lk 10 C_X11_first = some (.isub, (0, 0, 0, 0)) := by decide +kernel
theorem s_X11_first_10 {ca : Nat → List Value → tM → tO} {M : tM} {L : tL} {x y : Int32} {S : List Value} : rn ca C_X11_first 10 L (.int y :: .int x :: S) M = rn ca C_X11_first 11 L (.int (x - y) :: S) M := (rn_at k_X11_first_10).trans rfl
theorem k_X11_first_11 : lk 11 C_X11_first = some (.istore 4, (0, 0, 0, 0)) := by decide +kernel
theorem s_X11_first_11 {ca : Nat → List Value → tM → tO} {M : tM} {a0 a1 a2 a3 a4 a5 a6 a7 : Option Value} {x : Int32} {S : List Value} : rn ca C_X11_first 11 [a0, a1, a2, a3, a4, a5, a6, a7] (.int x :: S) M = rn ca C_X11_first 13 [a0, a1, a2, a3, some (.int x), a5, a6, a7] S M := (rn_at k_X11_first_11).trans rfl
theorem k_X11_first_13 : lk 13 C_X11_first = some (.iload 4, (0, 0, 0, 0)) := by decide +kernel
theorem s_X11_first_13 {ca : Nat → List Value → tM → tO} {M : tM} {a0 a1 a2 a3 a5 a6 a7 : Option Value} {x : Int32} {S : List Value} : rn ca C_X11_first 13 [a0, a1, a2, a3, some (.int x), a5, a6, a7] S M = rn ca C_X11_first 15 [a0, a1, a2, a3, some (.int x), a5, a6, a7] (.int x :: S) M := (rn_at k_X11_first_13).trans rfl
theorem k_X11_first_15 : lk 15 C_X11_first = some (.ifCond .lt 155, (170, 0, 0, 0)) := by decide +kernel
theorem s_X11_first_15 {ca : Nat → List Value → tM → tO} {M : tM} {L : tL} {x : Int32} {S : List Value} : rn ca C_X11_first 15 L (.int x :: S) M = if x < iI 0 then rn ca C_X11_first 170 L S M else rn ca C_X11_first 18 L S M := (rn_at k_X11_first_15).trans rnx_ite
theorem k_X11_first_18 : lk 18 C_X11_first = some (.aload_n 0, (0, 0, 0, 0)) := by decide +kernel
theorem s_X11_first_18 {ca : Nat → List Value → tM → tO} {M : tM} {a1 a2 a3 a4 a5 a6 a7 : Option Value} {x : Nat} {S : List Value} : rn ca C_X11_first 18 [some (.ref x), a1, a2, a3, a4, a5, a6, a7] S M = rn ca C_X11_first 19 [some (.ref x), a1, a2, a3, a4, a5, a6, a7] (.ref x :: S) M := (rn_at k_X11_first_18).trans rfl
theorem k_X11_first_19 : lk 19 C_X11_first = some (.iload_n 1, (0, 0, 0, 0)) := by decide +kernel
theorem s_X11_first_19 {ca : Nat → List Value → tM → tO} {M : tM} {a0 a2 a3 a4 a5 a6 a7 : Option Value} {x : Int32} {S : List Value} : rn ca C_X11_first 19 [a0, some (.int x), a2, a3, a4, a5, a6, a7] S M = rn ca C_X11_first 20 [a0, some (.int x), a2, a3, a4, a5, a6, a7] (.int x :: S) M := (rn_at k_X11_first_19).trans rfl
theorem k_X11_first_20 : lk 20 C_X11_first = some (.iload 4, (0, 0, 0, 0)) := by decide +kernel
theorem s_X11_first_20 {ca : Nat → List Value → tM → tO} {M : tM} {a0 a1 a2 a3 a5 a6 a7 : Option Value} {x : Int32} {S : List Value} : rn ca C_X11_first 20 [a0, a1, a2, a3, some (.int x), a5, a6, a7] S M = rn ca C_X11_first 22 [a0, a1, a2, a3, some (.int x), a5, a6, a7] (.int x :: S) M := (rn_at k_X11_first_20).trans rfl
theorem k_X11_first_22 : lk 22 C_X11_first = some (.invokevirtual 204, (190, 2, 11, 678)) := by decide +kernel
theorem s_X11_first_22 {ca : Nat → List Value → tM → tO} {M : tM} {L : tL} {v1 v2 : Value} {b : Nat} : rn ca C_X11_first 22 L [v2, v1, .ref b] M = if clsO b = some 11 then rnk ca C_X11_first 25 L [] (ca m_X11_timeOf [.ref b, v1, v2] M) else none := (rn_at k_X11_first_22).trans rnx_ite
theorem k_X11_first_25 : lk 25 C_X11_first = some (.istore 5, (0, 0, 0, 0)) := by decide +kernel
theorem s_X11_first_25 {ca : Nat → List Value → tM → tO} {M : tM} {a0 a1 a2 a3 a4 a5 a6 a7 : Option Value} {x : Int32} {S : List Value} : rn ca C_X11_first 25 [a0, a1, a2, a3, a4, a5, a6, a7] (.int x :: S) M = rn ca C_X11_first 27 [a0, a1, a2, a3, a4, some (.int x), a6, a7] S M := (rn_at k_X11_first_25).trans rfl
theorem k_X11_first_27 : lk 27 C_X11_first = some (.aload_n 0, (0, 0, 0, 0)) := by decide +kernel
theorem s_X11_first_27 {ca : Nat → List Value → tM → tO} {M : tM} {a1 a2 a3 a4 a5 a6 a7 : Option Value} {x : Nat} {S : List Value} : rn ca C_X11_first 27 [some (.ref x), a1, a2, a3, a4, a5, a6, a7] S M = rn ca C_X11_first 28 [some (.ref x), a1, a2, a3, a4, a5, a6, a7] (.ref x :: S) M := (rn_at k_X11_first_27).trans rfl
theorem k_X11_first_28 : lk 28 C_X11_first = some (.iload_n 1, (0, 0, 0, 0)) := by decide +kernel
theorem s_X11_first_28 {ca : Nat → List Value → tM → tO} {M : tM} {a0 a2 a3 a4 a5 a6 a7 : Option Value} {x : Int32} {S : List Value} : rn ca C_X11_first 28 [a0, some (.int x), a2, a3, a4, a5, a6, a7] S M = rn ca C_X11_first 29 [a0, some (.int x), a2, a3, a4, a5, a6, a7] (.int x :: S) M := (rn_at k_X11_first_28).trans rfl
theorem k_X11_first_29 : lk 29 C_X11_first = some (.iload 4, (0, 0, 0, 0)) := by decide +kernel
theorem s_X11_first_29 {ca : Nat → List Value → tM → tO} {M : tM} {a0 a1 a2 a3 a5 a6 a7 : Option Value} {x : Int32} {S : List Value} : rn ca C_X11_first 29 [a0, a1, a2, a3, some (.int x), a5, a6, a7] S M = rn ca C_X11_first 31 [a0, a1, a2, a3, some (.int x), a5, a6, a7] (.int x :: S) M := (rn_at k_X11_first_29).trans rfl
theorem k_X11_first_31 : lk 31 C_X11_first = some (.iconst 0, (0, 0, 0, 0)) := by decide +kernel
theorem s_X11_first_31 {ca : Nat → List Value → tM → tO} {M : tM} {L : tL} {S : List Value} : rn ca C_X11_first 31 L S M = rn ca C_X11_first 32 L (.int (iI 0) :: S) M := (rn_at k_X11_first_31).trans rfl
theorem k_X11_first_32 : lk 32 C_X11_first = some (.invokevirtual 217, (189, 3, 11, 761)) := by decide +kernel
theorem s_X11_first_32 {ca : Nat → List Value → tM → tO} {M : tM} {L : tL} {v1 v2 v3 : Value} {b : Nat} : rn ca C_X11_first 32 L [v3, v2, v1, .ref b] M = if clsO b = some 11 then rnk ca C_X11_first 35 L [] (ca m_X11_may [.ref b, v1, v2, v3] M) else none := (rn_at k_X11_first_32).trans rnx_ite
theorem k_X11_first_35 : lk 35 C_X11_first = some (.ifCond .eq 49, (84, 0, 0, 0)) := by decide +kernel
theorem s_X11_first_35 {ca : Nat → List Value → tM → tO} {M : tM} {L : tL} {x : Int32} {S : List Value} : rn ca C_X11_first 35 L (.int x :: S) M = if x = iI 0 then rn ca C_X11_first 84 L S M else rn ca C_X11_first 38 L S M := (rn_at k_X11_first_35).trans rnx_ite
theorem k_X11_first_38 : lk 38 C_X11_first = some (.aload_n 0, (0, 0, 0, 0)) := by decide +kernel
theorem s_X11_first_38 {ca : Nat → List Value → tM → tO} {M : tM} {a1 a2 a3 a4 a5 a6 a7 : Option Value} {x : Nat} {S : List Value} : rn ca C_X11_first 38 [some (.ref x), a1, a2, a3, a4, a5, a6, a7] S M = rn ca C_X11_first 39 [some (.ref x), a1, a2, a3, a4, a5, a6, a7] (.ref x :: S) M := (rn_at k_X11_first_38).trans rfl
theorem k_X11_first_39 : lk 39 C_X11_first = some (.iload 4, (0, 0, 0, 0)) := by decide +kernel
theorem s_X11_first_39 {ca : Nat → List Value → tM → tO} {M : tM} {a0 a1 a2 a3 a5 a6 a7 : Option Value} {x : Int32} {S : List Value} : rn ca C_X11_first 39 [a0, a1, a2, a3, some (.int x), a5, a6, a7] S M = rn ca C_X11_first 41 [a0, a1, a2, a3, some (.int x), a5, a6, a7] (.int x :: S) M := (rn_at k_X11_first_39).trans rfl
theorem k_X11_first_41 : lk 41 C_X11_first = some (.invokevirtual 221, (150, 1, 11, 769)) := by decide +kernel
theorem s_X11_first_41 {ca : Nat → List Value → tM → tO} {M : tM} {L : tL} {v1 : Value} {b : Nat} : rn ca C_X11_first 41 L [v1, .ref b] M = if clsO b = some 11 then rnk ca C_X11_first 44 L [] (ca m_X11_from [.ref b, v1] M) else none := (rn_at k_X11_first_41).trans rnx_ite
theorem k_X11_first_44 : lk 44 C_X11_first = some (.aload_n 0, (0, 0, 0, 0)) := by decide +kernel
theorem s_X11_first_44 {ca : Nat → List Value → tM → tO} {M : tM} {a1 a2 a3 a4 a5 a6 a7 : Option Value} {x : Nat} {S : List Value} : rn ca C_X11_first 44 [some (.ref x), a1, a2, a3, a4, a5, a6, a7] S M = rn ca C_X11_first 45 [some (.ref x), a1, a2, a3, a4, a5, a6, a7] (.ref x :: S) M := (rn_at k_X11_first_44).trans rfl
theorem k_X11_first_45 : lk 45 C_X11_first = some (.iload_n 1, (0, 0, 0, 0)) := by decide +kernel
theorem s_X11_first_45 {ca : Nat → List Value → tM → tO} {M : tM} {a0 a2 a3 a4 a5 a6 a7 : Option Value} {x : Int32} {S : List Value} : rn ca C_X11_first 45 [a0, some (.int x), a2, a3, a4, a5, a6, a7] S M = rn ca C_X11_first 46 [a0, some (.int x), a2, a3, a4, a5, a6, a7] (.int x :: S) M := (rn_at k_X11_first_45).trans rfl
theorem k_X11_first_46 : lk 46 C_X11_first = some (.invokevirtual 137, (158, 1, 11, 331)) := by decide +kernel
theorem s_X11_first_46 {ca : Nat → List Value → tM → tO} {M : tM} {L : tL} {v1 : Value} {r0 : Int32} {b : Nat} : rn ca C_X11_first 46 L [v1, .ref b, .int r0] M = if clsO b = some 11 then rnk ca C_X11_first 49 L [.int r0] (ca m_X11_at [.ref b, v1] M) else none := (rn_at k_X11_first_46).trans rnx_ite
theorem k_X11_first_49 : lk 49 C_X11_first = some (.if_icmp .ne 35, (84, 0, 0, 0)) := by decide +kernel
theorem s_X11_first_49 {ca : Nat → List Value → tM → tO} {M : tM} {L : tL} {x y : Int32} {S : List Value} : rn ca C_X11_first 49 L (.int y :: .int x :: S) M = if ¬ x = y then rn ca C_X11_first 84 L S M else rn ca C_X11_first 52 L S M := (rn_at k_X11_first_49).trans rnx_ite
theorem k_X11_first_52 : lk 52 C_X11_first = some (.iload 5, (0, 0, 0, 0)) := by decide +kernel
theorem s_X11_first_52 {ca : Nat → List Value → tM → tO} {M : tM} {a0 a1 a2 a3 a4 a6 a7 : Option Value} {x : Int32} {S : List Value} : rn ca C_X11_first 52 [a0, a1, a2, a3, a4, some (.int x), a6, a7] S M = rn ca C_X11_first 54 [a0, a1, a2, a3, a4, some (.int x), a6, a7] (.int x :: S) M := (rn_at k_X11_first_52).trans rfl
theorem k_X11_first_54 : lk 54 C_X11_first = some (.aload_n 0, (0, 0, 0, 0)) := by decide +kernel
theorem s_X11_first_54 {ca : Nat → List Value → tM → tO} {M : tM} {a1 a2 a3 a4 a5 a6 a7 : Option Value} {x : Nat} {S : List Value} : rn ca C_X11_first 54 [some (.ref x), a1, a2, a3, a4, a5, a6, a7] S M = rn ca C_X11_first 55 [some (.ref x), a1, a2, a3, a4, a5, a6, a7] (.ref x :: S) M := (rn_at k_X11_first_54).trans rfl
theorem k_X11_first_55 : lk 55 C_X11_first = some (.getfield 64, (11, 14, 0, 158)) := by decide +kernel
theorem s_X11_first_55 {ca : Nat → List Value → tM → tO} {M : tM} {L : tL} {b : Nat} {S : List Value} : rn ca C_X11_first 55 L (.ref b :: S) M = if clsO b = some 11 then rn ca C_X11_first 58 L (fv M b 14 :: S) M else none := (rn_at k_X11_first_55).trans rnx_ite
theorem k_X11_first_58 : lk 58 C_X11_first = some (.bipush 8, (0, 0, 0, 0)) := by decide +kernel
theorem s_X11_first_58 {ca : Nat → List Value → tM → tO} {M : tM} {L : tL} {S : List Value} : rn ca C_X11_first 58 L S M = rn ca C_X11_first 60 L (.int (iI 8) :: S) M := (rn_at k_X11_first_58).trans rfl
theorem k_X11_first_60 : lk 60 C_X11_first = some (.aload_n 0, (0, 0, 0, 0)) := by decide +kernel
theorem s_X11_first_60 {ca : Nat → List Value → tM → tO} {M : tM} {a1 a2 a3 a4 a5 a6 a7 : Option Value} {x : Nat} {S : List Value} : rn ca C_X11_first 60 [some (.ref x), a1, a2, a3, a4, a5, a6, a7] S M = rn ca C_X11_first 61 [some (.ref x), a1, a2, a3, a4, a5, a6, a7] (.ref x :: S) M := (rn_at k_X11_first_60).trans rfl
theorem k_X11_first_61 : lk 61 C_X11_first = some (.iload 4, (0, 0, 0, 0)) := by decide +kernel
theorem s_X11_first_61 {ca : Nat → List Value → tM → tO} {M : tM} {a0 a1 a2 a3 a5 a6 a7 : Option Value} {x : Int32} {S : List Value} : rn ca C_X11_first 61 [a0, a1, a2, a3, some (.int x), a5, a6, a7] S M = rn ca C_X11_first 63 [a0, a1, a2, a3, some (.int x), a5, a6, a7] (.int x :: S) M := (rn_at k_X11_first_61).trans rfl
theorem k_X11_first_63 : lk 63 C_X11_first = some (.invokevirtual 224, (151, 1, 11, 773)) := by decide +kernel
theorem s_X11_first_63 {ca : Nat → List Value → tM → tO} {M : tM} {L : tL} {v1 : Value} {r0 : Int32} {r1 : Nat} {r2 : Int32} {b : Nat} : rn ca C_X11_first 63 L [v1, .ref b, .int r0, .ref r1, .int r2] M = if clsO b = some 11 then rnk ca C_X11_first 66 L [.int r0, .ref r1, .int r2] (ca m_X11_to [.ref b, v1] M) else none := (rn_at k_X11_first_63).trans rnx_ite
theorem k_X11_first_66 : lk 66 C_X11_first = some (.imul, (0, 0, 0, 0)) := by decide +kernel
theorem s_X11_first_66 {ca : Nat → List Value → tM → tO} {M : tM} {L : tL} {x y : Int32} {S : List Value} : rn ca C_X11_first 66 L (.int y :: .int x :: S) M = rn ca C_X11_first 67 L (.int (x * y) :: S) M := (rn_at k_X11_first_66).trans rfl
theorem k_X11_first_67 : lk 67 C_X11_first = some (.iload_n 2, (0, 0, 0, 0)) := by decide +kernel
theorem s_X11_first_67 {ca : Nat → List Value → tM → tO} {M : tM} {a0 a1 a3 a4 a5 a6 a7 : Option Value} {x : Int32} {S : List Value} : rn ca C_X11_first 67 [a0, a1, some (.int x), a3, a4, a5, a6, a7] S M = rn ca C_X11_first 68 [a0, a1, some (.int x), a3, a4, a5, a6, a7] (.int x :: S) M := (rn_at k_X11_first_67).trans rfl
theorem k_X11_first_68 : lk 68 C_X11_first = some (.iadd, (0, 0, 0, 0)) := by decide +kernel
theorem s_X11_first_68 {ca : Nat → List Value → tM → tO} {M : tM} {L : tL} {x y : Int32} {S : List Value} : rn ca C_X11_first 68 L (.int y :: .int x :: S) M = rn ca C_X11_first 69 L (.int (x + y) :: S) M := (rn_at k_X11_first_68).trans rfl
theorem k_X11_first_69 : lk 69 C_X11_first = some (.iaload, (0, 0, 0, 0)) := by decide +kernel
theorem s_X11_first_69 {ca : Nat → List Value → tM → tO} {M : tM} {L : tL} {a : Nat} {i : Int32} {S : List Value} : rn ca C_X11_first 69 L (.int i :: .ref a :: S) M = if (akind a = 0 ∨ akind a = 6 ∨ akind a = 7) ∧ inb i (alen M a) then rn ca C_X11_first 70 L (.int (M.1 a i.toInt.toNat) :: S) M else none := (rn_at k_X11_first_69).trans rnx_ite
theorem k_X11_first_70 : lk 70 C_X11_first = some (.iadd, (0, 0, 0, 0)) := by decide +kernel
theorem s_X11_first_70 {ca : Nat → List Value → tM → tO} {M : tM} {L : tL} {x y : Int32} {S : List Value} : rn ca C_X11_first 70 L (.int y :: .int x :: S) M = rn ca C_X11_first 71 L (.int (x + y) :: S) M := (rn_at k_X11_first_70).trans rfl
theorem k_X11_first_71 : lk 71 C_X11_first = some (.aload_n 0, (0, 0, 0, 0)) := by decide +kernel
theorem s_X11_first_71 {ca : Nat → List Value → tM → tO} {M : tM} {a1 a2 a3 a4 a5 a6 a7 : Option Value} {x : Nat} {S : List Value} : rn ca C_X11_first 71 [some (.ref x), a1, a2, a3, a4, a5, a6, a7] S M = rn ca C_X11_first 72 [some (.ref x), a1, a2, a3, a4, a5, a6, a7] (.ref x :: S) M := (rn_at k_X11_first_71).trans rfl
theorem k_X11_first_72 : lk 72 C_X11_first = some (.iload_n 1, (0, 0, 0, 0)) := by decide +kernel
theorem s_X11_first_72 {ca : Nat → List Value → tM → tO} {M : tM} {a0 a2 a3 a4 a5 a6 a7 : Option Value} {x : Int32} {S : List Value} : rn ca C_X11_first 72 [a0, some (.int x), a2, a3, a4, a5, a6, a7] S M = rn ca C_X11_first 73 [a0, some (.int x), a2, a3, a4, a5, a6, a7] (.int x :: S) M := (rn_at k_X11_first_72).trans rfl
theorem k_X11_first_73 : lk 73 C_X11_first = some (.iload_n 2, (0, 0, 0, 0)) := by decide +kernel
theorem s_X11_first_73 {ca : Nat → List Value → tM → tO} {M : tM} {a0 a1 a3 a4 a5 a6 a7 : Option Value} {x : Int32} {S : List Value} : rn ca C_X11_first 73 [a0, a1, some (.int x), a3, a4, a5, a6, a7] S M = rn ca C_X11_first 74 [a0, a1, some (.int x), a3, a4, a5, a6, a7] (.int x :: S) M := (rn_at k_X11_first_73).trans rfl
theorem k_X11_first_74 : lk 74 C_X11_first = some (.invokevirtual 230, (196, 2, 11, 790)) := by decide +kernel
theorem s_X11_first_74 {ca : Nat → List Value → tM → tO} {M : tM} {L : tL} {v1 v2 : Value} {r0 : Int32} {b : Nat} : rn ca C_X11_first 74 L [v2, v1, .ref b, .int r0] M = if clsO b = some 11 then rnk ca C_X11_first 77 L [.int r0] (ca m_X11_way [.ref b, v1, v2] M) else none := (rn_at k_X11_first_74).trans rnx_ite
theorem k_X11_first_77 : lk 77 C_X11_first = some (.if_icmp .ne 7, (84, 0, 0, 0)) := by decide +kernel
theorem s_X11_first_77 {ca : Nat → List Value → tM → tO} {M : tM} {L : tL} {x y : Int32} {S : List Value} : rn ca C_X11_first 77 L (.int y :: .int x :: S) M = if ¬ x = y then rn ca C_X11_first 84 L S M else rn ca C_X11_first 80 L S M := (rn_at k_X11_first_77).trans rnx_ite
theorem k_X11_first_80 : lk 80 C_X11_first = some (.iconst 1, (0, 0, 0, 0)) := by decide +kernel
theorem s_X11_first_80 {ca : Nat → List Value → tM → tO} {M : tM} {L : tL} {S : List Value} : rn ca C_X11_first 80 L S M = rn ca C_X11_first 81 L (.int (iI 1) :: S) M := (rn_at k_X11_first_80).trans rfl
theorem k_X11_first_81 : lk 81 C_X11_first = some (.goto 4, (85, 0, 0, 0)) := by decide +kernel
theorem s_X11_first_81 {ca : Nat → List Value → tM → tO} {M : tM} {L : tL} {S : List Value} : rn ca C_X11_first 81 L S M = rn ca C_X11_first 85 L S M := (rn_at k_X11_first_81).trans rfl
theorem k_X11_first_84 : lk 84 C_X11_first = some (.iconst 0, (0, 0, 0, 0)) := by decide +kernel
theorem s_X11_first_84 {ca : Nat → List Value → tM → tO} {M : tM} {L : tL} {S : List Value} : rn ca C_X11_first 84 L S M = rn ca C_X11_first 85 L (.int (iI 0) :: S) M := (rn_at k_X11_first_84).trans rfl
theorem k_X11_first_85 : lk 85 C_X11_first = some (.istore 6, (0, 0, 0, 0)) := by decide +kernel
theorem s_X11_first_85 {ca : Nat → List Value → tM → tO} {M : tM} {a0 a1 a2 a3 a4 a5 a6 a7 : Option Value} {x : Int32} {S : List Value} : rn ca C_X11_first 85 [a0, a1, a2, a3, a4, a5, a6, a7] (.int x :: S) M = rn ca C_X11_first 87 [a0, a1, a2, a3, a4, a5, some (.int x), a7] S M := (rn_at k_X11_first_85).trans rfl
theorem k_X11_first_87 : lk 87 C_X11_first = some (.aload_n 0, (0, 0, 0, 0)) := by decide +kernel
theorem s_X11_first_87 {ca : Nat → List Value → tM → tO} {M : tM} {a1 a2 a3 a4 a5 a6 a7 : Option Value} {x : Nat} {S : List Value} : rn ca C_X11_first 87 [some (.ref x), a1, a2, a3, a4, a5, a6, a7] S M = rn ca C_X11_first 88 [some (.ref x), a1, a2, a3, a4, a5, a6, a7] (.ref x :: S) M := (rn_at k_X11_first_87).trans rfl
theorem k_X11_first_88 : lk 88 C_X11_first = some (.iload_n 1, (0, 0, 0, 0)) := by decide +kernel
theorem s_X11_first_88 {ca : Nat → List Value → tM → tO} {M : tM} {a0 a2 a3 a4 a5 a6 a7 : Option Value} {x : Int32} {S : List Value} : rn ca C_X11_first 88 [a0, some (.int x), a2, a3, a4, a5, a6, a7] S M = rn ca C_X11_first 89 [a0, some (.int x), a2, a3, a4, a5, a6, a7] (.int x :: S) M := (rn_at k_X11_first_88).trans rfl
theorem k_X11_first_89 : lk 89 C_X11_first = some (.iload 4, (0, 0, 0, 0)) := by decide +kernel
theorem s_X11_first_89 {ca : Nat → List Value → tM → tO} {M : tM} {a0 a1 a2 a3 a5 a6 a7 : Option Value} {x : Int32} {S : List Value} : rn ca C_X11_first 89 [a0, a1, a2, a3, some (.int x), a5, a6, a7] S M = rn ca C_X11_first 91 [a0, a1, a2, a3, some (.int x), a5, a6, a7] (.int x :: S) M := (rn_at k_X11_first_89).trans rfl
theorem k_X11_first_91 : lk 91 C_X11_first = some (.iconst 1, (0, 0, 0, 0)) := by decide +kernel
theorem s_X11_first_91 {ca : Nat → List Value → tM → tO} {M : tM} {L : tL} {S : List Value} : rn ca C_X11_first 91 L S M = rn ca C_X11_first 92 L (.int (iI 1) :: S) M := (rn_at k_X11_first_91).trans rfl
theorem k_X11_first_92 : lk 92 C_X11_first = some (.invokevirtual 217, (189, 3, 11, 761)) := by decide +kernel
theorem s_X11_first_92 {ca : Nat → List Value → tM → tO} {M : tM} {L : tL} {v1 v2 v3 : Value} {b : Nat} : rn ca C_X11_first 92 L [v3, v2, v1, .ref b] M = if clsO b = some 11 then rnk ca C_X11_first 95 L [] (ca m_X11_may [.ref b, v1, v2, v3] M) else none := (rn_at k_X11_first_92).trans rnx_ite
theorem k_X11_first_95 : lk 95 C_X11_first = some (.ifCond .eq 49, (144, 0, 0, 0)) := by decide +kernel
theorem s_X11_first_95 {ca : Nat → List Value → tM → tO} {M : tM} {L : tL} {x : Int32} {S : List Value} : rn ca C_X11_first 95 L (.int x :: S) M = if x = iI 0 then rn ca C_X11_first 144 L S M else rn ca C_X11_first 98 L S M := (rn_at k_X11_first_95).trans rnx_ite
theorem k_X11_first_98 : lk 98 C_X11_first = some (.aload_n 0, (0, 0, 0, 0)) := by decide +kernel
theorem s_X11_first_98 {ca : Nat → List Value → tM → tO} {M : tM} {a1 a2 a3 a4 a5 a6 a7 : Option Value} {x : Nat} {S : List Value} : rn ca C_X11_first 98 [some (.ref x), a1, a2, a3, a4, a5, a6, a7] S M = rn ca C_X11_first 99 [some (.ref x), a1, a2, a3, a4, a5, a6, a7] (.ref x :: S) M := (rn_at k_X11_first_98).trans rfl
theorem k_X11_first_99 : lk 99 C_X11_first = some (.iload 4, (0, 0, 0, 0)) := by decide +kernel
theorem s_X11_first_99 {ca : Nat → List Value → tM → tO} {M : tM} {a0 a1 a2 a3 a5 a6 a7 : Option Value} {x : Int32} {S : List Value} : rn ca C_X11_first 99 [a0, a1, a2, a3, some (.int x), a5, a6, a7] S M = rn ca C_X11_first 101 [a0, a1, a2, a3, some (.int x), a5, a6, a7] (.int x :: S) M := (rn_at k_X11_first_99).trans rfl
theorem k_X11_first_101 : lk 101 C_X11_first = some (.invokevirtual 224, (151, 1, 11, 773)) := by decide +kernel
theorem s_X11_first_101 {ca : Nat → List Value → tM → tO} {M : tM} {L : tL} {v1 : Value} {b : Nat} : rn ca C_X11_first 101 L [v1, .ref b] M = if clsO b = some 11 then rnk ca C_X11_first 104 L [] (ca m_X11_to [.ref b, v1] M) else none := (rn_at k_X11_first_101).trans rnx_ite
theorem k_X11_first_104 : lk 104 C_X11_first = some (.aload_n 0, (0, 0, 0, 0)) := by decide +kernel
theorem s_X11_first_104 {ca : Nat → List Value → tM → tO} {M : tM} {a1 a2 a3 a4 a5 a6 a7 : Option Value} {x : Nat} {S : List Value} : rn ca C_X11_first 104 [some (.ref x), a1, a2, a3, a4, a5, a6, a7] S M = rn ca C_X11_first 105 [some (.ref x), a1, a2, a3, a4, a5, a6, a7] (.ref x :: S) M := (rn_at k_X11_first_104).trans rfl
theorem k_X11_first_105 : lk 105 C_X11_first = some (.iload_n 1, (0, 0, 0, 0)) := by decide +kernel
theorem s_X11_first_105 {ca : Nat → List Value → tM → tO} {M : tM} {a0 a2 a3 a4 a5 a6 a7 : Option Value} {x : Int32} {S : List Value} : rn ca C_X11_first 105 [a0, some (.int x), a2, a3, a4, a5, a6, a7] S M = rn ca C_X11_first 106 [a0, some (.int x), a2, a3, a4, a5, a6, a7] (.int x :: S) M := (rn_at k_X11_first_105).trans rfl
theorem k_X11_first_106 : lk 106 C_X11_first = some (.invokevirtual 137, (158, 1, 11, 331)) := by decide +kernel
theorem s_X11_first_106 {ca : Nat → List Value → tM → tO} {M : tM} {L : tL} {v1 : Value} {r0 : Int32} {b : Nat} : rn ca C_X11_first 106 L [v1, .ref b, .int r0] M = if clsO b = some 11 then rnk ca C_X11_first 109 L [.int r0] (ca m_X11_at [.ref b, v1] M) else none := (rn_at k_X11_first_106).trans rnx_ite
theorem k_X11_first_109 : lk 109 C_X11_first = some (.if_icmp .ne 35, (144, 0, 0, 0)) := by decide +kernel
theorem s_X11_first_109 {ca : Nat → List Value → tM → tO} {M : tM} {L : tL} {x y : Int32} {S : List Value} : rn ca C_X11_first 109 L (.int y :: .int x :: S) M = if ¬ x = y then rn ca C_X11_first 144 L S M else rn ca C_X11_first 112 L S M := (rn_at k_X11_first_109).trans rnx_ite
theorem k_X11_first_112 : lk 112 C_X11_first = some (.iload 5, (0, 0, 0, 0)) := by decide +kernel
theorem s_X11_first_112 {ca : Nat → List Value → tM → tO} {M : tM} {a0 a1 a2 a3 a4 a6 a7 : Option Value} {x : Int32} {S : List Value} : rn ca C_X11_first 112 [a0, a1, a2, a3, a4, some (.int x), a6, a7] S M = rn ca C_X11_first 114 [a0, a1, a2, a3, a4, some (.int x), a6, a7] (.int x :: S) M := (rn_at k_X11_first_112).trans rfl
theorem k_X11_first_114 : lk 114 C_X11_first = some (.aload_n 0, (0, 0, 0, 0)) := by decide +kernel
theorem s_X11_first_114 {ca : Nat → List Value → tM → tO} {M : tM} {a1 a2 a3 a4 a5 a6 a7 : Option Value} {x : Nat} {S : List Value} : rn ca C_X11_first 114 [some (.ref x), a1, a2, a3, a4, a5, a6, a7] S M = rn ca C_X11_first 115 [some (.ref x), a1, a2, a3, a4, a5, a6, a7] (.ref x :: S) M := (rn_at k_X11_first_114).trans rfl
theorem k_X11_first_115 : lk 115 C_X11_first = some (.getfield 64, (11, 14, 0, 158)) := by decide +kernel
theorem s_X11_first_115 {ca : Nat → List Value → tM → tO} {M : tM} {L : tL} {b : Nat} {S : List Value} : rn ca C_X11_first 115 L (.ref b :: S) M = if clsO b = some 11 then rn ca C_X11_first 118 L (fv M b 14 :: S) M else none := (rn_at k_X11_first_115).trans rnx_ite
theorem k_X11_first_118 : lk 118 C_X11_first = some (.bipush 8, (0, 0, 0, 0)) := by decide +kernel
theorem s_X11_first_118 {ca : Nat → List Value → tM → tO} {M : tM} {L : tL} {S : List Value} : rn ca C_X11_first 118 L S M = rn ca C_X11_first 120 L (.int (iI 8) :: S) M := (rn_at k_X11_first_118).trans rfl
theorem k_X11_first_120 : lk 120 C_X11_first = some (.aload_n 0, (0, 0, 0, 0)) := by decide +kernel
theorem s_X11_first_120 {ca : Nat → List Value → tM → tO} {M : tM} {a1 a2 a3 a4 a5 a6 a7 : Option Value} {x : Nat} {S : List Value} : rn ca C_X11_first 120 [some (.ref x), a1, a2, a3, a4, a5, a6, a7] S M = rn ca C_X11_first 121 [some (.ref x), a1, a2, a3, a4, a5, a6, a7] (.ref x :: S) M := (rn_at k_X11_first_120).trans rfl
theorem k_X11_first_121 : lk 121 C_X11_first = some (.iload 4, (0, 0, 0, 0)) := by decide +kernel
theorem s_X11_first_121 {ca : Nat → List Value → tM → tO} {M : tM} {a0 a1 a2 a3 a5 a6 a7 : Option Value} {x : Int32} {S : List Value} : rn ca C_X11_first 121 [a0, a1, a2, a3, some (.int x), a5, a6, a7] S M = rn ca C_X11_first 123 [a0, a1, a2, a3, some (.int x), a5, a6, a7] (.int x :: S) M := (rn_at k_X11_first_121).trans rfl
theorem k_X11_first_123 : lk 123 C_X11_first = some (.invokevirtual 221, (150, 1, 11, 769)) := by decide +kernel
theorem s_X11_first_123 {ca : Nat → List Value → tM → tO} {M : tM} {L : tL} {v1 : Value} {r0 : Int32} {r1 : Nat} {r2 : Int32} {b : Nat} : rn ca C_X11_first 123 L [v1, .ref b, .int r0, .ref r1, .int r2] M = if clsO b = some 11 then rnk ca C_X11_first 126 L [.int r0, .ref r1, .int r2] (ca m_X11_from [.ref b, v1] M) else none := (rn_at k_X11_first_123).trans rnx_ite
theorem k_X11_first_126 : lk 126 C_X11_first = some (.imul, (0, 0, 0, 0)) := by decide +kernel
theorem s_X11_first_126 {ca : Nat → List Value → tM → tO} {M : tM} {L : tL} {x y : Int32} {S : List Value} : rn ca C_X11_first 126 L (.int y :: .int x :: S) M = rn ca C_X11_first 127 L (.int (x * y) :: S) M := (rn_at k_X11_first_126).trans rfl
theorem k_X11_first_127 : lk 127 C_X11_first = some (.iload_n 2, (0, 0, 0, 0)) := by decide +kernel
theorem s_X11_first_127 {ca : Nat → List Value → tM → tO} {M : tM} {a0 a1 a3 a4 a5 a6 a7 : Option Value} {x : Int32} {S : List Value} : rn ca C_X11_first 127 [a0, a1, some (.int x), a3, a4, a5, a6, a7] S M = rn ca C_X11_first 128 [a0, a1, some (.int x), a3, a4, a5, a6, a7] (.int x :: S) M := (rn_at k_X11_first_127).trans rfl
theorem k_X11_first_128 : lk 128 C_X11_first = some (.iadd, (0, 0, 0, 0)) := by decide +kernel
theorem s_X11_first_128 {ca : Nat → List Value → tM → tO} {M : tM} {L : tL} {x y : Int32} {S : List Value} : rn ca C_X11_first 128 L (.int y :: .int x :: S) M = rn ca C_X11_first 129 L (.int (x + y) :: S) M := (rn_at k_X11_first_128).trans rfl
theorem k_X11_first_129 : lk 129 C_X11_first = some (.iaload, (0, 0, 0, 0)) := by decide +kernel
theorem s_X11_first_129 {ca : Nat → List Value → tM → tO} {M : tM} {L : tL} {a : Nat} {i : Int32} {S : List Value} : rn ca C_X11_first 129 L (.int i :: .ref a :: S) M = if (akind a = 0 ∨ akind a = 6 ∨ akind a = 7) ∧ inb i (alen M a) then rn ca C_X11_first 130 L (.int (M.1 a i.toInt.toNat) :: S) M else none := (rn_at k_X11_first_129).trans rnx_ite
theorem k_X11_first_130 : lk 130 C_X11_first = some (.iadd, (0, 0, 0, 0)) := by decide +kernel
theorem s_X11_first_130 {ca : Nat → List Value → tM → tO} {M : tM} {L : tL} {x y : Int32} {S : List Value} : rn ca C_X11_first 130 L (.int y :: .int x :: S) M = rn ca C_X11_first 131 L (.int (x + y) :: S) M := (rn_at k_X11_first_130).trans rfl
theorem k_X11_first_131 : lk 131 C_X11_first = some (.aload_n 0, (0, 0, 0, 0)) := by decide +kernel
theorem s_X11_first_131 {ca : Nat → List Value → tM → tO} {M : tM} {a1 a2 a3 a4 a5 a6 a7 : Option Value} {x : Nat} {S : List Value} : rn ca C_X11_first 131 [some (.ref x), a1, a2, a3, a4, a5, a6, a7] S M = rn ca C_X11_first 132 [some (.ref x), a1, a2, a3, a4, a5, a6, a7] (.ref x :: S) M := (rn_at k_X11_first_131).trans rfl
theorem k_X11_first_132 : lk 132 C_X11_first = some (.iload_n 1, (0, 0, 0, 0)) := by decide +kernel
theorem s_X11_first_132 {ca : Nat → List Value → tM → tO} {M : tM} {a0 a2 a3 a4 a5 a6 a7 : Option Value} {x : Int32} {S : List Value} : rn ca C_X11_first 132 [a0, some (.int x), a2, a3, a4, a5, a6, a7] S M = rn ca C_X11_first 133 [a0, some (.int x), a2, a3, a4, a5, a6, a7] (.int x :: S) M := (rn_at k_X11_first_132).trans rfl
theorem k_X11_first_133 : lk 133 C_X11_first = some (.iload_n 2, (0, 0, 0, 0)) := by decide +kernel
theorem s_X11_first_133 {ca : Nat → List Value → tM → tO} {M : tM} {a0 a1 a3 a4 a5 a6 a7 : Option Value} {x : Int32} {S : List Value} : rn ca C_X11_first 133 [a0, a1, some (.int x), a3, a4, a5, a6, a7] S M = rn ca C_X11_first 134 [a0, a1, some (.int x), a3, a4, a5, a6, a7] (.int x :: S) M := (rn_at k_X11_first_133).trans rfl
theorem k_X11_first_134 : lk 134 C_X11_first = some (.invokevirtual 230, (196, 2, 11, 790)) := by decide +kernel
theorem s_X11_first_134 {ca : Nat → List Value → tM → tO} {M : tM} {L : tL} {v1 v2 : Value} {r0 : Int32} {b : Nat} : rn ca C_X11_first 134 L [v2, v1, .ref b, .int r0] M = if clsO b = some 11 then rnk ca C_X11_first 137 L [.int r0] (ca m_X11_way [.ref b, v1, v2] M) else none := (rn_at k_X11_first_134).trans rnx_ite
theorem k_X11_first_137 : lk 137 C_X11_first = some (.if_icmp .ne 7, (144, 0, 0, 0)) := by decide +kernel
theorem s_X11_first_137 {ca : Nat → List Value → tM → tO} {M : tM} {L : tL} {x y : Int32} {S : List Value} : rn ca C_X11_first 137 L (.int y :: .int x :: S) M = if ¬ x = y then rn ca C_X11_first 144 L S M else rn ca C_X11_first 140 L S M := (rn_at k_X11_first_137).trans rnx_ite
theorem k_X11_first_140 : lk 140 C_X11_first = some (.iconst 1, (0, 0, 0, 0)) := by decide +kernel
theorem s_X11_first_140 {ca : Nat → List Value → tM → tO} {M : tM} {L : tL} {S : List Value} : rn ca C_X11_first 140 L S M = rn ca C_X11_first 141 L (.int (iI 1) :: S) M := (rn_at k_X11_first_140).trans rfl
theorem k_X11_first_141 : lk 141 C_X11_first = some (.goto 4, (145, 0, 0, 0)) := by decide +kernel
theorem s_X11_first_141 {ca : Nat → List Value → tM → tO} {M : tM} {L : tL} {S : List Value} : rn ca C_X11_first 141 L S M = rn ca C_X11_first 145 L S M := (rn_at k_X11_first_141).trans rfl
theorem k_X11_first_144 : lk 144 C_X11_first = some (.iconst 0, (0, 0, 0, 0)) := by decide +kernel
theorem s_X11_first_144 {ca : Nat → List Value → tM → tO} {M : tM} {L : tL} {S : List Value} : rn ca C_X11_first 144 L S M = rn ca C_X11_first 145 L (.int (iI 0) :: S) M := (rn_at k_X11_first_144).trans rfl
theorem k_X11_first_145 : lk 145 C_X11_first = some (.istore 7, (0, 0, 0, 0)) := by decide +kernel
theorem s_X11_first_145 {ca : Nat → List Value → tM → tO} {M : tM} {a0 a1 a2 a3 a4 a5 a6 a7 : Option Value} {x : Int32} {S : List Value} : rn ca C_X11_first 145 [a0, a1, a2, a3, a4, a5, a6, a7] (.int x :: S) M = rn ca C_X11_first 147 [a0, a1, a2, a3, a4, a5, a6, some (.int x)] S M := (rn_at k_X11_first_145).trans rfl
theorem k_X11_first_147 : lk 147 C_X11_first = some (.iload 6, (0, 0, 0, 0)) := by decide +kernel
theorem s_X11_first_147 {ca : Nat → List Value → tM → tO} {M : tM} {a0 a1 a2 a3 a4 a5 a7 : Option Value} {x : Int32} {S : List Value} : rn ca C_X11_first 147 [a0, a1, a2, a3, a4, a5, some (.int x), a7] S M = rn ca C_X11_first 149 [a0, a1, a2, a3, a4, a5, some (.int x), a7] (.int x :: S) M := (rn_at k_X11_first_147).trans rfl
theorem k_X11_first_149 : lk 149 C_X11_first = some (.ifCond .ne 8, (157, 0, 0, 0)) := by decide +kernel
theorem s_X11_first_149 {ca : Nat → List Value → tM → tO} {M : tM} {L : tL} {x : Int32} {S : List Value} : rn ca C_X11_first 149 L (.int x :: S) M = if ¬ x = iI 0 then rn ca C_X11_first 157 L S M else rn ca C_X11_first 152 L S M := (rn_at k_X11_first_149).trans rnx_ite
theorem k_X11_first_152 : lk 152 C_X11_first = some (.iload 7, (0, 0, 0, 0)) := by decide +kernel
theorem s_X11_first_152 {ca : Nat → List Value → tM → tO} {M : tM} {a0 a1 a2 a3 a4 a5 a6 : Option Value} {x : Int32} {S : List Value} : rn ca C_X11_first 152 [a0, a1, a2, a3, a4, a5, a6, some (.int x)] S M = rn ca C_X11_first 154 [a0, a1, a2, a3, a4, a5, a6, some (.int x)] (.int x :: S) M := (rn_at k_X11_first_152).trans rfl
theorem k_X11_first_154 : lk 154 C_X11_first = some (.ifCond .eq 8, (162, 0, 0, 0)) := by decide +kernel
theorem s_X11_first_154 {ca : Nat → List Value → tM → tO} {M : tM} {L : tL} {x : Int32} {S : List Value} : rn ca C_X11_first 154 L (.int x :: S) M = if x = iI 0 then rn ca C_X11_first 162 L S M else rn ca C_X11_first 157 L S M := (rn_at k_X11_first_154).trans rnx_ite
theorem k_X11_first_157 : lk 157 C_X11_first = some (.iload 4, (0, 0, 0, 0)) := by decide +kernel
theorem s_X11_first_157 {ca : Nat → List Value → tM → tO} {M : tM} {a0 a1 a2 a3 a5 a6 a7 : Option Value} {x : Int32} {S : List Value} : rn ca C_X11_first 157 [a0, a1, a2, a3, some (.int x), a5, a6, a7] S M = rn ca C_X11_first 159 [a0, a1, a2, a3, some (.int x), a5, a6, a7] (.int x :: S) M := (rn_at k_X11_first_157).trans rfl
theorem k_X11_first_159 : lk 159 C_X11_first = some (.goto 4, (163, 0, 0, 0)) := by decide +kernel
theorem s_X11_first_159 {ca : Nat → List Value → tM → tO} {M : tM} {L : tL} {S : List Value} : rn ca C_X11_first 159 L S M = rn ca C_X11_first 163 L S M := (rn_at k_X11_first_159).trans rfl
theorem k_X11_first_162 : lk 162 C_X11_first = some (.iload_n 3, (0, 0, 0, 0)) := by decide +kernel
theorem s_X11_first_162 {ca : Nat → List Value → tM → tO} {M : tM} {a0 a1 a2 a4 a5 a6 a7 : Option Value} {x : Int32} {S : List Value} : rn ca C_X11_first 162 [a0, a1, a2, some (.int x), a4, a5, a6, a7] S M = rn ca C_X11_first 163 [a0, a1, a2, some (.int x), a4, a5, a6, a7] (.int x :: S) M := (rn_at k_X11_first_162).trans rfl
theorem k_X11_first_163 : lk 163 C_X11_first = some (.istore_n 3, (0, 0, 0, 0)) := by decide +kernel
theorem s_X11_first_163 {ca : Nat → List Value → tM → tO} {M : tM} {a0 a1 a2 a3 a4 a5 a6 a7 : Option Value} {x : Int32} {S : List Value} : rn ca C_X11_first 163 [a0, a1, a2, a3, a4, a5, a6, a7] (.int x :: S) M = rn ca C_X11_first 164 [a0, a1, a2, some (.int x), a4, a5, a6, a7] S M := (rn_at k_X11_first_163).trans rfl
theorem k_X11_first_164 : lk 164 C_X11_first = some (.iinc 4 (-1), (0, 0, 0, 0)) := by decide +kernel
theorem s_X11_first_164 {ca : Nat → List Value → tM → tO} {M : tM} {a0 a1 a2 a3 a5 a6 a7 : Option Value} {x : Int32} {S : List Value} : rn ca C_X11_first 164 [a0, a1, a2, a3, some (.int x), a5, a6, a7] S M = rn ca C_X11_first 167 [a0, a1, a2, a3, some (.int (x + iI (-1))), a5, a6, a7] S M := (rn_at k_X11_first_164).trans rfl
theorem k_X11_first_167 : lk 167 C_X11_first = some (.goto (-154), (13, 0, 0, 0)) := by decide +kernel
theorem s_X11_first_167 {ca : Nat → List Value → tM → tO} {M : tM} {L : tL} {S : List Value} : rn ca C_X11_first 167 L S M = rn ca C_X11_first 13 L S M := (rn_at k_X11_first_167).trans rfl
theorem k_X11_first_170 : lk 170 C_X11_first = some (.aload_n 0, (0, 0, 0, 0)) := by decide +kernel
theorem s_X11_first_170 {ca : Nat → List Value → tM → tO} {M : tM} {a1 a2 a3 a4 a5 a6 a7 : Option Value} {x : Nat} {S : List Value} : rn ca C_X11_first 170 [some (.ref x), a1, a2, a3, a4, a5, a6, a7] S M = rn ca C_X11_first 171 [some (.ref x), a1, a2, a3, a4, a5, a6, a7] (.ref x :: S) M := (rn_at k_X11_first_170).trans rfl
theorem k_X11_first_171 : lk 171 C_X11_first = some (.iload_n 1, (0, 0, 0, 0)) := by decide +kernel
theorem s_X11_first_171 {ca : Nat → List Value → tM → tO} {M : tM} {a0 a2 a3 a4 a5 a6 a7 : Option Value} {x : Int32} {S : List Value} : rn ca C_X11_first 171 [a0, some (.int x), a2, a3, a4, a5, a6, a7] S M = rn ca C_X11_first 172 [a0, some (.int x), a2, a3, a4, a5, a6, a7] (.int x :: S) M := (rn_at k_X11_first_171).trans rfl
theorem k_X11_first_172 : lk 172 C_X11_first = some (.invokevirtual 137, (158, 1, 11, 331)) := by decide +kernel
theorem s_X11_first_172 {ca : Nat → List Value → tM → tO} {M : tM} {L : tL} {v1 : Value} {b : Nat} : rn ca C_X11_first 172 L [v1, .ref b] M = if clsO b = some 11 then rnk ca C_X11_first 175 L [] (ca m_X11_at [.ref b, v1] M) else none := (rn_at k_X11_first_172).trans rnx_ite
theorem k_X11_first_175 : lk 175 C_X11_first = some (.iload_n 2, (0, 0, 0, 0)) := by decide +kernel
theorem s_X11_first_175 {ca : Nat → List Value → tM → tO} {M : tM} {a0 a1 a3 a4 a5 a6 a7 : Option Value} {x : Int32} {S : List Value} : rn ca C_X11_first 175 [a0, a1, some (.int x), a3, a4, a5, a6, a7] S M = rn ca C_X11_first 176 [a0, a1, some (.int x), a3, a4, a5, a6, a7] (.int x :: S) M := (rn_at k_X11_first_175).trans rfl
theorem k_X11_first_176 : lk 176 C_X11_first = some (.if_icmp .eq 15, (191, 0, 0, 0)) := by decide +kernel
theorem s_X11_first_176 {ca : Nat → List Value → tM → tO} {M : tM} {L : tL} {x y : Int32} {S : List Value} : rn ca C_X11_first 176 L (.int y :: .int x :: S) M = if x = y then rn ca C_X11_first 191 L S M else rn ca C_X11_first 179 L S M := (rn_at k_X11_first_176).trans rnx_ite
theorem k_X11_first_179 : lk 179 C_X11_first = some (.aload_n 0, (0, 0, 0, 0)) := by decide +kernel
theorem s_X11_first_179 {ca : Nat → List Value → tM → tO} {M : tM} {a1 a2 a3 a4 a5 a6 a7 : Option Value} {x : Nat} {S : List Value} : rn ca C_X11_first 179 [some (.ref x), a1, a2, a3, a4, a5, a6, a7] S M = rn ca C_X11_first 180 [some (.ref x), a1, a2, a3, a4, a5, a6, a7] (.ref x :: S) M := (rn_at k_X11_first_179).trans rfl
theorem k_X11_first_180 : lk 180 C_X11_first = some (.iload_n 1, (0, 0, 0, 0)) := by decide +kernel
theorem s_X11_first_180 {ca : Nat → List Value → tM → tO} {M : tM} {a0 a2 a3 a4 a5 a6 a7 : Option Value} {x : Int32} {S : List Value} : rn ca C_X11_first 180 [a0, some (.int x), a2, a3, a4, a5, a6, a7] S M = rn ca C_X11_first 181 [a0, some (.int x), a2, a3, a4, a5, a6, a7] (.int x :: S) M := (rn_at k_X11_first_180).trans rfl
theorem k_X11_first_181 : lk 181 C_X11_first = some (.iload_n 2, (0, 0, 0, 0)) := by decide +kernel
theorem s_X11_first_181 {ca : Nat → List Value → tM → tO} {M : tM} {a0 a1 a3 a4 a5 a6 a7 : Option Value} {x : Int32} {S : List Value} : rn ca C_X11_first 181 [a0, a1, some (.int x), a3, a4, a5, a6, a7] S M = rn ca C_X11_first 182 [a0, a1, some (.int x), a3, a4, a5, a6, a7] (.int x :: S) M := (rn_at k_X11_first_181).trans rfl
theorem k_X11_first_182 : lk 182 C_X11_first = some (.invokevirtual 230, (196, 2, 11, 790)) := by decide +kernel
theorem s_X11_first_182 {ca : Nat → List Value → tM → tO} {M : tM} {L : tL} {v1 v2 : Value} {b : Nat} : rn ca C_X11_first 182 L [v2, v1, .ref b] M = if clsO b = some 11 then rnk ca C_X11_first 185 L [] (ca m_X11_way [.ref b, v1, v2] M) else none := (rn_at k_X11_first_182).trans rnx_ite
theorem k_X11_first_185 : lk 185 C_X11_first = some (.sipush 9999, (0, 0, 0, 0)) := by decide +kernel
theorem s_X11_first_185 {ca : Nat → List Value → tM → tO} {M : tM} {L : tL} {S : List Value} : rn ca C_X11_first 185 L S M = rn ca C_X11_first 188 L (.int (iI 9999) :: S) M := (rn_at k_X11_first_185).trans rfl
theorem k_X11_first_188 : lk 188 C_X11_first = some (.if_icmp .lt 7, (195, 0, 0, 0)) := by decide +kernel
theorem s_X11_first_188 {ca : Nat → List Value → tM → tO} {M : tM} {L : tL} {x y : Int32} {S : List Value} : rn ca C_X11_first 188 L (.int y :: .int x :: S) M = if x < y then rn ca C_X11_first 195 L S M else rn ca C_X11_first 191 L S M := (rn_at k_X11_first_188).trans rnx_ite
theorem k_X11_first_191 : lk 191 C_X11_first = some (.iconst (-1), (0, 0, 0, 0)) := by decide +kernel
theorem s_X11_first_191 {ca : Nat → List Value → tM → tO} {M : tM} {L : tL} {S : List Value} : rn ca C_X11_first 191 L S M = rn ca C_X11_first 192 L (.int (iI (-1)) :: S) M := (rn_at k_X11_first_191).trans rfl
theorem k_X11_first_192 : lk 192 C_X11_first = some (.goto 4, (196, 0, 0, 0)) := by decide +kernel
theorem s_X11_first_192 {ca : Nat → List Value → tM → tO} {M : tM} {L : tL} {S : List Value} : rn ca C_X11_first 192 L S M = rn ca C_X11_first 196 L S M := (rn_at k_X11_first_192).trans rfl
theorem k_X11_first_195 : lk 195 C_X11_first = some (.iload_n 3, (0, 0, 0, 0)) := by decide +kernel
theorem s_X11_first_195 {ca : Nat → List Value → tM → tO} {M : tM} {a0 a1 a2 a4 a5 a6 a7 : Option Value} {x : Int32} {S : List Value} : rn ca C_X11_first 195 [a0, a1, a2, some (.int x), a4, a5, a6, a7] S M = rn ca C_X11_first 196 [a0, a1, a2, some (.int x), a4, a5, a6, a7] (.int x :: S) M := (rn_at k_X11_first_195).trans rfl
theorem k_X11_first_196 : lk 196 C_X11_first = some (.ireturn, (0, 0, 0, 0)) := by decide +kernel
theorem s_X11_first_196 {ca : Nat → List Value → tM → tO} {M : tM} {L : tL} {x : Int32} : rn ca C_X11_first 196 L [.int x] M = some (some (.int x), M) := (rn_at k_X11_first_196).trans rfl
theorem k_X11_way__0 : lk 0 C_X11_way_ = some (.aload_n 0, (0, 0, 0, 0)) := by decide +kernel
theorem s_X11_way__0 {ca : Nat → List Value → tM → tO} {M : tM} {a1 a2 a3 : Option Value} {x : Nat} {S : List Value} : rn ca C_X11_way_ 0 [some (.ref x), a1, a2, a3] S M = rn ca C_X11_way_ 1 [some (.ref x), a1, a2, a3] (.ref x :: S) M := (rn_at k_X11_way__0).trans rfl
theorem k_X11_way__1 : lk 1 C_X11_way_ = some (.iload_n 1, (0, 0, 0, 0)) := by decide +kernel
theorem s_X11_way__1 {ca : Nat → List Value → tM → tO} {M : tM} {a0 a2 a3 : Option Value} {x : Int32} {S : List Value} : rn ca C_X11_way_ 1 [a0, some (.int x), a2, a3] S M = rn ca C_X11_way_ 2 [a0, some (.int x), a2, a3] (.int x :: S) M := (rn_at k_X11_way__1).trans rfl
theorem k_X11_way__2 : lk 2 C_X11_way_ = some (.i2l, (0, 0, 0, 0)) := by decide +kernel
theorem s_X11_way__2 {ca : Nat → List Value → tM → tO} {M : tM} {L : tL} {x : Int32} {S : List Value} : rn ca C_X11_way_ 2 L (.int x :: S) M = rn ca C_X11_way_ 3 L (.long x.toInt64 :: S) M := (rn_at k_X11_way__2).trans rfl
theorem k_X11_way__3 : lk 3 C_X11_way_ = some (.invokevirtual 114, (149, 1, 11, 302)) := by decide +kernel
theorem s_X11_way__3 {ca : Nat → List Value → tM → tO} {M : tM} {L : tL} {v1 : Value} {b : Nat} : rn ca C_X11_way_ 3 L [v1, .ref b] M = if clsO b = some 11 then rnk ca C_X11_way_ 6 L [] (ca m_X11_isCapsule [.ref b, v1] M) else none := (rn_at k_X11_way__3).trans rnx_ite
theorem k_X11_way__6 : lk 6 C_X11_way_ = some (.ifCond .eq 12, (18, 0, 0, 0)) := by decide +kernel
theorem s_X11_way__6 {ca : Nat → List Value → tM → tO} {M : tM} {L : tL} {x : Int32} {S : List Value} : rn ca C_X11_way_ 6 L (.int x :: S) M = if x = iI 0 then rn ca C_X11_way_ 18 L S M else rn ca C_X11_way_ 9 L S M := (rn_at k_X11_way__6).trans rnx_ite
theorem k_X11_way__9 : lk 9 C_X11_way_ = some (.aload_n 0, (0, 0, 0, 0)) := by decide +kernel
theorem s_X11_way__9 {ca : Nat → List Value → tM → tO} {M : tM} {a1 a2 a3 : Option Value} {x : Nat} {S : List Value} : rn ca C_X11_way_ 9 [some (.ref x), a1, a2, a3] S M = rn ca C_X11_way_ 10 [some (.ref x), a1, a2, a3] (.ref x :: S) M := (rn_at k_X11_way__9).trans rfl
theorem k_X11_way__10 : lk 10 C_X11_way_ = some (.iload_n 2, (0, 0, 0, 0)) := by decide +kernel
theorem s_X11_way__10 {ca : Nat → List Value → tM → tO} {M : tM} {a0 a1 a3 : Option Value} {x : Int32} {S : List Value} : rn ca C_X11_way_ 10 [a0, a1, some (.int x), a3] S M = rn ca C_X11_way_ 11 [a0, a1, some (.int x), a3] (.int x :: S) M := (rn_at k_X11_way__10).trans rfl
theorem k_X11_way__11 : lk 11 C_X11_way_ = some (.i2l, (0, 0, 0, 0)) := by decide +kernel
theorem s_X11_way__11 {ca : Nat → List Value → tM → tO} {M : tM} {L : tL} {x : Int32} {S : List Value} : rn ca C_X11_way_ 11 L (.int x :: S) M = rn ca C_X11_way_ 12 L (.long x.toInt64 :: S) M := (rn_at k_X11_way__11).trans rfl
theorem k_X11_way__12 : lk 12 C_X11_way_ = some (.invokevirtual 95, (147, 1, 11, 397)) := by decide +kernel
theorem s_X11_way__12 {ca : Nat → List Value → tM → tO} {M : tM} {L : tL} {v1 : Value} {b : Nat} : rn ca C_X11_way_ 12 L [v1, .ref b] M = if clsO b = some 11 then rnk ca C_X11_way_ 15 L [] (ca m_X11_isDesk [.ref b, v1] M) else none := (rn_at k_X11_way__12).trans rnx_ite
theorem k_X11_way__15 : lk 15 C_X11_way_ = some (.ifCond .ne 9, (24, 0, 0, 0)) := by decide +kernel
theorem s_X11_way__15 {ca : Nat → List Value → tM → tO} {M : tM} {L : tL} {x : Int32} {S : List Value} : rn ca C_X11_way_ 15 L (.int x :: S) M = if ¬ x = iI 0 then rn ca C_X11_way_ 24 L S M else rn ca C_X11_way_ 18 L S M := (rn_at k_X11_way__15).trans rnx_ite
theorem k_X11_way__18 : lk 18 C_X11_way_ = some (.aload_n 0, (0, 0, 0, 0)) := by decide +kernel
theorem s_X11_way__18 {ca : Nat → List Value → tM → tO} {M : tM} {a1 a2 a3 : Option Value} {x : Nat} {S : List Value} : rn ca C_X11_way_ 18 [some (.ref x), a1, a2, a3] S M = rn ca C_X11_way_ 19 [some (.ref x), a1, a2, a3] (.ref x :: S) M := (rn_at k_X11_way__18).trans rfl
theorem k_X11_way__19 : lk 19 C_X11_way_ = some (.iconst (-1), (0, 0, 0, 0)) := by decide +kernel
theorem s_X11_way__19 {ca : Nat → List Value → tM → tO} {M : tM} {L : tL} {S : List Value} : rn ca C_X11_way_ 19 L S M = rn ca C_X11_way_ 20 L (.int (iI (-1)) :: S) M := (rn_at k_X11_way__19).trans rfl
theorem k_X11_way__20 : lk 20 C_X11_way_ = some (.invokevirtual 233, (145, 1, 11, 749)) := by decide +kernel
theorem s_X11_way__20 {ca : Nat → List Value → tM → tO} {M : tM} {L : tL} {v1 : Value} {b : Nat} : rn ca C_X11_way_ 20 L [v1, .ref b] M = if clsO b = some 11 then rnk ca C_X11_way_ 23 L [] (ca m_X11_refuseBy10 [.ref b, v1] M) else none := (rn_at k_X11_way__20).trans rnx_ite
theorem k_X11_way__23 : lk 23 C_X11_way_ = some (.ireturn, (0, 0, 0, 0)) := by decide +kernel
theorem s_X11_way__23 {ca : Nat → List Value → tM → tO} {M : tM} {L : tL} {x : Int32} : rn ca C_X11_way_ 23 L [.int x] M = some (some (.int x), M) := (rn_at k_X11_way__23).trans rfl
theorem k_X11_way__24 : lk 24 C_X11_way_ = some (.iload_n 3, (0, 0, 0, 0)) := by decide +kernel
theorem s_X11_way__24 {ca : Nat → List Value → tM → tO} {M : tM} {a0 a1 a2 : Option Value} {x : Int32} {S : List Value} : rn ca C_X11_way_ 24 [a0, a1, a2, some (.int x)] S M = rn ca C_X11_way_ 25 [a0, a1, a2, some (.int x)] (.int x :: S) M := (rn_at k_X11_way__24).trans rfl
theorem k_X11_way__25 : lk 25 C_X11_way_ = some (.i2l, (0, 0, 0, 0)) := by decide +kernel
theorem s_X11_way__25 {ca : Nat → List Value → tM → tO} {M : tM} {L : tL} {x : Int32} {S : List Value} : rn ca C_X11_way_ 25 L (.int x :: S) M = rn ca C_X11_way_ 26 L (.long x.toInt64 :: S) M := (rn_at k_X11_way__25).trans rfl
theorem k_X11_way__26 : lk 26 C_X11_way_ = some (.lconst 0, (0, 0, 0, 0)) := by decide +kernel
theorem s_X11_way__26 {ca : Nat → List Value → tM → tO} {M : tM} {L : tL} {S : List Value} : rn ca C_X11_way_ 26 L S M = rn ca C_X11_way_ 27 L (.long (jJ 0) :: S) M := (rn_at k_X11_way__26).trans rfl
theorem k_X11_way__27 : lk 27 C_X11_way_ = some (.ldc2_w 236, (0, 0, 2, 748)) := by decide +kernel
theorem s_X11_way__27 {ca : Nat → List Value → tM → tO} {M : tM} {L : tL} {S : List Value} : rn ca C_X11_way_ 27 L S M = rn ca C_X11_way_ 30 L (.long (jJ 2) :: S) M := (rn_at k_X11_way__27).trans rfl
theorem k_X11_way__30 : lk 30 C_X11_way_ = some (.invokestatic 87, (143, 3, 0, 197)) := by decide +kernel
theorem s_X11_way__30 {ca : Nat → List Value → tM → tO} {M : tM} {L : tL} {v1 v2 v3 : Value} : rn ca C_X11_way_ 30 L [v3, v2, v1] M = rnk ca C_X11_way_ 33 L [] (ca m_X11_isIn [v1, v2, v3] M) := (rn_at k_X11_way__30).trans rfl
theorem k_X11_way__33 : lk 33 C_X11_way_ = some (.ifCond .ne 10, (43, 0, 0, 0)) := by decide +kernel
theorem s_X11_way__33 {ca : Nat → List Value → tM → tO} {M : tM} {L : tL} {x : Int32} {S : List Value} : rn ca C_X11_way_ 33 L (.int x :: S) M = if ¬ x = iI 0 then rn ca C_X11_way_ 43 L S M else rn ca C_X11_way_ 36 L S M := (rn_at k_X11_way__33).trans rnx_ite
theorem k_X11_way__36 : lk 36 C_X11_way_ = some (.aload_n 0, (0, 0, 0, 0)) := by decide +kernel
theorem s_X11_way__36 {ca : Nat → List Value → tM → tO} {M : tM} {a1 a2 a3 : Option Value} {x : Nat} {S : List Value} : rn ca C_X11_way_ 36 [some (.ref x), a1, a2, a3] S M = rn ca C_X11_way_ 37 [some (.ref x), a1, a2, a3] (.ref x :: S) M := (rn_at k_X11_way__36).trans rfl
theorem k_X11_way__37 : lk 37 C_X11_way_ = some (.bipush (-5), (0, 0, 0, 0)) := by decide +kernel
theorem s_X11_way__37 {ca : Nat → List Value → tM → tO} {M : tM} {L : tL} {S : List Value} : rn ca C_X11_way_ 37 L S M = rn ca C_X11_way_ 39 L (.int (iI (-5)) :: S) M := (rn_at k_X11_way__37).trans rfl
theorem k_X11_way__39 : lk 39 C_X11_way_ = some (.invokevirtual 233, (145, 1, 11, 749)) := by decide +kernel
theorem s_X11_way__39 {ca : Nat → List Value → tM → tO} {M : tM} {L : tL} {v1 : Value} {b : Nat} : rn ca C_X11_way_ 39 L [v1, .ref b] M = if clsO b = some 11 then rnk ca C_X11_way_ 42 L [] (ca m_X11_refuseBy10 [.ref b, v1] M) else none := (rn_at k_X11_way__39).trans rnx_ite
theorem k_X11_way__42 : lk 42 C_X11_way_ = some (.ireturn, (0, 0, 0, 0)) := by decide +kernel
theorem s_X11_way__42 {ca : Nat → List Value → tM → tO} {M : tM} {L : tL} {x : Int32} : rn ca C_X11_way_ 42 L [.int x] M = some (some (.int x), M) := (rn_at k_X11_way__42).trans rfl
theorem k_X11_way__43 : lk 43 C_X11_way_ = some (.aload_n 0, (0, 0, 0, 0)) := by decide +kernel
theorem s_X11_way__43 {ca : Nat → List Value → tM → tO} {M : tM} {a1 a2 a3 : Option Value} {x : Nat} {S : List Value} : rn ca C_X11_way_ 43 [some (.ref x), a1, a2, a3] S M = rn ca C_X11_way_ 44 [some (.ref x), a1, a2, a3] (.ref x :: S) M := (rn_at k_X11_way__43).trans rfl
theorem k_X11_way__44 : lk 44 C_X11_way_ = some (.iload_n 1, (0, 0, 0, 0)) := by decide +kernel
theorem s_X11_way__44 {ca : Nat → List Value → tM → tO} {M : tM} {a0 a2 a3 : Option Value} {x : Int32} {S : List Value} : rn ca C_X11_way_ 44 [a0, some (.int x), a2, a3] S M = rn ca C_X11_way_ 45 [a0, some (.int x), a2, a3] (.int x :: S) M := (rn_at k_X11_way__44).trans rfl
theorem k_X11_way__45 : lk 45 C_X11_way_ = some (.iload_n 3, (0, 0, 0, 0)) := by decide +kernel
theorem s_X11_way__45 {ca : Nat → List Value → tM → tO} {M : tM} {a0 a1 a2 : Option Value} {x : Int32} {S : List Value} : rn ca C_X11_way_ 45 [a0, a1, a2, some (.int x)] S M = rn ca C_X11_way_ 46 [a0, a1, a2, some (.int x)] (.int x :: S) M := (rn_at k_X11_way__45).trans rfl
theorem k_X11_way__46 : lk 46 C_X11_way_ = some (.iconst 2, (0, 0, 0, 0)) := by decide +kernel
theorem s_X11_way__46 {ca : Nat → List Value → tM → tO} {M : tM} {L : tL} {S : List Value} : rn ca C_X11_way_ 46 L S M = rn ca C_X11_way_ 47 L (.int (iI 2) :: S) M := (rn_at k_X11_way__46).trans rfl
theorem k_X11_way__47 : lk 47 C_X11_way_ = some (.if_icmp .ne 7, (54, 0, 0, 0)) := by decide +kernel
theorem s_X11_way__47 {ca : Nat → List Value → tM → tO} {M : tM} {L : tL} {x y : Int32} {S : List Value} : rn ca C_X11_way_ 47 L (.int y :: .int x :: S) M = if ¬ x = y then rn ca C_X11_way_ 54 L S M else rn ca C_X11_way_ 50 L S M := (rn_at k_X11_way__47).trans rnx_ite
theorem k_X11_way__50 : lk 50 C_X11_way_ = some (.iconst 1, (0, 0, 0, 0)) := by decide +kernel
theorem s_X11_way__50 {ca : Nat → List Value → tM → tO} {M : tM} {L : tL} {S : List Value} : rn ca C_X11_way_ 50 L S M = rn ca C_X11_way_ 51 L (.int (iI 1) :: S) M := (rn_at k_X11_way__50).trans rfl
theorem k_X11_way__51 : lk 51 C_X11_way_ = some (.goto 4, (55, 0, 0, 0)) := by decide +kernel
theorem s_X11_way__51 {ca : Nat → List Value → tM → tO} {M : tM} {L : tL} {S : List Value} : rn ca C_X11_way_ 51 L S M = rn ca C_X11_way_ 55 L S M := (rn_at k_X11_way__51).trans rfl
theorem k_X11_way__54 : lk 54 C_X11_way_ = some (.iconst 0, (0, 0, 0, 0)) := by decide +kernel
theorem s_X11_way__54 {ca : Nat → List Value → tM → tO} {M : tM} {L : tL} {S : List Value} : rn ca C_X11_way_ 54 L S M = rn ca C_X11_way_ 55 L (.int (iI 0) :: S) M := (rn_at k_X11_way__54).trans rfl
theorem k_X11_way__55 : lk 55 C_X11_way_ = some (.invokevirtual 238, (195, 2, 11, 753)) := by decide +kernel
theorem s_X11_way__55 {ca : Nat → List Value → tM → tO} {M : tM} {L : tL} {v1 v2 : Value} {b : Nat} : rn ca C_X11_way_ 55 L [v2, v1, .ref b] M = if clsO b = some 11 then rnk ca C_X11_way_ 58 L [] (ca m_X11_fill [.ref b, v1, v2] M) else none := (rn_at k_X11_way__55).trans rnx_ite
theorem k_X11_way__58 : lk 58 C_X11_way_ = some (.iload_n 3, (0, 0, 0, 0)) := by decide +kernel
theorem s_X11_way__58 {ca : Nat → List Value → tM → tO} {M : tM} {a0 a1 a2 : Option Value} {x : Int32} {S : List Value} : rn ca C_X11_way_ 58 [a0, a1, a2, some (.int x)] S M = rn ca C_X11_way_ 59 [a0, a1, a2, some (.int x)] (.int x :: S) M := (rn_at k_X11_way__58).trans rfl
theorem k_X11_way__59 : lk 59 C_X11_way_ = some (.iconst 1, (0, 0, 0, 0)) := by decide +kernel
theorem s_X11_way__59 {ca : Nat → List Value → tM → tO} {M : tM} {L : tL} {S : List Value} : rn ca C_X11_way_ 59 L S M = rn ca C_X11_way_ 60 L (.int (iI 1) :: S) M := (rn_at k_X11_way__59).trans rfl
theorem k_X11_way__60 : lk 60 C_X11_way_ = some (.if_icmp .ne 12, (72, 0, 0, 0)) := by decide +kernel
theorem s_X11_way__60 {ca : Nat → List Value → tM → tO} {M : tM} {L : tL} {x y : Int32} {S : List Value} : rn ca C_X11_way_ 60 L (.int y :: .int x :: S) M = if ¬ x = y then rn ca C_X11_way_ 72 L S M else rn ca C_X11_way_ 63 L S M := (rn_at k_X11_way__60).trans rnx_ite
theorem k_X11_way__63 : lk 63 C_X11_way_ = some (.aload_n 0, (0, 0, 0, 0)) := by decide +kernel
theorem s_X11_way__63 {ca : Nat → List Value → tM → tO} {M : tM} {a1 a2 a3 : Option Value} {x : Nat} {S : List Value} : rn ca C_X11_way_ 63 [some (.ref x), a1, a2, a3] S M = rn ca C_X11_way_ 64 [some (.ref x), a1, a2, a3] (.ref x :: S) M := (rn_at k_X11_way__63).trans rfl
theorem k_X11_way__64 : lk 64 C_X11_way_ = some (.iload_n 1, (0, 0, 0, 0)) := by decide +kernel
theorem s_X11_way__64 {ca : Nat → List Value → tM → tO} {M : tM} {a0 a2 a3 : Option Value} {x : Int32} {S : List Value} : rn ca C_X11_way_ 64 [a0, some (.int x), a2, a3] S M = rn ca C_X11_way_ 65 [a0, some (.int x), a2, a3] (.int x :: S) M := (rn_at k_X11_way__64).trans rfl
theorem k_X11_way__65 : lk 65 C_X11_way_ = some (.iload_n 2, (0, 0, 0, 0)) := by decide +kernel
theorem s_X11_way__65 {ca : Nat → List Value → tM → tO} {M : tM} {a0 a1 a3 : Option Value} {x : Int32} {S : List Value} : rn ca C_X11_way_ 65 [a0, a1, some (.int x), a3] S M = rn ca C_X11_way_ 66 [a0, a1, some (.int x), a3] (.int x :: S) M := (rn_at k_X11_way__65).trans rfl
theorem k_X11_way__66 : lk 66 C_X11_way_ = some (.invokevirtual 242, (198, 2, 11, 786)) := by decide +kernel
theorem s_X11_way__66 {ca : Nat → List Value → tM → tO} {M : tM} {L : tL} {v1 v2 : Value} {b : Nat} : rn ca C_X11_way_ 66 L [v2, v1, .ref b] M = if clsO b = some 11 then rnk ca C_X11_way_ 69 L [] (ca m_X11_first [.ref b, v1, v2] M) else none := (rn_at k_X11_way__66).trans rnx_ite
theorem k_X11_way__69 : lk 69 C_X11_way_ = some (.goto 12, (81, 0, 0, 0)) := by decide +kernel
theorem s_X11_way__69 {ca : Nat → List Value → tM → tO} {M : tM} {L : tL} {S : List Value} : rn ca C_X11_way_ 69 L S M = rn ca C_X11_way_ 81 L S M := (rn_at k_X11_way__69).trans rfl
theorem k_X11_way__72 : lk 72 C_X11_way_ = some (.aload_n 0, (0, 0, 0, 0)) := by decide +kernel
theorem s_X11_way__72 {ca : Nat → List Value → tM → tO} {M : tM} {a1 a2 a3 : Option Value} {x : Nat} {S : List Value} : rn ca C_X11_way_ 72 [some (.ref x), a1, a2, a3] S M = rn ca C_X11_way_ 73 [some (.ref x), a1, a2, a3] (.ref x :: S) M := (rn_at k_X11_way__72).trans rfl
theorem k_X11_way__73 : lk 73 C_X11_way_ = some (.iload_n 1, (0, 0, 0, 0)) := by decide +kernel
theorem s_X11_way__73 {ca : Nat → List Value → tM → tO} {M : tM} {a0 a2 a3 : Option Value} {x : Int32} {S : List Value} : rn ca C_X11_way_ 73 [a0, some (.int x), a2, a3] S M = rn ca C_X11_way_ 74 [a0, some (.int x), a2, a3] (.int x :: S) M := (rn_at k_X11_way__73).trans rfl
theorem k_X11_way__74 : lk 74 C_X11_way_ = some (.iload_n 2, (0, 0, 0, 0)) := by decide +kernel
theorem s_X11_way__74 {ca : Nat → List Value → tM → tO} {M : tM} {a0 a1 a3 : Option Value} {x : Int32} {S : List Value} : rn ca C_X11_way_ 74 [a0, a1, some (.int x), a3] S M = rn ca C_X11_way_ 75 [a0, a1, some (.int x), a3] (.int x :: S) M := (rn_at k_X11_way__74).trans rfl
theorem k_X11_way__75 : lk 75 C_X11_way_ = some (.invokevirtual 230, (196, 2, 11, 790)) := by decide +kernel
theorem s_X11_way__75 {ca : Nat → List Value → tM → tO} {M : tM} {L : tL} {v1 v2 : Value} {b : Nat} : rn ca C_X11_way_ 75 L [v2, v1, .ref b] M = if clsO b = some 11 then rnk ca C_X11_way_ 78 L [] (ca m_X11_way [.ref b, v1, v2] M) else none := (rn_at k_X11_way__75).trans rnx_ite
theorem k_X11_way__78 : lk 78 C_X11_way_ = some (.invokestatic 245, (197, 1, 0, 794)) := by decide +kernel
theorem s_X11_way__78 {ca : Nat → List Value → tM → tO} {M : tM} {L : tL} {v1 : Value} : rn ca C_X11_way_ 78 L [v1] M = rnk ca C_X11_way_ 81 L [] (ca m_X11_orNone [v1] M) := (rn_at k_X11_way__78).trans rfl
theorem k_X11_way__81 : lk 81 C_X11_way_ = some (.ireturn, (0, 0, 0, 0)) := by decide +kernel
theorem s_X11_way__81 {ca : Nat → List Value → tM → tO} {M : tM} {L : tL} {x : Int32} : rn ca C_X11_way_ 81 L [.int x] M = some (some (.int x), M) := (rn_at k_X11_way__81).trans rfl
theorem k_X11_within_0 : lk 0 C_X11_within = some (.aload_n 0, (0, 0, 0, 0)) := by decide +kernel
theorem s_X11_within_0 {ca : Nat → List Value → tM → tO} {M : tM} {a1 a2 a3 a4 : Option Value} {x : Nat} {S : List Value} : rn ca C_X11_within 0 [some (.ref x), a1, a2, a3, a4] S M = rn ca C_X11_within 1 [some (.ref x), a1, a2, a3, a4] (.ref x :: S) M := (rn_at k_X11_within_0).trans rfl
theorem k_X11_within_1 : lk 1 C_X11_within = some (.iload_n 1, (0, 0, 0, 0)) := by decide +kernel
theorem s_X11_within_1 {ca : Nat → List Value → tM → tO} {M : tM} {a0 a2 a3 a4 : Option Value} {x : Int32} {S : List Value} : rn ca C_X11_within 1 [a0, some (.int x), a2, a3, a4] S M = rn ca C_X11_within 2 [a0, some (.int x), a2, a3, a4] (.int x :: S) M := (rn_at k_X11_within_1).trans rfl
theorem k_X11_within_2 : lk 2 C_X11_within = some (.i2l, (0, 0, 0, 0)) := by decide +kernel
theorem s_X11_within_2 {ca : Nat → List Value → tM → tO} {M : tM} {L : tL} {x : Int32} {S : List Value} : rn ca C_X11_within 2 L (.int x :: S) M = rn ca C_X11_within 3 L (.long x.toInt64 :: S) M := (rn_at k_X11_within_2).trans rfl
theorem k_X11_within_3 : lk 3 C_X11_within = some (.invokevirtual 114, (149, 1, 11, 302)) := by decide +kernel
theorem s_X11_within_3 {ca : Nat → List Value → tM → tO} {M : tM} {L : tL} {v1 : Value} {b : Nat} : rn ca C_X11_within 3 L [v1, .ref b] M = if clsO b = some 11 then rnk ca C_X11_within 6 L [] (ca m_X11_isCapsule [.ref b, v1] M) else none := (rn_at k_X11_within_3).trans rnx_ite
theorem k_X11_within_6 : lk 6 C_X11_within = some (.ifCond .ne 9, (15, 0, 0, 0)) := by decide +kernel
theorem s_X11_within_6 {ca : Nat → List Value → tM → tO} {M : tM} {L : tL} {x : Int32} {S : List Value} : rn ca C_X11_within 6 L (.int x :: S) M = if ¬ x = iI 0 then rn ca C_X11_within 15 L S M else rn ca C_X11_within 9 L S M := (rn_at k_X11_within_6).trans rnx_ite
theorem k_X11_within_9 : lk 9 C_X11_within = some (.aload_n 0, (0, 0, 0, 0)) := by decide +kernel
theorem s_X11_within_9 {ca : Nat → List Value → tM → tO} {M : tM} {a1 a2 a3 a4 : Option Value} {x : Nat} {S : List Value} : rn ca C_X11_within 9 [some (.ref x), a1, a2, a3, a4] S M = rn ca C_X11_within 10 [some (.ref x), a1, a2, a3, a4] (.ref x :: S) M := (rn_at k_X11_within_9).trans rfl
theorem k_X11_within_10 : lk 10 C_X11_within = some (.iconst (-1), (0, 0, 0, 0)) := by decide +kernel
theorem s_X11_within_10 {ca : Nat → List Value → tM → tO} {M : tM} {L : tL} {S : List Value} : rn ca C_X11_within 10 L S M = rn ca C_X11_within 11 L (.int (iI (-1)) :: S) M := (rn_at k_X11_within_10).trans rfl
theorem k_X11_within_11 : lk 11 C_X11_within = some (.invokevirtual 83, (144, 1, 11, 200)) := by decide +kernel
theorem s_X11_within_11 {ca : Nat → List Value → tM → tO} {M : tM} {L : tL} {v1 : Value} {b : Nat} : rn ca C_X11_within 11 L [v1, .ref b] M = if clsO b = some 11 then rnk ca C_X11_within 14 L [] (ca m_X11_refuse [.ref b, v1] M) else none := (rn_at k_X11_within_11).trans rnx_ite
theorem k_X11_within_14 : lk 14 C_X11_within = some (.ireturn, (0, 0, 0, 0)) := by decide +kernel
theorem s_X11_within_14 {ca : Nat → List Value → tM → tO} {M : tM} {L : tL} {x : Int32} : rn ca C_X11_within 14 L [.int x] M = some (some (.int x), M) := (rn_at k_X11_within_14).trans rfl
theorem k_X11_within_15 : lk 15 C_X11_within = some (.iload_n 2, (0, 0, 0, 0)) := by decide +kernel
theorem s_X11_within_15 {ca : Nat → List Value → tM → tO} {M : tM} {a0 a1 a3 a4 : Option Value} {x : Int32} {S : List Value} : rn ca C_X11_within 15 [a0, a1, some (.int x), a3, a4] S M = rn ca C_X11_within 16 [a0, a1, some (.int x), a3, a4] (.int x :: S) M := (rn_at k_X11_within_15).trans rfl
theorem k_X11_within_16 : lk 16 C_X11_within = some (.i2l, (0, 0, 0, 0)) := by decide +kernel
theorem s_X11_within_16 {ca : Nat → List Value → tM → tO} {M : tM} {L : tL} {x : Int32} {S : List Value} : rn ca C_X11_within 16 L (.int x :: S) M = rn ca C_X11_within 17 L (.long x.toInt64 :: S) M := (rn_at k_X11_within_16).trans rfl
theorem k_X11_within_17 : lk 17 C_X11_within = some (.ldc2_w 248, (0, 0, -1, 815)) := by decide +kernel
theorem s_X11_within_17 {ca : Nat → List Value → tM → tO} {M : tM} {L : tL} {S : List Value} : rn ca C_X11_within 17 L S M = rn ca C_X11_within 20 L (.long (jJ (-1)) :: S) M := (rn_at k_X11_within_17).trans rfl
theorem k_X11_within_20 : lk 20 C_X11_within = some (.ldc2_w 250, (0, 0, 500, 816)) := by decide +kernel
theorem s_X11_within_20 {ca : Nat → List Value → tM → tO} {M : tM} {L : tL} {S : List Value} : rn ca C_X11_within 20 L S M = rn ca C_X11_within 23 L (.long (jJ 500) :: S) M := (rn_at k_X11_within_20).trans rfl
theorem k_X11_within_23 : lk 23 C_X11_within = some (.invokestatic 87, (143, 3, 0, 197)) := by decide +kernel
theorem s_X11_within_23 {ca : Nat → List Value → tM → tO} {M : tM} {L : tL} {v1 v2 v3 : Value} : rn ca C_X11_within 23 L [v3, v2, v1] M = rnk ca C_X11_within 26 L [] (ca m_X11_isIn [v1, v2, v3] M) := (rn_at k_X11_within_23).trans rfl
theorem k_X11_within_26 : lk 26 C_X11_within = some (.ifCond .ne 10, (36, 0, 0, 0)) := by decide +kernel
theorem s_X11_within_26 {ca : Nat → List Value → tM → tO} {M : tM} {L : tL} {x : Int32} {S : List Value} : rn ca C_X11_within 26 L (.int x :: S) M = if ¬ x = iI 0 then rn ca C_X11_within 36 L S M else rn ca C_X11_within 29 L S M := (rn_at k_X11_within_26).trans rnx_ite
theorem k_X11_within_29 : lk 29 C_X11_within = some (.aload_n 0, (0, 0, 0, 0)) := by decide +kernel
theorem s_X11_within_29 {ca : Nat → List Value → tM → tO} {M : tM} {a1 a2 a3 a4 : Option Value} {x : Nat} {S : List Value} : rn ca C_X11_within 29 [some (.ref x), a1, a2, a3, a4] S M = rn ca C_X11_within 30 [some (.ref x), a1, a2, a3, a4] (.ref x :: S) M := (rn_at k_X11_within_29).trans rfl
theorem k_X11_within_30 : lk 30 C_X11_within = some (.bipush (-6), (0, 0, 0, 0)) := by decide +kernel
theorem s_X11_within_30 {ca : Nat → List Value → tM → tO} {M : tM} {L : tL} {S : List Value} : rn ca C_X11_within 30 L S M = rn ca C_X11_within 32 L (.int (iI (-6)) :: S) M := (rn_at k_X11_within_30).trans rfl
theorem k_X11_within_32 : lk 32 C_X11_within = some (.invokevirtual 83, (144, 1, 11, 200)) := by decide +kernel
theorem s_X11_within_32 {ca : Nat → List Value → tM → tO} {M : tM} {L : tL} {v1 : Value} {b : Nat} : rn ca C_X11_within 32 L [v1, .ref b] M = if clsO b = some 11 then rnk ca C_X11_within 35 L [] (ca m_X11_refuse [.ref b, v1] M) else none := (rn_at k_X11_within_32).trans rnx_ite
theorem k_X11_within_35 : lk 35 C_X11_within = some (.ireturn, (0, 0, 0, 0)) := by decide +kernel
theorem s_X11_within_35 {ca : Nat → List Value → tM → tO} {M : tM} {L : tL} {x : Int32} : rn ca C_X11_within 35 L [.int x] M = some (some (.int x), M) := (rn_at k_X11_within_35).trans rfl
theorem k_X11_within_36 : lk 36 C_X11_within = some (.iconst 0, (0, 0, 0, 0)) := by decide +kernel
theorem s_X11_within_36 {ca : Nat → List Value → tM → tO} {M : tM} {L : tL} {S : List Value} : rn ca C_X11_within 36 L S M = rn ca C_X11_within 37 L (.int (iI 0) :: S) M := (rn_at k_X11_within_36).trans rfl
theorem k_X11_within_37 : lk 37 C_X11_within = some (.istore_n 3, (0, 0, 0, 0)) := by decide +kernel
theorem s_X11_within_37 {ca : Nat → List Value → tM → tO} {M : tM} {a0 a1 a2 a3 a4 : Option Value} {x : Int32} {S : List Value} : rn ca C_X11_within 37 [a0, a1, a2, a3, a4] (.int x :: S) M = rn ca C_X11_within 38 [a0, a1, a2, some (.int x), a4] S M := (rn_at k_X11_within_37).trans rfl
theorem k_X11_within_38 : lk 38 C_X11_within = some (.iload_n 2, (0, 0, 0, 0)) := by decide +kernel
theorem s_X11_within_38 {ca : Nat → List Value → tM → tO} {M : tM} {a0 a1 a3 a4 : Option Value} {x : Int32} {S : List Value} : rn ca C_X11_within 38 [a0, a1, some (.int x), a3, a4] S M = rn ca C_X11_within 39 [a0, a1, some (.int x), a3, a4] (.int x :: S) M := (rn_at k_X11_within_38).trans rfl
theorem k_X11_within_39 : lk 39 C_X11_within = some (.iconst (-1), (0, 0, 0, 0)) := by decide +kernel
theorem s_X11_within_39 {ca : Nat → List Value → tM → tO} {M : tM} {L : tL} {S : List Value} : rn ca C_X11_within 39 L S M = rn ca C_X11_within 40 L (.int (iI (-1)) :: S) M := (rn_at k_X11_within_39).trans rfl
theorem k_X11_within_40 : lk 40 C_X11_within = some (.if_icmp .ne 48, (88, 0, 0, 0)) := by decide +kernel
theorem s_X11_within_40 {ca : Nat → List Value → tM → tO} {M : tM} {L : tL} {x y : Int32} {S : List Value} : rn ca C_X11_within 40 L (.int y :: .int x :: S) M = if ¬ x = y then rn ca C_X11_within 88 L S M else rn ca C_X11_within 43 L S M := (rn_at k_X11_within_40).trans rnx_ite
theorem k_X11_within_43 : lk 43 C_X11_within = some (.iconst 0, (0, 0, 0, 0)) := by decide +kernel
theorem s_X11_within_43 {ca : Nat → List Value → tM → tO} {M : tM} {L : tL} {S : List Value} : rn ca C_X11_within 43 L S M = rn ca C_X11_within 44 L (.int (iI 0) :: S) M := (rn_at k_X11_within_43).trans rfl
theorem k_X11_within_44 : lk 44 C_X11_within = some (.istore 4, (0, 0, 0, 0)) := by decide +kernel
theorem s_X11_within_44 {ca : Nat → List Value → tM → tO} {M : tM} {a0 a1 a2 a3 a4 : Option Value} {x : Int32} {S : List Value} : rn ca C_X11_within 44 [a0, a1, a2, a3, a4] (.int x :: S) M = rn ca C_X11_within 46 [a0, a1, a2, a3, some (.int x)] S M := (rn_at k_X11_within_44).trans rfl
theorem k_X11_within_46 : lk 46 C_X11_within = some (.iload 4, (0, 0, 0, 0)) := by decide +kernel
theorem s_X11_within_46 {ca : Nat → List Value → tM → tO} {M : tM} {a0 a1 a2 a3 : Option Value} {x : Int32} {S : List Value} : rn ca C_X11_within 46 [a0, a1, a2, a3, some (.int x)] S M = rn ca C_X11_within 48 [a0, a1, a2, a3, some (.int x)] (.int x :: S) M := (rn_at k_X11_within_46).trans rfl
theorem k_X11_within_48 : lk 48 C_X11_within = some (.aload_n 0, (0, 0, 0, 0)) := by decide +kernel
theorem s_X11_within_48 {ca : Nat → List Value → tM → tO} {M : tM} {a1 a2 a3 a4 : Option Value} {x : Nat} {S : List Value} : rn ca C_X11_within 48 [some (.ref x), a1, a2, a3, a4] S M = rn ca C_X11_within 49 [some (.ref x), a1, a2, a3, a4] (.ref x :: S) M := (rn_at k_X11_within_48).trans rfl
theorem k_X11_within_49 : lk 49 C_X11_within = some (.getfield 17, (11, 1, 0, 147)) := by decide +kernel
theorem s_X11_within_49 {ca : Nat → List Value → tM → tO} {M : tM} {L : tL} {b : Nat} {S : List Value} : rn ca C_X11_within 49 L (.ref b :: S) M = if clsO b = some 11 then rn ca C_X11_within 52 L (fv M b 1 :: S) M else none := (rn_at k_X11_within_49).trans rnx_ite
theorem k_X11_within_52 : lk 52 C_X11_within = some (.bipush 109, (0, 0, 0, 0)) := by decide +kernel
theorem s_X11_within_52 {ca : Nat → List Value → tM → tO} {M : tM} {L : tL} {S : List Value} : rn ca C_X11_within 52 L S M = rn ca C_X11_within 54 L (.int (iI 109) :: S) M := (rn_at k_X11_within_52).trans rfl
theorem k_X11_within_54 : lk 54 C_X11_within = some (.iaload, (0, 0, 0, 0)) := by decide +kernel
theorem s_X11_within_54 {ca : Nat → List Value → tM → tO} {M : tM} {L : tL} {a : Nat} {i : Int32} {S : List Value} : rn ca C_X11_within 54 L (.int i :: .ref a :: S) M = if (akind a = 0 ∨ akind a = 6 ∨ akind a = 7) ∧ inb i (alen M a) then rn ca C_X11_within 55 L (.int (M.1 a i.toInt.toNat) :: S) M else none := (rn_at k_X11_within_54).trans rnx_ite
theorem k_X11_within_55 : lk 55 C_X11_within = some (.if_icmp .ge 31, (86, 0, 0, 0)) := by decide +kernel
theorem s_X11_within_55 {ca : Nat → List Value → tM → tO} {M : tM} {L : tL} {x y : Int32} {S : List Value} : rn ca C_X11_within 55 L (.int y :: .int x :: S) M = if y ≤ x then rn ca C_X11_within 86 L S M else rn ca C_X11_within 58 L S M := (rn_at k_X11_within_55).trans rnx_ite
theorem k_X11_within_58 : lk 58 C_X11_within = some (.iload_n 3, (0, 0, 0, 0)) := by decide +kernel
theorem s_X11_within_58 {ca : Nat → List Value → tM → tO} {M : tM} {a0 a1 a2 a4 : Option Value} {x : Int32} {S : List Value} : rn ca C_X11_within 58 [a0, a1, a2, some (.int x), a4] S M = rn ca C_X11_within 59 [a0, a1, a2, some (.int x), a4] (.int x :: S) M := (rn_at k_X11_within_58).trans rfl
theorem k_X11_within_59 : lk 59 C_X11_within = some (.aload_n 0, (0, 0, 0, 0)) := by decide +kernel
theorem s_X11_within_59 {ca : Nat → List Value → tM → tO} {M : tM} {a1 a2 a3 a4 : Option Value} {x : Nat} {S : List Value} : rn ca C_X11_within 59 [some (.ref x), a1, a2, a3, a4] S M = rn ca C_X11_within 60 [some (.ref x), a1, a2, a3, a4] (.ref x :: S) M := (rn_at k_X11_within_59).trans rfl
theorem k_X11_within_60 : lk 60 C_X11_within = some (.iload_n 1, (0, 0, 0, 0)) := by decide +kernel
theorem s_X11_within_60 {ca : Nat → List Value → tM → tO} {M : tM} {a0 a2 a3 a4 : Option Value} {x : Int32} {S : List Value} : rn ca C_X11_within 60 [a0, some (.int x), a2, a3, a4] S M = rn ca C_X11_within 61 [a0, some (.int x), a2, a3, a4] (.int x :: S) M := (rn_at k_X11_within_60).trans rfl
theorem k_X11_within_61 : lk 61 C_X11_within = some (.iload 4, (0, 0, 0, 0)) := by decide +kernel
theorem s_X11_within_61 {ca : Nat → List Value → tM → tO} {M : tM} {a0 a1 a2 a3 : Option Value} {x : Int32} {S : List Value} : rn ca C_X11_within 61 [a0, a1, a2, a3, some (.int x)] S M = rn ca C_X11_within 63 [a0, a1, a2, a3, some (.int x)] (.int x :: S) M := (rn_at k_X11_within_61).trans rfl
theorem k_X11_within_63 : lk 63 C_X11_within = some (.iconst 0, (0, 0, 0, 0)) := by decide +kernel
theorem s_X11_within_63 {ca : Nat → List Value → tM → tO} {M : tM} {L : tL} {S : List Value} : rn ca C_X11_within 63 L S M = rn ca C_X11_within 64 L (.int (iI 0) :: S) M := (rn_at k_X11_within_63).trans rfl
theorem k_X11_within_64 : lk 64 C_X11_within = some (.invokevirtual 217, (189, 3, 11, 761)) := by decide +kernel
theorem s_X11_within_64 {ca : Nat → List Value → tM → tO} {M : tM} {L : tL} {v1 v2 v3 : Value} {r0 : Int32} {b : Nat} : rn ca C_X11_within 64 L [v3, v2, v1, .ref b, .int r0] M = if clsO b = some 11 then rnk ca C_X11_within 67 L [.int r0] (ca m_X11_may [.ref b, v1, v2, v3] M) else none := (rn_at k_X11_within_64).trans rnx_ite
theorem k_X11_within_67 : lk 67 C_X11_within = some (.ifCond .eq 10, (77, 0, 0, 0)) := by decide +kernel
theorem s_X11_within_67 {ca : Nat → List Value → tM → tO} {M : tM} {L : tL} {x : Int32} {S : List Value} : rn ca C_X11_within 67 L (.int x :: S) M = if x = iI 0 then rn ca C_X11_within 77 L S M else rn ca C_X11_within 70 L S M := (rn_at k_X11_within_67).trans rnx_ite
theorem k_X11_within_70 : lk 70 C_X11_within = some (.iconst 1, (0, 0, 0, 0)) := by decide +kernel
theorem s_X11_within_70 {ca : Nat → List Value → tM → tO} {M : tM} {L : tL} {S : List Value} : rn ca C_X11_within 70 L S M = rn ca C_X11_within 71 L (.int (iI 1) :: S) M := (rn_at k_X11_within_70).trans rfl
theorem k_X11_within_71 : lk 71 C_X11_within = some (.iload 4, (0, 0, 0, 0)) := by decide +kernel
theorem s_X11_within_71 {ca : Nat → List Value → tM → tO} {M : tM} {a0 a1 a2 a3 : Option Value} {x : Int32} {S : List Value} : rn ca C_X11_within 71 [a0, a1, a2, a3, some (.int x)] S M = rn ca C_X11_within 73 [a0, a1, a2, a3, some (.int x)] (.int x :: S) M := (rn_at k_X11_within_71).trans rfl
theorem k_X11_within_73 : lk 73 C_X11_within = some (.ishl, (0, 0, 0, 0)) := by decide +kernel
theorem s_X11_within_73 {ca : Nat → List Value → tM → tO} {M : tM} {L : tL} {x y : Int32} {S : List Value} : rn ca C_X11_within 73 L (.int y :: .int x :: S) M = rn ca C_X11_within 74 L (.int (x <<< (y &&& 31)) :: S) M := (rn_at k_X11_within_73).trans rfl
theorem k_X11_within_74 : lk 74 C_X11_within = some (.goto 4, (78, 0, 0, 0)) := by decide +kernel
theorem s_X11_within_74 {ca : Nat → List Value → tM → tO} {M : tM} {L : tL} {S : List Value} : rn ca C_X11_within 74 L S M = rn ca C_X11_within 78 L S M := (rn_at k_X11_within_74).trans rfl
theorem k_X11_within_77 : lk 77 C_X11_within = some (.iconst 0, (0, 0, 0, 0)) := by decide +kernel
theorem s_X11_within_77 {ca : Nat → List Value → tM → tO} {M : tM} {L : tL} {S : List Value} : rn ca C_X11_within 77 L S M = rn ca C_X11_within 78 L (.int (iI 0) :: S) M := (rn_at k_X11_within_77).trans rfl
theorem k_X11_within_78 : lk 78 C_X11_within = some (.ior, (0, 0, 0, 0)) := by decide +kernel
theorem s_X11_within_78 {ca : Nat → List Value → tM → tO} {M : tM} {L : tL} {x y : Int32} {S : List Value} : rn ca C_X11_within 78 L (.int y :: .int x :: S) M = rn ca C_X11_within 79 L (.int (x ||| y) :: S) M := (rn_at k_X11_within_78).trans rfl
theorem k_X11_within_79 : lk 79 C_X11_within = some (.istore_n 3, (0, 0, 0, 0)) := by decide +kernel
theorem s_X11_within_79 {ca : Nat → List Value → tM → tO} {M : tM} {a0 a1 a2 a3 a4 : Option Value} {x : Int32} {S : List Value} : rn ca C_X11_within 79 [a0, a1, a2, a3, a4] (.int x :: S) M = rn ca C_X11_within 80 [a0, a1, a2, some (.int x), a4] S M := (rn_at k_X11_within_79).trans rfl
theorem k_X11_within_80 : lk 80 C_X11_within = some (.iinc 4 1, (0, 0, 0, 0)) := by decide +kernel
theorem s_X11_within_80 {ca : Nat → List Value → tM → tO} {M : tM} {a0 a1 a2 a3 : Option Value} {x : Int32} {S : List Value} : rn ca C_X11_within 80 [a0, a1, a2, a3, some (.int x)] S M = rn ca C_X11_within 83 [a0, a1, a2, a3, some (.int (x + iI 1))] S M := (rn_at k_X11_within_80).trans rfl
theorem k_X11_within_83 : lk 83 C_X11_within = some (.goto (-37), (46, 0, 0, 0)) := by decide +kernel
theorem s_X11_within_83 {ca : Nat → List Value → tM → tO} {M : tM} {L : tL} {S : List Value} : rn ca C_X11_within 83 L S M = rn ca C_X11_within 46 L S M := (rn_at k_X11_within_83).trans rfl
theorem k_X11_within_86 : lk 86 C_X11_within = some (.iload_n 3, (0, 0, 0, 0)) := by decide +kernel
theorem s_X11_within_86 {ca : Nat → List Value → tM → tO} {M : tM} {a0 a1 a2 a4 : Option Value} {x : Int32} {S : List Value} : rn ca C_X11_within 86 [a0, a1, a2, some (.int x), a4] S M = rn ca C_X11_within 87 [a0, a1, a2, some (.int x), a4] (.int x :: S) M := (rn_at k_X11_within_86).trans rfl
theorem k_X11_within_87 : lk 87 C_X11_within = some (.ireturn, (0, 0, 0, 0)) := by decide +kernel
theorem s_X11_within_87 {ca : Nat → List Value → tM → tO} {M : tM} {L : tL} {x : Int32} : rn ca C_X11_within 87 L [.int x] M = some (some (.int x), M) := (rn_at k_X11_within_87).trans rfl
theorem k_X11_within_88 : lk 88 C_X11_within = some (.aload_n 0, (0, 0, 0, 0)) := by decide +kernel
theorem s_X11_within_88 {ca : Nat → List Value → tM → tO} {M : tM} {a1 a2 a3 a4 : Option Value} {x : Nat} {S : List Value} : rn ca C_X11_within 88 [some (.ref x), a1, a2, a3, a4] S M = rn ca C_X11_within 89 [some (.ref x), a1, a2, a3, a4] (.ref x :: S) M := (rn_at k_X11_within_88).trans rfl
theorem k_X11_within_89 : lk 89 C_X11_within = some (.iload_n 1, (0, 0, 0, 0)) := by decide +kernel
theorem s_X11_within_89 {ca : Nat → List Value → tM → tO} {M : tM} {a0 a2 a3 a4 : Option Value} {x : Int32} {S : List Value} : rn ca C_X11_within 89 [a0, some (.int x), a2, a3, a4] S M = rn ca C_X11_within 90 [a0, some (.int x), a2, a3, a4] (.int x :: S) M := (rn_at k_X11_within_89).trans rfl
theorem k_X11_within_90 : lk 90 C_X11_within = some (.iconst 0, (0, 0, 0, 0)) := by decide +kernel
theorem s_X11_within_90 {ca : Nat → List Value → tM → tO} {M : tM} {L : tL} {S : List Value} : rn ca C_X11_within 90 L S M = rn ca C_X11_within 91 L (.int (iI 0) :: S) M := (rn_at k_X11_within_90).trans rfl
theorem k_X11_within_91 : lk 91 C_X11_within = some (.invokevirtual 238, (195, 2, 11, 753)) := by decide +kernel
theorem s_X11_within_91 {ca : Nat → List Value → tM → tO} {M : tM} {L : tL} {v1 v2 : Value} {b : Nat} : rn ca C_X11_within 91 L [v2, v1, .ref b] M = if clsO b = some 11 then rnk ca C_X11_within 94 L [] (ca m_X11_fill [.ref b, v1, v2] M) else none := (rn_at k_X11_within_91).trans rnx_ite
theorem k_X11_within_94 : lk 94 C_X11_within = some (.iconst 0, (0, 0, 0, 0)) := by decide +kernel
theorem s_X11_within_94 {ca : Nat → List Value → tM → tO} {M : tM} {L : tL} {S : List Value} : rn ca C_X11_within 94 L S M = rn ca C_X11_within 95 L (.int (iI 0) :: S) M := (rn_at k_X11_within_94).trans rfl
theorem k_X11_within_95 : lk 95 C_X11_within = some (.istore 4, (0, 0, 0, 0)) := by decide +kernel
theorem s_X11_within_95 {ca : Nat → List Value → tM → tO} {M : tM} {a0 a1 a2 a3 a4 : Option Value} {x : Int32} {S : List Value} : rn ca C_X11_within 95 [a0, a1, a2, a3, a4] (.int x :: S) M = rn ca C_X11_within 97 [a0, a1, a2, a3, some (.int x)] S M := (rn_at k_X11_within_95).trans rfl
theorem k_X11_within_97 : lk 97 C_X11_within = some (.iload 4, (0, 0, 0, 0)) := by decide +kernel
theorem s_X11_within_97 {ca : Nat → List Value → tM → tO} {M : tM} {a0 a1 a2 a3 : Option Value} {x : Int32} {S : List Value} : rn ca C_X11_within 97 [a0, a1, a2, a3, some (.int x)] S M = rn ca C_X11_within 99 [a0, a1, a2, a3, some (.int x)] (.int x :: S) M := (rn_at k_X11_within_97).trans rfl
theorem k_X11_within_99 : lk 99 C_X11_within = some (.aload_n 0, (0, 0, 0, 0)) := by decide +kernel
theorem s_X11_within_99 {ca : Nat → List Value → tM → tO} {M : tM} {a1 a2 a3 a4 : Option Value} {x : Nat} {S : List Value} : rn ca C_X11_within 99 [some (.ref x), a1, a2, a3, a4] S M = rn ca C_X11_within 100 [some (.ref x), a1, a2, a3, a4] (.ref x :: S) M := (rn_at k_X11_within_99).trans rfl
theorem k_X11_within_100 : lk 100 C_X11_within = some (.getfield 17, (11, 1, 0, 147)) := by decide +kernel
theorem s_X11_within_100 {ca : Nat → List Value → tM → tO} {M : tM} {L : tL} {b : Nat} {S : List Value} : rn ca C_X11_within 100 L (.ref b :: S) M = if clsO b = some 11 then rn ca C_X11_within 103 L (fv M b 1 :: S) M else none := (rn_at k_X11_within_100).trans rnx_ite
theorem k_X11_within_103 : lk 103 C_X11_within = some (.bipush 108, (0, 0, 0, 0)) := by decide +kernel
theorem s_X11_within_103 {ca : Nat → List Value → tM → tO} {M : tM} {L : tL} {S : List Value} : rn ca C_X11_within 103 L S M = rn ca C_X11_within 105 L (.int (iI 108) :: S) M := (rn_at k_X11_within_103).trans rfl
theorem k_X11_within_105 : lk 105 C_X11_within = some (.iaload, (0, 0, 0, 0)) := by decide +kernel
theorem s_X11_within_105 {ca : Nat → List Value → tM → tO} {M : tM} {L : tL} {a : Nat} {i : Int32} {S : List Value} : rn ca C_X11_within 105 L (.int i :: .ref a :: S) M = if (akind a = 0 ∨ akind a = 6 ∨ akind a = 7) ∧ inb i (alen M a) then rn ca C_X11_within 106 L (.int (M.1 a i.toInt.toNat) :: S) M else none := (rn_at k_X11_within_105).trans rnx_ite
theorem k_X11_within_106 : lk 106 C_X11_within = some (.if_icmp .ge 31, (137, 0, 0, 0)) := by decide +kernel
theorem s_X11_within_106 {ca : Nat → List Value → tM → tO} {M : tM} {L : tL} {x y : Int32} {S : List Value} : rn ca C_X11_within 106 L (.int y :: .int x :: S) M = if y ≤ x then rn ca C_X11_within 137 L S M else rn ca C_X11_within 109 L S M := (rn_at k_X11_within_106).trans rnx_ite
theorem k_X11_within_109 : lk 109 C_X11_within = some (.iload_n 3, (0, 0, 0, 0)) := by decide +kernel
theorem s_X11_within_109 {ca : Nat → List Value → tM → tO} {M : tM} {a0 a1 a2 a4 : Option Value} {x : Int32} {S : List Value} : rn ca C_X11_within 109 [a0, a1, a2, some (.int x), a4] S M = rn ca C_X11_within 110 [a0, a1, a2, some (.int x), a4] (.int x :: S) M := (rn_at k_X11_within_109).trans rfl
theorem k_X11_within_110 : lk 110 C_X11_within = some (.aload_n 0, (0, 0, 0, 0)) := by decide +kernel
theorem s_X11_within_110 {ca : Nat → List Value → tM → tO} {M : tM} {a1 a2 a3 a4 : Option Value} {x : Nat} {S : List Value} : rn ca C_X11_within 110 [some (.ref x), a1, a2, a3, a4] S M = rn ca C_X11_within 111 [some (.ref x), a1, a2, a3, a4] (.ref x :: S) M := (rn_at k_X11_within_110).trans rfl
theorem k_X11_within_111 : lk 111 C_X11_within = some (.iload_n 1, (0, 0, 0, 0)) := by decide +kernel
theorem s_X11_within_111 {ca : Nat → List Value → tM → tO} {M : tM} {a0 a2 a3 a4 : Option Value} {x : Int32} {S : List Value} : rn ca C_X11_within 111 [a0, some (.int x), a2, a3, a4] S M = rn ca C_X11_within 112 [a0, some (.int x), a2, a3, a4] (.int x :: S) M := (rn_at k_X11_within_111).trans rfl
theorem k_X11_within_112 : lk 112 C_X11_within = some (.iload 4, (0, 0, 0, 0)) := by decide +kernel
theorem s_X11_within_112 {ca : Nat → List Value → tM → tO} {M : tM} {a0 a1 a2 a3 : Option Value} {x : Int32} {S : List Value} : rn ca C_X11_within 112 [a0, a1, a2, a3, some (.int x)] S M = rn ca C_X11_within 114 [a0, a1, a2, a3, some (.int x)] (.int x :: S) M := (rn_at k_X11_within_112).trans rfl
theorem k_X11_within_114 : lk 114 C_X11_within = some (.invokevirtual 230, (196, 2, 11, 790)) := by decide +kernel
theorem s_X11_within_114 {ca : Nat → List Value → tM → tO} {M : tM} {L : tL} {v1 v2 : Value} {r0 : Int32} {b : Nat} : rn ca C_X11_within 114 L [v2, v1, .ref b, .int r0] M = if clsO b = some 11 then rnk ca C_X11_within 117 L [.int r0] (ca m_X11_way [.ref b, v1, v2] M) else none := (rn_at k_X11_within_114).trans rnx_ite
theorem k_X11_within_117 : lk 117 C_X11_within = some (.iload_n 2, (0, 0, 0, 0)) := by decide +kernel
theorem s_X11_within_117 {ca : Nat → List Value → tM → tO} {M : tM} {a0 a1 a3 a4 : Option Value} {x : Int32} {S : List Value} : rn ca C_X11_within 117 [a0, a1, some (.int x), a3, a4] S M = rn ca C_X11_within 118 [a0, a1, some (.int x), a3, a4] (.int x :: S) M := (rn_at k_X11_within_117).trans rfl
theorem k_X11_within_118 : lk 118 C_X11_within = some (.if_icmp .gt 10, (128, 0, 0, 0)) := by decide +kernel
theorem s_X11_within_118 {ca : Nat → List Value → tM → tO} {M : tM} {L : tL} {x y : Int32} {S : List Value} : rn ca C_X11_within 118 L (.int y :: .int x :: S) M = if y < x then rn ca C_X11_within 128 L S M else rn ca C_X11_within 121 L S M := (rn_at k_X11_within_118).trans rnx_ite
theorem k_X11_within_121 : lk 121 C_X11_within = some (.iconst 1, (0, 0, 0, 0)) := by decide +kernel
theorem s_X11_within_121 {ca : Nat → List Value → tM → tO} {M : tM} {L : tL} {S : List Value} : rn ca C_X11_within 121 L S M = rn ca C_X11_within 122 L (.int (iI 1) :: S) M := (rn_at k_X11_within_121).trans rfl
theorem k_X11_within_122 : lk 122 C_X11_within = some (.iload 4, (0, 0, 0, 0)) := by decide +kernel
theorem s_X11_within_122 {ca : Nat → List Value → tM → tO} {M : tM} {a0 a1 a2 a3 : Option Value} {x : Int32} {S : List Value} : rn ca C_X11_within 122 [a0, a1, a2, a3, some (.int x)] S M = rn ca C_X11_within 124 [a0, a1, a2, a3, some (.int x)] (.int x :: S) M := (rn_at k_X11_within_122).trans rfl
theorem k_X11_within_124 : lk 124 C_X11_within = some (.ishl, (0, 0, 0, 0)) := by decide +kernel
theorem s_X11_within_124 {ca : Nat → List Value → tM → tO} {M : tM} {L : tL} {x y : Int32} {S : List Value} : rn ca C_X11_within 124 L (.int y :: .int x :: S) M = rn ca C_X11_within 125 L (.int (x <<< (y &&& 31)) :: S) M := (rn_at k_X11_within_124).trans rfl
theorem k_X11_within_125 : lk 125 C_X11_within = some (.goto 4, (129, 0, 0, 0)) := by decide +kernel
theorem s_X11_within_125 {ca : Nat → List Value → tM → tO} {M : tM} {L : tL} {S : List Value} : rn ca C_X11_within 125 L S M = rn ca C_X11_within 129 L S M := (rn_at k_X11_within_125).trans rfl
theorem k_X11_within_128 : lk 128 C_X11_within = some (.iconst 0, (0, 0, 0, 0)) := by decide +kernel
theorem s_X11_within_128 {ca : Nat → List Value → tM → tO} {M : tM} {L : tL} {S : List Value} : rn ca C_X11_within 128 L S M = rn ca C_X11_within 129 L (.int (iI 0) :: S) M := (rn_at k_X11_within_128).trans rfl
theorem k_X11_within_129 : lk 129 C_X11_within = some (.ior, (0, 0, 0, 0)) := by decide +kernel
theorem s_X11_within_129 {ca : Nat → List Value → tM → tO} {M : tM} {L : tL} {x y : Int32} {S : List Value} : rn ca C_X11_within 129 L (.int y :: .int x :: S) M = rn ca C_X11_within 130 L (.int (x ||| y) :: S) M := (rn_at k_X11_within_129).trans rfl
theorem k_X11_within_130 : lk 130 C_X11_within = some (.istore_n 3, (0, 0, 0, 0)) := by decide +kernel
theorem s_X11_within_130 {ca : Nat → List Value → tM → tO} {M : tM} {a0 a1 a2 a3 a4 : Option Value} {x : Int32} {S : List Value} : rn ca C_X11_within 130 [a0, a1, a2, a3, a4] (.int x :: S) M = rn ca C_X11_within 131 [a0, a1, a2, some (.int x), a4] S M := (rn_at k_X11_within_130).trans rfl
theorem k_X11_within_131 : lk 131 C_X11_within = some (.iinc 4 1, (0, 0, 0, 0)) := by decide +kernel
theorem s_X11_within_131 {ca : Nat → List Value → tM → tO} {M : tM} {a0 a1 a2 a3 : Option Value} {x : Int32} {S : List Value} : rn ca C_X11_within 131 [a0, a1, a2, a3, some (.int x)] S M = rn ca C_X11_within 134 [a0, a1, a2, a3, some (.int (x + iI 1))] S M := (rn_at k_X11_within_131).trans rfl
theorem k_X11_within_134 : lk 134 C_X11_within = some (.goto (-37), (97, 0, 0, 0)) := by decide +kernel
theorem s_X11_within_134 {ca : Nat → List Value → tM → tO} {M : tM} {L : tL} {S : List Value} : rn ca C_X11_within 134 L S M = rn ca C_X11_within 97 L S M := (rn_at k_X11_within_134).trans rfl
theorem k_X11_within_137 : lk 137 C_X11_within = some (.iload_n 3, (0, 0, 0, 0)) := by decide +kernel
theorem s_X11_within_137 {ca : Nat → List Value → tM → tO} {M : tM} {a0 a1 a2 a4 : Option Value} {x : Int32} {S : List Value} : rn ca C_X11_within 137 [a0, a1, a2, some (.int x), a4] S M = rn ca C_X11_within 138 [a0, a1, a2, some (.int x), a4] (.int x :: S) M := (rn_at k_X11_within_137).trans rfl
theorem k_X11_within_138 : lk 138 C_X11_within = some (.ireturn, (0, 0, 0, 0)) := by decide +kernel
theorem s_X11_within_138 {ca : Nat → List Value → tM → tO} {M : tM} {L : tL} {x : Int32} : rn ca C_X11_within 138 L [.int x] M = some (some (.int x), M) := (rn_at k_X11_within_138).trans rfl
theorem k_X11_ones_0 : lk 0 C_X11_ones = some (.iconst 0, (0, 0, 0, 0)) := by decide +kernel
theorem s_X11_ones_0 {ca : Nat → List Value → tM → tO} {M : tM} {L : tL} {S : List Value} : rn ca C_X11_ones 0 L S M = rn ca C_X11_ones 1 L (.int (iI 0) :: S) M := (rn_at k_X11_ones_0).trans rfl
theorem k_X11_ones_1 : lk 1 C_X11_ones = some (.istore_n 1, (0, 0, 0, 0)) := by decide +kernel
theorem s_X11_ones_1 {ca : Nat → List Value → tM → tO} {M : tM} {a0 a1 a2 : Option Value} {x : Int32} {S : List Value} : rn ca C_X11_ones 1 [a0, a1, a2] (.int x :: S) M = rn ca C_X11_ones 2 [a0, some (.int x), a2] S M := (rn_at k_X11_ones_1).trans rfl
theorem k_X11_ones_2 : lk 2 C_X11_ones = some (.iconst 0, (0, 0, 0, 0)) := by decide +kernel
theorem s_X11_ones_2 {ca : Nat → List Value → tM → tO} {M : tM} {L : tL} {S : List Value} : rn ca C_X11_ones 2 L S M = rn ca C_X11_ones 3 L (.int (iI 0) :: S) M := (rn_at k_X11_ones_2).trans rfl
theorem k_X11_ones_3 : lk 3 C_X11_ones = some (.istore_n 2, (0, 0, 0, 0)) := by decide +kernel
theorem s_X11_ones_3 {ca : Nat → List Value → tM → tO} {M : tM} {a0 a1 a2 : Option Value} {x : Int32} {S : List Value} : rn ca C_X11_ones 3 [a0, a1, a2] (.int x :: S) M = rn ca C_X11_ones 4 [a0, a1, some (.int x)] S M := (rn_at k_X11_ones_3).trans rfl
theorem k_X11_ones_4 : lk 4 C_X11_ones = some (.iload_n 2, (0, 0, 0, 0)) := by decide +kernel
theorem s_X11_ones_4 {ca : Nat → List Value → tM → tO} {M : tM} {a0 a1 : Option Value} {x : Int32} {S : List Value} : rn ca C_X11_ones 4 [a0, a1, some (.int x)] S M = rn ca C_X11_ones 5 [a0, a1, some (.int x)] (.int x :: S) M := (rn_at k_X11_ones_4).trans rfl
theorem k_X11_ones_5 : lk 5 C_X11_ones = some (.bipush 16, (0, 0, 0, 0)) := by decide +kernel
theorem s_X11_ones_5 {ca : Nat → List Value → tM → tO} {M : tM} {L : tL} {S : List Value} : rn ca C_X11_ones 5 L S M = rn ca C_X11_ones 7 L (.int (iI 16) :: S) M := (rn_at k_X11_ones_5).trans rfl
theorem k_X11_ones_7 : lk 7 C_X11_ones = some (.if_icmp .ge 17, (24, 0, 0, 0)) := by decide +kernel
theorem s_X11_ones_7 {ca : Nat → List Value → tM → tO} {M : tM} {L : tL} {x y : Int32} {S : List Value} : rn ca C_X11_ones 7 L (.int y :: .int x :: S) M = if y ≤ x then rn ca C_X11_ones 24 L S M else rn ca C_X11_ones 10 L S M := (rn_at k_X11_ones_7).trans rnx_ite
theorem k_X11_ones_10 : lk 10 C_X11_ones = some (.iload_n 1, (0, 0, 0, 0)) := by decide +kernel
theorem s_X11_ones_10 {ca : Nat → List Value → tM → tO} {M : tM} {a0 a2 : Option Value} {x : Int32} {S : List Value} : rn ca C_X11_ones 10 [a0, some (.int x), a2] S M = rn ca C_X11_ones 11 [a0, some (.int x), a2] (.int x :: S) M := (rn_at k_X11_ones_10).trans rfl
theorem k_X11_ones_11 : lk 11 C_X11_ones = some (.iload_n 0, (0, 0, 0, 0)) := by decide +kernel
theorem s_X11_ones_11 {ca : Nat → List Value → tM → tO} {M : tM} {a1 a2 : Option Value} {x : Int32} {S : List Value} : rn ca C_X11_ones 11 [some (.int x), a1, a2] S M = rn ca C_X11_ones 12 [some (.int x), a1, a2] (.int x :: S) M := (rn_at k_X11_ones_11).trans rfl
theorem k_X11_ones_12 : lk 12 C_X11_ones = some (.iload_n 2, (0, 0, 0, 0)) := by decide +kernel
theorem s_X11_ones_12 {ca : Nat → List Value → tM → tO} {M : tM} {a0 a1 : Option Value} {x : Int32} {S : List Value} : rn ca C_X11_ones 12 [a0, a1, some (.int x)] S M = rn ca C_X11_ones 13 [a0, a1, some (.int x)] (.int x :: S) M := (rn_at k_X11_ones_12).trans rfl
theorem k_X11_ones_13 : lk 13 C_X11_ones = some (.ishr, (0, 0, 0, 0)) := by decide +kernel
theorem s_X11_ones_13 {ca : Nat → List Value → tM → tO} {M : tM} {L : tL} {x y : Int32} {S : List Value} : rn ca C_X11_ones 13 L (.int y :: .int x :: S) M = rn ca C_X11_ones 14 L (.int (x >>> (y &&& 31)) :: S) M := (rn_at k_X11_ones_13).trans rfl
theorem k_X11_ones_14 : lk 14 C_X11_ones = some (.iconst 1, (0, 0, 0, 0)) := by decide +kernel
theorem s_X11_ones_14 {ca : Nat → List Value → tM → tO} {M : tM} {L : tL} {S : List Value} : rn ca C_X11_ones 14 L S M = rn ca C_X11_ones 15 L (.int (iI 1) :: S) M := (rn_at k_X11_ones_14).trans rfl
theorem k_X11_ones_15 : lk 15 C_X11_ones = some (.iand, (0, 0, 0, 0)) := by decide +kernel
theorem s_X11_ones_15 {ca : Nat → List Value → tM → tO} {M : tM} {L : tL} {x y : Int32} {S : List Value} : rn ca C_X11_ones 15 L (.int y :: .int x :: S) M = rn ca C_X11_ones 16 L (.int (x &&& y) :: S) M := (rn_at k_X11_ones_15).trans rfl
theorem k_X11_ones_16 : lk 16 C_X11_ones = some (.iadd, (0, 0, 0, 0)) := by decide +kernel
theorem s_X11_ones_16 {ca : Nat → List Value → tM → tO} {M : tM} {L : tL} {x y : Int32} {S : List Value} : rn ca C_X11_ones 16 L (.int y :: .int x :: S) M = rn ca C_X11_ones 17 L (.int (x + y) :: S) M := (rn_at k_X11_ones_16).trans rfl
theorem k_X11_ones_17 : lk 17 C_X11_ones = some (.istore_n 1, (0, 0, 0, 0)) := by decide +kernel
theorem s_X11_ones_17 {ca : Nat → List Value → tM → tO} {M : tM} {a0 a1 a2 : Option Value} {x : Int32} {S : List Value} : rn ca C_X11_ones 17 [a0, a1, a2] (.int x :: S) M = rn ca C_X11_ones 18 [a0, some (.int x), a2] S M := (rn_at k_X11_ones_17).trans rfl
theorem k_X11_ones_18 : lk 18 C_X11_ones = some (.iinc 2 1, (0, 0, 0, 0)) := by decide +kernel
theorem s_X11_ones_18 {ca : Nat → List Value → tM → tO} {M : tM} {a0 a1 : Option Value} {x : Int32} {S : List Value} : rn ca C_X11_ones 18 [a0, a1, some (.int x)] S M = rn ca C_X11_ones 21 [a0, a1, some (.int (x + iI 1))] S M := (rn_at k_X11_ones_18).trans rfl
theorem k_X11_ones_21 : lk 21 C_X11_ones = some (.goto (-17), (4, 0, 0, 0)) := by decide +kernel
theorem s_X11_ones_21 {ca : Nat → List Value → tM → tO} {M : tM} {L : tL} {S : List Value} : rn ca C_X11_ones 21 L S M = rn ca C_X11_ones 4 L S M := (rn_at k_X11_ones_21).trans rfl
theorem k_X11_ones_24 : lk 24 C_X11_ones = some (.iload_n 1, (0, 0, 0, 0)) := by decide +kernel
theorem s_X11_ones_24 {ca : Nat → List Value → tM → tO} {M : tM} {a0 a2 : Option Value} {x : Int32} {S : List Value} : rn ca C_X11_ones 24 [a0, some (.int x), a2] S M = rn ca C_X11_ones 25 [a0, some (.int x), a2] (.int x :: S) M := (rn_at k_X11_ones_24).trans rfl
theorem k_X11_ones_25 : lk 25 C_X11_ones = some (.ireturn, (0, 0, 0, 0)) := by decide +kernel
theorem s_X11_ones_25 {ca : Nat → List Value → tM → tO} {M : tM} {L : tL} {x : Int32} : rn ca C_X11_ones 25 L [.int x] M = some (some (.int x), M) := (rn_at k_X11_ones_25).trans rfl
theorem k_X11_fillRounds_0 : lk 0 C_X11_fillRounds = some (.iconst 0, (0, 0, 0, 0)) := by decide +kernel
theorem s_X11_fillRounds_0 {ca : Nat → List Value → tM → tO} {M : tM} {L : tL} {S : List Value} : rn ca C_X11_fillRounds 0 L S M = rn ca C_X11_fillRounds 1 L (.int (iI 0) :: S) M := (rn_at k_X11_fillRounds_0).trans rfl
theorem k_X11_fillRounds_1 : lk 1 C_X11_fillRounds = some (.istore_n 1, (0, 0, 0, 0)) := by decide +kernel
theorem s_X11_fillRounds_1 {ca : Nat → List Value → tM → tO} {M : tM} {a0 a1 a2 a3 a4 : Option Value} {x : Int32} {S : List Value} : rn ca C_X11_fillRounds 1 [a0, a1, a2, a3, a4] (.int x :: S) M = rn ca C_X11_fillRounds 2 [a0, some (.int x), a2, a3, a4] S M := (rn_at k_X11_fillRounds_1).trans rfl
theorem k_X11_fillRounds_2 : lk 2 C_X11_fillRounds = some (.iload_n 1, (0, 0, 0, 0)) := by decide +kernel
theorem s_X11_fillRounds_2 {ca : Nat → List Value → tM → tO} {M : tM} {a0 a2 a3 a4 : Option Value} {x : Int32} {S : List Value} : rn ca C_X11_fillRounds 2 [a0, some (.int x), a2, a3, a4] S M = rn ca C_X11_fillRounds 3 [a0, some (.int x), a2, a3, a4] (.int x :: S) M := (rn_at k_X11_fillRounds_2).trans rfl
theorem k_X11_fillRounds_3 : lk 3 C_X11_fillRounds = some (.sipush 256, (0, 0, 0, 0)) := by decide +kernel
theorem s_X11_fillRounds_3 {ca : Nat → List Value → tM → tO} {M : tM} {L : tL} {S : List Value} : rn ca C_X11_fillRounds 3 L S M = rn ca C_X11_fillRounds 6 L (.int (iI 256) :: S) M := (rn_at k_X11_fillRounds_3).trans rfl
theorem k_X11_fillRounds_6 : lk 6 C_X11_fillRounds = some (.if_icmp .ge 118, (124, 0, 0, 0)) := by decide +kernel
theorem s_X11_fillRounds_6 {ca : Nat → List Value → tM → tO} {M : tM} {L : tL} {x y : Int32} {S : List Value} : rn ca C_X11_fillRounds 6 L (.int y :: .int x :: S) M = if y ≤ x then rn ca C_X11_fillRounds 124 L S M else rn ca C_X11_fillRounds 9 L S M := (rn_at k_X11_fillRounds_6).trans rnx_ite
theorem k_X11_fillRounds_9 : lk 9 C_X11_fillRounds = some (.iconst 0, (0, 0, 0, 0)) := by decide +kernel
theorem s_X11_fillRounds_9 {ca : Nat → List Value → tM → tO} {M : tM} {L : tL} {S : List Value} : rn ca C_X11_fillRounds 9 L S M = rn ca C_X11_fillRounds 10 L (.int (iI 0) :: S) M := (rn_at k_X11_fillRounds_9).trans rfl
theorem k_X11_fillRounds_10 : lk 10 C_X11_fillRounds = some (.istore_n 2, (0, 0, 0, 0)) := by decide +kernel
theorem s_X11_fillRounds_10 {ca : Nat → List Value → tM → tO} {M : tM} {a0 a1 a2 a3 a4 : Option Value} {x : Int32} {S : List Value} : rn ca C_X11_fillRounds 10 [a0, a1, a2, a3, a4] (.int x :: S) M = rn ca C_X11_fillRounds 11 [a0, a1, some (.int x), a3, a4] S M := (rn_at k_X11_fillRounds_10).trans rfl
theorem k_X11_fillRounds_11 : lk 11 C_X11_fillRounds = some (.iload_n 2, (0, 0, 0, 0)) := by decide +kernel
theorem s_X11_fillRounds_11 {ca : Nat → List Value → tM → tO} {M : tM} {a0 a1 a3 a4 : Option Value} {x : Int32} {S : List Value} : rn ca C_X11_fillRounds 11 [a0, a1, some (.int x), a3, a4] S M = rn ca C_X11_fillRounds 12 [a0, a1, some (.int x), a3, a4] (.int x :: S) M := (rn_at k_X11_fillRounds_11).trans rfl
theorem k_X11_fillRounds_12 : lk 12 C_X11_fillRounds = some (.aload_n 0, (0, 0, 0, 0)) := by decide +kernel
theorem s_X11_fillRounds_12 {ca : Nat → List Value → tM → tO} {M : tM} {a1 a2 a3 a4 : Option Value} {x : Nat} {S : List Value} : rn ca C_X11_fillRounds 12 [some (.ref x), a1, a2, a3, a4] S M = rn ca C_X11_fillRounds 13 [some (.ref x), a1, a2, a3, a4] (.ref x :: S) M := (rn_at k_X11_fillRounds_12).trans rfl
theorem k_X11_fillRounds_13 : lk 13 C_X11_fillRounds = some (.getfield 17, (11, 1, 0, 147)) := by decide +kernel
theorem s_X11_fillRounds_13 {ca : Nat → List Value → tM → tO} {M : tM} {L : tL} {b : Nat} {S : List Value} : rn ca C_X11_fillRounds 13 L (.ref b :: S) M = if clsO b = some 11 then rn ca C_X11_fillRounds 16 L (fv M b 1 :: S) M else none := (rn_at k_X11_fillRounds_13).trans rnx_ite
theorem k_X11_fillRounds_16 : lk 16 C_X11_fillRounds = some (.bipush 108, (0, 0, 0, 0)) := by decide +kernel
theorem s_X11_fillRounds_16 {ca : Nat → List Value → tM → tO} {M : tM} {L : tL} {S : List Value} : rn ca C_X11_fillRounds 16 L S M = rn ca C_X11_fillRounds 18 L (.int (iI 108) :: S) M := (rn_at k_X11_fillRounds_16).trans rfl
theorem k_X11_fillRounds_18 : lk 18 C_X11_fillRounds = some (.iaload, (0, 0, 0, 0)) := by decide +kernel
theorem s_X11_fillRounds_18 {ca : Nat → List Value → tM → tO} {M : tM} {L : tL} {a : Nat} {i : Int32} {S : List Value} : rn ca C_X11_fillRounds 18 L (.int i :: .ref a :: S) M = if (akind a = 0 ∨ akind a = 6 ∨ akind a = 7) ∧ inb i (alen M a) then rn ca C_X11_fillRounds 19 L (.int (M.1 a i.toInt.toNat) :: S) M else none := (rn_at k_X11_fillRounds_18).trans rnx_ite
theorem k_X11_fillRounds_19 : lk 19 C_X11_fillRounds = some (.if_icmp .ge 99, (118, 0, 0, 0)) := by decide +kernel
theorem s_X11_fillRounds_19 {ca : Nat → List Value → tM → tO} {M : tM} {L : tL} {x y : Int32} {S : List Value} : rn ca C_X11_fillRounds 19 L (.int y :: .int x :: S) M = if y ≤ x then rn ca C_X11_fillRounds 118 L S M else rn ca C_X11_fillRounds 22 L S M := (rn_at k_X11_fillRounds_19).trans rnx_ite
theorem k_X11_fillRounds_22 : lk 22 C_X11_fillRounds = some (.iload_n 1, (0, 0, 0, 0)) := by decide +kernel
theorem s_X11_fillRounds_22 {ca : Nat → List Value → tM → tO} {M : tM} {a0 a2 a3 a4 : Option Value} {x : Int32} {S : List Value} : rn ca C_X11_fillRounds 22 [a0, some (.int x), a2, a3, a4] S M = rn ca C_X11_fillRounds 23 [a0, some (.int x), a2, a3, a4] (.int x :: S) M := (rn_at k_X11_fillRounds_22).trans rfl
theorem k_X11_fillRounds_23 : lk 23 C_X11_fillRounds = some (.ifCond .ne 7, (30, 0, 0, 0)) := by decide +kernel
theorem s_X11_fillRounds_23 {ca : Nat → List Value → tM → tO} {M : tM} {L : tL} {x : Int32} {S : List Value} : rn ca C_X11_fillRounds 23 L (.int x :: S) M = if ¬ x = iI 0 then rn ca C_X11_fillRounds 30 L S M else rn ca C_X11_fillRounds 26 L S M := (rn_at k_X11_fillRounds_23).trans rnx_ite
theorem k_X11_fillRounds_26 : lk 26 C_X11_fillRounds = some (.iconst 0, (0, 0, 0, 0)) := by decide +kernel
theorem s_X11_fillRounds_26 {ca : Nat → List Value → tM → tO} {M : tM} {L : tL} {S : List Value} : rn ca C_X11_fillRounds 26 L S M = rn ca C_X11_fillRounds 27 L (.int (iI 0) :: S) M := (rn_at k_X11_fillRounds_26).trans rfl
theorem k_X11_fillRounds_27 : lk 27 C_X11_fillRounds = some (.goto 6, (33, 0, 0, 0)) := by decide +kernel
theorem s_X11_fillRounds_27 {ca : Nat → List Value → tM → tO} {M : tM} {L : tL} {S : List Value} : rn ca C_X11_fillRounds 27 L S M = rn ca C_X11_fillRounds 33 L S M := (rn_at k_X11_fillRounds_27).trans rfl
theorem k_X11_fillRounds_30 : lk 30 C_X11_fillRounds = some (.sipush 9999, (0, 0, 0, 0)) := by decide +kernel
theorem s_X11_fillRounds_30 {ca : Nat → List Value → tM → tO} {M : tM} {L : tL} {S : List Value} : rn ca C_X11_fillRounds 30 L S M = rn ca C_X11_fillRounds 33 L (.int (iI 9999) :: S) M := (rn_at k_X11_fillRounds_30).trans rfl
theorem k_X11_fillRounds_33 : lk 33 C_X11_fillRounds = some (.istore_n 3, (0, 0, 0, 0)) := by decide +kernel
theorem s_X11_fillRounds_33 {ca : Nat → List Value → tM → tO} {M : tM} {a0 a1 a2 a3 a4 : Option Value} {x : Int32} {S : List Value} : rn ca C_X11_fillRounds 33 [a0, a1, a2, a3, a4] (.int x :: S) M = rn ca C_X11_fillRounds 34 [a0, a1, a2, some (.int x), a4] S M := (rn_at k_X11_fillRounds_33).trans rfl
theorem k_X11_fillRounds_34 : lk 34 C_X11_fillRounds = some (.iconst 0, (0, 0, 0, 0)) := by decide +kernel
theorem s_X11_fillRounds_34 {ca : Nat → List Value → tM → tO} {M : tM} {L : tL} {S : List Value} : rn ca C_X11_fillRounds 34 L S M = rn ca C_X11_fillRounds 35 L (.int (iI 0) :: S) M := (rn_at k_X11_fillRounds_34).trans rfl
theorem k_X11_fillRounds_35 : lk 35 C_X11_fillRounds = some (.istore 4, (0, 0, 0, 0)) := by decide +kernel
theorem s_X11_fillRounds_35 {ca : Nat → List Value → tM → tO} {M : tM} {a0 a1 a2 a3 a4 : Option Value} {x : Int32} {S : List Value} : rn ca C_X11_fillRounds 35 [a0, a1, a2, a3, a4] (.int x :: S) M = rn ca C_X11_fillRounds 37 [a0, a1, a2, a3, some (.int x)] S M := (rn_at k_X11_fillRounds_35).trans rfl
theorem k_X11_fillRounds_37 : lk 37 C_X11_fillRounds = some (.iload 4, (0, 0, 0, 0)) := by decide +kernel
theorem s_X11_fillRounds_37 {ca : Nat → List Value → tM → tO} {M : tM} {a0 a1 a2 a3 : Option Value} {x : Int32} {S : List Value} : rn ca C_X11_fillRounds 37 [a0, a1, a2, a3, some (.int x)] S M = rn ca C_X11_fillRounds 39 [a0, a1, a2, a3, some (.int x)] (.int x :: S) M := (rn_at k_X11_fillRounds_37).trans rfl
theorem k_X11_fillRounds_39 : lk 39 C_X11_fillRounds = some (.aload_n 0, (0, 0, 0, 0)) := by decide +kernel
theorem s_X11_fillRounds_39 {ca : Nat → List Value → tM → tO} {M : tM} {a1 a2 a3 a4 : Option Value} {x : Nat} {S : List Value} : rn ca C_X11_fillRounds 39 [some (.ref x), a1, a2, a3, a4] S M = rn ca C_X11_fillRounds 40 [some (.ref x), a1, a2, a3, a4] (.ref x :: S) M := (rn_at k_X11_fillRounds_39).trans rfl
theorem k_X11_fillRounds_40 : lk 40 C_X11_fillRounds = some (.getfield 17, (11, 1, 0, 147)) := by decide +kernel
theorem s_X11_fillRounds_40 {ca : Nat → List Value → tM → tO} {M : tM} {L : tL} {b : Nat} {S : List Value} : rn ca C_X11_fillRounds 40 L (.ref b :: S) M = if clsO b = some 11 then rn ca C_X11_fillRounds 43 L (fv M b 1 :: S) M else none := (rn_at k_X11_fillRounds_40).trans rnx_ite
theorem k_X11_fillRounds_43 : lk 43 C_X11_fillRounds = some (.bipush 108, (0, 0, 0, 0)) := by decide +kernel
theorem s_X11_fillRounds_43 {ca : Nat → List Value → tM → tO} {M : tM} {L : tL} {S : List Value} : rn ca C_X11_fillRounds 43 L S M = rn ca C_X11_fillRounds 45 L (.int (iI 108) :: S) M := (rn_at k_X11_fillRounds_43).trans rfl
theorem k_X11_fillRounds_45 : lk 45 C_X11_fillRounds = some (.iaload, (0, 0, 0, 0)) := by decide +kernel
theorem s_X11_fillRounds_45 {ca : Nat → List Value → tM → tO} {M : tM} {L : tL} {a : Nat} {i : Int32} {S : List Value} : rn ca C_X11_fillRounds 45 L (.int i :: .ref a :: S) M = if (akind a = 0 ∨ akind a = 6 ∨ akind a = 7) ∧ inb i (alen M a) then rn ca C_X11_fillRounds 46 L (.int (M.1 a i.toInt.toNat) :: S) M else none := (rn_at k_X11_fillRounds_45).trans rnx_ite
theorem k_X11_fillRounds_46 : lk 46 C_X11_fillRounds = some (.if_icmp .ge 54, (100, 0, 0, 0)) := by decide +kernel
theorem s_X11_fillRounds_46 {ca : Nat → List Value → tM → tO} {M : tM} {L : tL} {x y : Int32} {S : List Value} : rn ca C_X11_fillRounds 46 L (.int y :: .int x :: S) M = if y ≤ x then rn ca C_X11_fillRounds 100 L S M else rn ca C_X11_fillRounds 49 L S M := (rn_at k_X11_fillRounds_46).trans rnx_ite
theorem k_X11_fillRounds_49 : lk 49 C_X11_fillRounds = some (.iload_n 1, (0, 0, 0, 0)) := by decide +kernel
theorem s_X11_fillRounds_49 {ca : Nat → List Value → tM → tO} {M : tM} {a0 a2 a3 a4 : Option Value} {x : Int32} {S : List Value} : rn ca C_X11_fillRounds 49 [a0, some (.int x), a2, a3, a4] S M = rn ca C_X11_fillRounds 50 [a0, some (.int x), a2, a3, a4] (.int x :: S) M := (rn_at k_X11_fillRounds_49).trans rfl
theorem k_X11_fillRounds_50 : lk 50 C_X11_fillRounds = some (.iload 4, (0, 0, 0, 0)) := by decide +kernel
theorem s_X11_fillRounds_50 {ca : Nat → List Value → tM → tO} {M : tM} {a0 a1 a2 a3 : Option Value} {x : Int32} {S : List Value} : rn ca C_X11_fillRounds 50 [a0, a1, a2, a3, some (.int x)] S M = rn ca C_X11_fillRounds 52 [a0, a1, a2, a3, some (.int x)] (.int x :: S) M := (rn_at k_X11_fillRounds_50).trans rfl
theorem k_X11_fillRounds_52 : lk 52 C_X11_fillRounds = some (.ishr, (0, 0, 0, 0)) := by decide +kernel
theorem s_X11_fillRounds_52 {ca : Nat → List Value → tM → tO} {M : tM} {L : tL} {x y : Int32} {S : List Value} : rn ca C_X11_fillRounds 52 L (.int y :: .int x :: S) M = rn ca C_X11_fillRounds 53 L (.int (x >>> (y &&& 31)) :: S) M := (rn_at k_X11_fillRounds_52).trans rfl
theorem k_X11_fillRounds_53 : lk 53 C_X11_fillRounds = some (.iconst 1, (0, 0, 0, 0)) := by decide +kernel
theorem s_X11_fillRounds_53 {ca : Nat → List Value → tM → tO} {M : tM} {L : tL} {S : List Value} : rn ca C_X11_fillRounds 53 L S M = rn ca C_X11_fillRounds 54 L (.int (iI 1) :: S) M := (rn_at k_X11_fillRounds_53).trans rfl
theorem k_X11_fillRounds_54 : lk 54 C_X11_fillRounds = some (.iand, (0, 0, 0, 0)) := by decide +kernel
theorem s_X11_fillRounds_54 {ca : Nat → List Value → tM → tO} {M : tM} {L : tL} {x y : Int32} {S : List Value} : rn ca C_X11_fillRounds 54 L (.int y :: .int x :: S) M = rn ca C_X11_fillRounds 55 L (.int (x &&& y) :: S) M := (rn_at k_X11_fillRounds_54).trans rfl
theorem k_X11_fillRounds_55 : lk 55 C_X11_fillRounds = some (.iconst 1, (0, 0, 0, 0)) := by decide +kernel
theorem s_X11_fillRounds_55 {ca : Nat → List Value → tM → tO} {M : tM} {L : tL} {S : List Value} : rn ca C_X11_fillRounds 55 L S M = rn ca C_X11_fillRounds 56 L (.int (iI 1) :: S) M := (rn_at k_X11_fillRounds_55).trans rfl
theorem k_X11_fillRounds_56 : lk 56 C_X11_fillRounds = some (.if_icmp .ne 38, (94, 0, 0, 0)) := by decide +kernel
theorem s_X11_fillRounds_56 {ca : Nat → List Value → tM → tO} {M : tM} {L : tL} {x y : Int32} {S : List Value} : rn ca C_X11_fillRounds 56 L (.int y :: .int x :: S) M = if ¬ x = y then rn ca C_X11_fillRounds 94 L S M else rn ca C_X11_fillRounds 59 L S M := (rn_at k_X11_fillRounds_56).trans rnx_ite
theorem k_X11_fillRounds_59 : lk 59 C_X11_fillRounds = some (.iload_n 3, (0, 0, 0, 0)) := by decide +kernel
theorem s_X11_fillRounds_59 {ca : Nat → List Value → tM → tO} {M : tM} {a0 a1 a2 a4 : Option Value} {x : Int32} {S : List Value} : rn ca C_X11_fillRounds 59 [a0, a1, a2, some (.int x), a4] S M = rn ca C_X11_fillRounds 60 [a0, a1, a2, some (.int x), a4] (.int x :: S) M := (rn_at k_X11_fillRounds_59).trans rfl
theorem k_X11_fillRounds_60 : lk 60 C_X11_fillRounds = some (.aload_n 0, (0, 0, 0, 0)) := by decide +kernel
theorem s_X11_fillRounds_60 {ca : Nat → List Value → tM → tO} {M : tM} {a1 a2 a3 a4 : Option Value} {x : Nat} {S : List Value} : rn ca C_X11_fillRounds 60 [some (.ref x), a1, a2, a3, a4] S M = rn ca C_X11_fillRounds 61 [some (.ref x), a1, a2, a3, a4] (.ref x :: S) M := (rn_at k_X11_fillRounds_60).trans rfl
theorem k_X11_fillRounds_61 : lk 61 C_X11_fillRounds = some (.getfield 64, (11, 14, 0, 158)) := by decide +kernel
theorem s_X11_fillRounds_61 {ca : Nat → List Value → tM → tO} {M : tM} {L : tL} {b : Nat} {S : List Value} : rn ca C_X11_fillRounds 61 L (.ref b :: S) M = if clsO b = some 11 then rn ca C_X11_fillRounds 64 L (fv M b 14 :: S) M else none := (rn_at k_X11_fillRounds_61).trans rnx_ite
theorem k_X11_fillRounds_64 : lk 64 C_X11_fillRounds = some (.bipush 8, (0, 0, 0, 0)) := by decide +kernel
theorem s_X11_fillRounds_64 {ca : Nat → List Value → tM → tO} {M : tM} {L : tL} {S : List Value} : rn ca C_X11_fillRounds 64 L S M = rn ca C_X11_fillRounds 66 L (.int (iI 8) :: S) M := (rn_at k_X11_fillRounds_64).trans rfl
theorem k_X11_fillRounds_66 : lk 66 C_X11_fillRounds = some (.iload_n 2, (0, 0, 0, 0)) := by decide +kernel
theorem s_X11_fillRounds_66 {ca : Nat → List Value → tM → tO} {M : tM} {a0 a1 a3 a4 : Option Value} {x : Int32} {S : List Value} : rn ca C_X11_fillRounds 66 [a0, a1, some (.int x), a3, a4] S M = rn ca C_X11_fillRounds 67 [a0, a1, some (.int x), a3, a4] (.int x :: S) M := (rn_at k_X11_fillRounds_66).trans rfl
theorem k_X11_fillRounds_67 : lk 67 C_X11_fillRounds = some (.imul, (0, 0, 0, 0)) := by decide +kernel
theorem s_X11_fillRounds_67 {ca : Nat → List Value → tM → tO} {M : tM} {L : tL} {x y : Int32} {S : List Value} : rn ca C_X11_fillRounds 67 L (.int y :: .int x :: S) M = rn ca C_X11_fillRounds 68 L (.int (x * y) :: S) M := (rn_at k_X11_fillRounds_67).trans rfl
theorem k_X11_fillRounds_68 : lk 68 C_X11_fillRounds = some (.iload 4, (0, 0, 0, 0)) := by decide +kernel
theorem s_X11_fillRounds_68 {ca : Nat → List Value → tM → tO} {M : tM} {a0 a1 a2 a3 : Option Value} {x : Int32} {S : List Value} : rn ca C_X11_fillRounds 68 [a0, a1, a2, a3, some (.int x)] S M = rn ca C_X11_fillRounds 70 [a0, a1, a2, a3, some (.int x)] (.int x :: S) M := (rn_at k_X11_fillRounds_68).trans rfl
theorem k_X11_fillRounds_70 : lk 70 C_X11_fillRounds = some (.iadd, (0, 0, 0, 0)) := by decide +kernel
theorem s_X11_fillRounds_70 {ca : Nat → List Value → tM → tO} {M : tM} {L : tL} {x y : Int32} {S : List Value} : rn ca C_X11_fillRounds 70 L (.int y :: .int x :: S) M = rn ca C_X11_fillRounds 71 L (.int (x + y) :: S) M := (rn_at k_X11_fillRounds_70).trans rfl
theorem k_X11_fillRounds_71 : lk 71 C_X11_fillRounds = some (.iaload, (0, 0, 0, 0)) := by decide +kernel
theorem s_X11_fillRounds_71 {ca : Nat → List Value → tM → tO} {M : tM} {L : tL} {a : Nat} {i : Int32} {S : List Value} : rn ca C_X11_fillRounds 71 L (.int i :: .ref a :: S) M = if (akind a = 0 ∨ akind a = 6 ∨ akind a = 7) ∧ inb i (alen M a) then rn ca C_X11_fillRounds 72 L (.int (M.1 a i.toInt.toNat) :: S) M else none := (rn_at k_X11_fillRounds_71).trans rnx_ite
theorem k_X11_fillRounds_72 : lk 72 C_X11_fillRounds = some (.aload_n 0, (0, 0, 0, 0)) := by decide +kernel
theorem s_X11_fillRounds_72 {ca : Nat → List Value → tM → tO} {M : tM} {a1 a2 a3 a4 : Option Value} {x : Nat} {S : List Value} : rn ca C_X11_fillRounds 72 [some (.ref x), a1, a2, a3, a4] S M = rn ca C_X11_fillRounds 73 [some (.ref x), a1, a2, a3, a4] (.ref x :: S) M := (rn_at k_X11_fillRounds_72).trans rfl
theorem k_X11_fillRounds_73 : lk 73 C_X11_fillRounds = some (.getfield 67, (11, 15, 0, 159)) := by decide +kernel
theorem s_X11_fillRounds_73 {ca : Nat → List Value → tM → tO} {M : tM} {L : tL} {b : Nat} {S : List Value} : rn ca C_X11_fillRounds 73 L (.ref b :: S) M = if clsO b = some 11 then rn ca C_X11_fillRounds 76 L (fv M b 15 :: S) M else none := (rn_at k_X11_fillRounds_73).trans rnx_ite
theorem k_X11_fillRounds_76 : lk 76 C_X11_fillRounds = some (.bipush 8, (0, 0, 0, 0)) := by decide +kernel
theorem s_X11_fillRounds_76 {ca : Nat → List Value → tM → tO} {M : tM} {L : tL} {S : List Value} : rn ca C_X11_fillRounds 76 L S M = rn ca C_X11_fillRounds 78 L (.int (iI 8) :: S) M := (rn_at k_X11_fillRounds_76).trans rfl
theorem k_X11_fillRounds_78 : lk 78 C_X11_fillRounds = some (.iload_n 1, (0, 0, 0, 0)) := by decide +kernel
theorem s_X11_fillRounds_78 {ca : Nat → List Value → tM → tO} {M : tM} {a0 a2 a3 a4 : Option Value} {x : Int32} {S : List Value} : rn ca C_X11_fillRounds 78 [a0, some (.int x), a2, a3, a4] S M = rn ca C_X11_fillRounds 79 [a0, some (.int x), a2, a3, a4] (.int x :: S) M := (rn_at k_X11_fillRounds_78).trans rfl
theorem k_X11_fillRounds_79 : lk 79 C_X11_fillRounds = some (.iconst 1, (0, 0, 0, 0)) := by decide +kernel
theorem s_X11_fillRounds_79 {ca : Nat → List Value → tM → tO} {M : tM} {L : tL} {S : List Value} : rn ca C_X11_fillRounds 79 L S M = rn ca C_X11_fillRounds 80 L (.int (iI 1) :: S) M := (rn_at k_X11_fillRounds_79).trans rfl
theorem k_X11_fillRounds_80 : lk 80 C_X11_fillRounds = some (.iload 4, (0, 0, 0, 0)) := by decide +kernel
theorem s_X11_fillRounds_80 {ca : Nat → List Value → tM → tO} {M : tM} {a0 a1 a2 a3 : Option Value} {x : Int32} {S : List Value} : rn ca C_X11_fillRounds 80 [a0, a1, a2, a3, some (.int x)] S M = rn ca C_X11_fillRounds 82 [a0, a1, a2, a3, some (.int x)] (.int x :: S) M := (rn_at k_X11_fillRounds_80).trans rfl
theorem k_X11_fillRounds_82 : lk 82 C_X11_fillRounds = some (.ishl, (0, 0, 0, 0)) := by decide +kernel
theorem s_X11_fillRounds_82 {ca : Nat → List Value → tM → tO} {M : tM} {L : tL} {x y : Int32} {S : List Value} : rn ca C_X11_fillRounds 82 L (.int y :: .int x :: S) M = rn ca C_X11_fillRounds 83 L (.int (x <<< (y &&& 31)) :: S) M := (rn_at k_X11_fillRounds_82).trans rfl
theorem k_X11_fillRounds_83 : lk 83 C_X11_fillRounds = some (.isub, (0, 0, 0, 0)) := by decide +kernel
theorem s_X11_fillRounds_83 {ca : Nat → List Value → tM → tO} {M : tM} {L : tL} {x y : Int32} {S : List Value} : rn ca C_X11_fillRounds 83 L (.int y :: .int x :: S) M = rn ca C_X11_fillRounds 84 L (.int (x - y) :: S) M := (rn_at k_X11_fillRounds_83).trans rfl
theorem k_X11_fillRounds_84 : lk 84 C_X11_fillRounds = some (.imul, (0, 0, 0, 0)) := by decide +kernel
theorem s_X11_fillRounds_84 {ca : Nat → List Value → tM → tO} {M : tM} {L : tL} {x y : Int32} {S : List Value} : rn ca C_X11_fillRounds 84 L (.int y :: .int x :: S) M = rn ca C_X11_fillRounds 85 L (.int (x * y) :: S) M := (rn_at k_X11_fillRounds_84).trans rfl
theorem k_X11_fillRounds_85 : lk 85 C_X11_fillRounds = some (.iload 4, (0, 0, 0, 0)) := by decide +kernel
theorem s_X11_fillRounds_85 {ca : Nat → List Value → tM → tO} {M : tM} {a0 a1 a2 a3 : Option Value} {x : Int32} {S : List Value} : rn ca C_X11_fillRounds 85 [a0, a1, a2, a3, some (.int x)] S M = rn ca C_X11_fillRounds 87 [a0, a1, a2, a3, some (.int x)] (.int x :: S) M := (rn_at k_X11_fillRounds_85).trans rfl
theorem k_X11_fillRounds_87 : lk 87 C_X11_fillRounds = some (.iadd, (0, 0, 0, 0)) := by decide +kernel
theorem s_X11_fillRounds_87 {ca : Nat → List Value → tM → tO} {M : tM} {L : tL} {x y : Int32} {S : List Value} : rn ca C_X11_fillRounds 87 L (.int y :: .int x :: S) M = rn ca C_X11_fillRounds 88 L (.int (x + y) :: S) M := (rn_at k_X11_fillRounds_87).trans rfl
theorem k_X11_fillRounds_88 : lk 88 C_X11_fillRounds = some (.iaload, (0, 0, 0, 0)) := by decide +kernel
theorem s_X11_fillRounds_88 {ca : Nat → List Value → tM → tO} {M : tM} {L : tL} {a : Nat} {i : Int32} {S : List Value} : rn ca C_X11_fillRounds 88 L (.int i :: .ref a :: S) M = if (akind a = 0 ∨ akind a = 6 ∨ akind a = 7) ∧ inb i (alen M a) then rn ca C_X11_fillRounds 89 L (.int (M.1 a i.toInt.toNat) :: S) M else none := (rn_at k_X11_fillRounds_88).trans rnx_ite
theorem k_X11_fillRounds_89 : lk 89 C_X11_fillRounds = some (.iadd, (0, 0, 0, 0)) := by decide +kernel
theorem s_X11_fillRounds_89 {ca : Nat → List Value → tM → tO} {M : tM} {L : tL} {x y : Int32} {S : List Value} : rn ca C_X11_fillRounds 89 L (.int y :: .int x :: S) M = rn ca C_X11_fillRounds 90 L (.int (x + y) :: S) M := (rn_at k_X11_fillRounds_89).trans rfl
theorem k_X11_fillRounds_90 : lk 90 C_X11_fillRounds = some (.invokestatic 207, (0, 2, 3, 781)) := by decide +kernel
theorem s_X11_fillRounds_90 {ca : Nat → List Value → tM → tO} {M : tM} {L : tL} {x y : Int32} : rn ca C_X11_fillRounds 90 L [.int y, .int x] M = rn ca C_X11_fillRounds 93 L [.int (mnI x y)] M := (rn_at k_X11_fillRounds_90).trans rfl
theorem k_X11_fillRounds_93 : lk 93 C_X11_fillRounds = some (.istore_n 3, (0, 0, 0, 0)) := by decide +kernel
theorem s_X11_fillRounds_93 {ca : Nat → List Value → tM → tO} {M : tM} {a0 a1 a2 a3 a4 : Option Value} {x : Int32} {S : List Value} : rn ca C_X11_fillRounds 93 [a0, a1, a2, a3, a4] (.int x :: S) M = rn ca C_X11_fillRounds 94 [a0, a1, a2, some (.int x), a4] S M := (rn_at k_X11_fillRounds_93).trans rfl
theorem k_X11_fillRounds_94 : lk 94 C_X11_fillRounds = some (.iinc 4 1, (0, 0, 0, 0)) := by decide +kernel
theorem s_X11_fillRounds_94 {ca : Nat → List Value → tM → tO} {M : tM} {a0 a1 a2 a3 : Option Value} {x : Int32} {S : List Value} : rn ca C_X11_fillRounds 94 [a0, a1, a2, a3, some (.int x)] S M = rn ca C_X11_fillRounds 97 [a0, a1, a2, a3, some (.int (x + iI 1))] S M := (rn_at k_X11_fillRounds_94).trans rfl
theorem k_X11_fillRounds_97 : lk 97 C_X11_fillRounds = some (.goto (-60), (37, 0, 0, 0)) := by decide +kernel
theorem s_X11_fillRounds_97 {ca : Nat → List Value → tM → tO} {M : tM} {L : tL} {S : List Value} : rn ca C_X11_fillRounds 97 L S M = rn ca C_X11_fillRounds 37 L S M := (rn_at k_X11_fillRounds_97).trans rfl
theorem k_X11_fillRounds_100 : lk 100 C_X11_fillRounds = some (.aload_n 0, (0, 0, 0, 0)) := by decide +kernel
theorem s_X11_fillRounds_100 {ca : Nat → List Value → tM → tO} {M : tM} {a1 a2 a3 a4 : Option Value} {x : Nat} {S : List Value} : rn ca C_X11_fillRounds 100 [some (.ref x), a1, a2, a3, a4] S M = rn ca C_X11_fillRounds 101 [some (.ref x), a1, a2, a3, a4] (.ref x :: S) M := (rn_at k_X11_fillRounds_100).trans rfl
theorem k_X11_fillRounds_101 : lk 101 C_X11_fillRounds = some (.getfield 67, (11, 15, 0, 159)) := by decide +kernel
theorem s_X11_fillRounds_101 {ca : Nat → List Value → tM → tO} {M : tM} {L : tL} {b : Nat} {S : List Value} : rn ca C_X11_fillRounds 101 L (.ref b :: S) M = if clsO b = some 11 then rn ca C_X11_fillRounds 104 L (fv M b 15 :: S) M else none := (rn_at k_X11_fillRounds_101).trans rnx_ite
theorem k_X11_fillRounds_104 : lk 104 C_X11_fillRounds = some (.bipush 8, (0, 0, 0, 0)) := by decide +kernel
theorem s_X11_fillRounds_104 {ca : Nat → List Value → tM → tO} {M : tM} {L : tL} {S : List Value} : rn ca C_X11_fillRounds 104 L S M = rn ca C_X11_fillRounds 106 L (.int (iI 8) :: S) M := (rn_at k_X11_fillRounds_104).trans rfl
theorem k_X11_fillRounds_106 : lk 106 C_X11_fillRounds = some (.iload_n 1, (0, 0, 0, 0)) := by decide +kernel
theorem s_X11_fillRounds_106 {ca : Nat → List Value → tM → tO} {M : tM} {a0 a2 a3 a4 : Option Value} {x : Int32} {S : List Value} : rn ca C_X11_fillRounds 106 [a0, some (.int x), a2, a3, a4] S M = rn ca C_X11_fillRounds 107 [a0, some (.int x), a2, a3, a4] (.int x :: S) M := (rn_at k_X11_fillRounds_106).trans rfl
theorem k_X11_fillRounds_107 : lk 107 C_X11_fillRounds = some (.imul, (0, 0, 0, 0)) := by decide +kernel
theorem s_X11_fillRounds_107 {ca : Nat → List Value → tM → tO} {M : tM} {L : tL} {x y : Int32} {S : List Value} : rn ca C_X11_fillRounds 107 L (.int y :: .int x :: S) M = rn ca C_X11_fillRounds 108 L (.int (x * y) :: S) M := (rn_at k_X11_fillRounds_107).trans rfl
theorem k_X11_fillRounds_108 : lk 108 C_X11_fillRounds = some (.iload_n 2, (0, 0, 0, 0)) := by decide +kernel
theorem s_X11_fillRounds_108 {ca : Nat → List Value → tM → tO} {M : tM} {a0 a1 a3 a4 : Option Value} {x : Int32} {S : List Value} : rn ca C_X11_fillRounds 108 [a0, a1, some (.int x), a3, a4] S M = rn ca C_X11_fillRounds 109 [a0, a1, some (.int x), a3, a4] (.int x :: S) M := (rn_at k_X11_fillRounds_108).trans rfl
theorem k_X11_fillRounds_109 : lk 109 C_X11_fillRounds = some (.iadd, (0, 0, 0, 0)) := by decide +kernel
theorem s_X11_fillRounds_109 {ca : Nat → List Value → tM → tO} {M : tM} {L : tL} {x y : Int32} {S : List Value} : rn ca C_X11_fillRounds 109 L (.int y :: .int x :: S) M = rn ca C_X11_fillRounds 110 L (.int (x + y) :: S) M := (rn_at k_X11_fillRounds_109).trans rfl
theorem k_X11_fillRounds_110 : lk 110 C_X11_fillRounds = some (.iload_n 3, (0, 0, 0, 0)) := by decide +kernel
theorem s_X11_fillRounds_110 {ca : Nat → List Value → tM → tO} {M : tM} {a0 a1 a2 a4 : Option Value} {x : Int32} {S : List Value} : rn ca C_X11_fillRounds 110 [a0, a1, a2, some (.int x), a4] S M = rn ca C_X11_fillRounds 111 [a0, a1, a2, some (.int x), a4] (.int x :: S) M := (rn_at k_X11_fillRounds_110).trans rfl
theorem k_X11_fillRounds_111 : lk 111 C_X11_fillRounds = some (.iastore, (0, 0, 0, 0)) := by decide +kernel
theorem s_X11_fillRounds_111 {ca : Nat → List Value → tM → tO} {M : tM} {L : tL} {a : Nat} {i x : Int32} {S : List Value} : rn ca C_X11_fillRounds 111 L (.int x :: .int i :: .ref a :: S) M = if akind a = 0 ∧ inb i (alen M a) then rn ca C_X11_fillRounds 112 L S (sI M a i.toInt.toNat x) else none := (rn_at k_X11_fillRounds_111).trans rnx_ite
theorem k_X11_fillRounds_112 : lk 112 C_X11_fillRounds = some (.iinc 2 1, (0, 0, 0, 0)) := by decide +kernel
theorem s_X11_fillRounds_112 {ca : Nat → List Value → tM → tO} {M : tM} {a0 a1 a3 a4 : Option Value} {x : Int32} {S : List Value} : rn ca C_X11_fillRounds 112 [a0, a1, some (.int x), a3, a4] S M = rn ca C_X11_fillRounds 115 [a0, a1, some (.int (x + iI 1)), a3, a4] S M := (rn_at k_X11_fillRounds_112).trans rfl
theorem k_X11_fillRounds_115 : lk 115 C_X11_fillRounds = some (.goto (-104), (11, 0, 0, 0)) := by decide +kernel
theorem s_X11_fillRounds_115 {ca : Nat → List Value → tM → tO} {M : tM} {L : tL} {S : List Value} : rn ca C_X11_fillRounds 115 L S M = rn ca C_X11_fillRounds 11 L S M := (rn_at k_X11_fillRounds_115).trans rfl
theorem k_X11_fillRounds_118 : lk 118 C_X11_fillRounds = some (.iinc 1 1, (0, 0, 0, 0)) := by decide +kernel
theorem s_X11_fillRounds_118 {ca : Nat → List Value → tM → tO} {M : tM} {a0 a2 a3 a4 : Option Value} {x : Int32} {S : List Value} : rn ca C_X11_fillRounds 118 [a0, some (.int x), a2, a3, a4] S M = rn ca C_X11_fillRounds 121 [a0, some (.int (x + iI 1)), a2, a3, a4] S M := (rn_at k_X11_fillRounds_118).trans rfl
theorem k_X11_fillRounds_121 : lk 121 C_X11_fillRounds = some (.goto (-119), (2, 0, 0, 0)) := by decide +kernel
theorem s_X11_fillRounds_121 {ca : Nat → List Value → tM → tO} {M : tM} {L : tL} {S : List Value} : rn ca C_X11_fillRounds 121 L S M = rn ca C_X11_fillRounds 2 L S M := (rn_at k_X11_fillRounds_121).trans rfl
theorem k_X11_fillRounds_124 : lk 124 C_X11_fillRounds = some (.return_, (0, 0, 0, 0)) := by decide +kernel
theorem s_X11_fillRounds_124 {ca : Nat → List Value → tM → tO} {M : tM} {L : tL} : rn ca C_X11_fillRounds 124 L [] M = some (none, M) := (rn_at k_X11_fillRounds_124).trans rfl
theorem k_X11_round_0 : lk 0 C_X11_round = some (.aload_n 0, (0, 0, 0, 0)) := by decide +kernel
theorem s_X11_round_0 {ca : Nat → List Value → tM → tO} {M : tM} {a1 a2 a3 a4 a5 a6 a7 a8 a9 a10 a11 a12 : Option Value} {x : Nat} {S : List Value} : rn ca C_X11_round 0 [some (.ref x), a1, a2, a3, a4, a5, a6, a7, a8, a9, a10, a11, a12] S M = rn ca C_X11_round 1 [some (.ref x), a1, a2, a3, a4, a5, a6, a7, a8, a9, a10, a11, a12] (.ref x :: S) M := (rn_at k_X11_round_0).trans rfl
theorem k_X11_round_1 : lk 1 C_X11_round = some (.iload_n 1, (0, 0, 0, 0)) := by decide +kernel
theorem s_X11_round_1 {ca : Nat → List Value → tM → tO} {M : tM} {a0 a2 a3 a4 a5 a6 a7 a8 a9 a10 a11 a12 : Option Value} {x : Int32} {S : List Value} : rn ca C_X11_round 1 [a0, some (.int x), a2, a3, a4, a5, a6, a7, a8, a9, a10, a11, a12] S M = rn ca C_X11_round 2 [a0, some (.int x), a2, a3, a4, a5, a6, a7, a8, a9, a10, a11, a12] (.int x :: S) M := (rn_at k_X11_round_1).trans rfl
theorem k_X11_round_2 : lk 2 C_X11_round = some (.i2l, (0, 0, 0, 0)) := by decide +kernel
theorem s_X11_round_2 {ca : Nat → List Value → tM → tO} {M : tM} {L : tL} {x : Int32} {S : List Value} : rn ca C_X11_round 2 L (.int x :: S) M = rn ca C_X11_round 3 L (.long x.toInt64 :: S) M := (rn_at k_X11_round_2).trans rfl
theorem k_X11_round_3 : lk 3 C_X11_round = some (.invokevirtual 114, (149, 1, 11, 302)) := by decide +kernel
theorem s_X11_round_3 {ca : Nat → List Value → tM → tO} {M : tM} {L : tL} {v1 : Value} {b : Nat} : rn ca C_X11_round 3 L [v1, .ref b] M = if clsO b = some 11 then rnk ca C_X11_round 6 L [] (ca m_X11_isCapsule [.ref b, v1] M) else none := (rn_at k_X11_round_3).trans rnx_ite
theorem k_X11_round_6 : lk 6 C_X11_round = some (.ifCond .ne 9, (15, 0, 0, 0)) := by decide +kernel
theorem s_X11_round_6 {ca : Nat → List Value → tM → tO} {M : tM} {L : tL} {x : Int32} {S : List Value} : rn ca C_X11_round 6 L (.int x :: S) M = if ¬ x = iI 0 then rn ca C_X11_round 15 L S M else rn ca C_X11_round 9 L S M := (rn_at k_X11_round_6).trans rnx_ite
theorem k_X11_round_9 : lk 9 C_X11_round = some (.aload_n 0, (0, 0, 0, 0)) := by decide +kernel
theorem s_X11_round_9 {ca : Nat → List Value → tM → tO} {M : tM} {a1 a2 a3 a4 a5 a6 a7 a8 a9 a10 a11 a12 : Option Value} {x : Nat} {S : List Value} : rn ca C_X11_round 9 [some (.ref x), a1, a2, a3, a4, a5, a6, a7, a8, a9, a10, a11, a12] S M = rn ca C_X11_round 10 [some (.ref x), a1, a2, a3, a4, a5, a6, a7, a8, a9, a10, a11, a12] (.ref x :: S) M := (rn_at k_X11_round_9).trans rfl
theorem k_X11_round_10 : lk 10 C_X11_round = some (.iconst (-1), (0, 0, 0, 0)) := by decide +kernel
theorem s_X11_round_10 {ca : Nat → List Value → tM → tO} {M : tM} {L : tL} {S : List Value} : rn ca C_X11_round 10 L S M = rn ca C_X11_round 11 L (.int (iI (-1)) :: S) M := (rn_at k_X11_round_10).trans rfl
theorem k_X11_round_11 : lk 11 C_X11_round = some (.invokevirtual 233, (145, 1, 11, 749)) := by decide +kernel
theorem s_X11_round_11 {ca : Nat → List Value → tM → tO} {M : tM} {L : tL} {v1 : Value} {b : Nat} : rn ca C_X11_round 11 L [v1, .ref b] M = if clsO b = some 11 then rnk ca C_X11_round 14 L [] (ca m_X11_refuseBy10 [.ref b, v1] M) else none := (rn_at k_X11_round_11).trans rnx_ite
theorem k_X11_round_14 : lk 14 C_X11_round = some (.ireturn, (0, 0, 0, 0)) := by decide +kernel
theorem s_X11_round_14 {ca : Nat → List Value → tM → tO} {M : tM} {L : tL} {x : Int32} : rn ca C_X11_round 14 L [.int x] M = some (some (.int x), M) := (rn_at k_X11_round_14).trans rfl
theorem k_X11_round_15 : lk 15 C_X11_round = some (.iload_n 2, (0, 0, 0, 0)) := by decide +kernel
theorem s_X11_round_15 {ca : Nat → List Value → tM → tO} {M : tM} {a0 a1 a3 a4 a5 a6 a7 a8 a9 a10 a11 a12 : Option Value} {x : Int32} {S : List Value} : rn ca C_X11_round 15 [a0, a1, some (.int x), a3, a4, a5, a6, a7, a8, a9, a10, a11, a12] S M = rn ca C_X11_round 16 [a0, a1, some (.int x), a3, a4, a5, a6, a7, a8, a9, a10, a11, a12] (.int x :: S) M := (rn_at k_X11_round_15).trans rfl
theorem k_X11_round_16 : lk 16 C_X11_round = some (.i2l, (0, 0, 0, 0)) := by decide +kernel
theorem s_X11_round_16 {ca : Nat → List Value → tM → tO} {M : tM} {L : tL} {x : Int32} {S : List Value} : rn ca C_X11_round 16 L (.int x :: S) M = rn ca C_X11_round 17 L (.long x.toInt64 :: S) M := (rn_at k_X11_round_16).trans rfl
theorem k_X11_round_17 : lk 17 C_X11_round = some (.lconst 1, (0, 0, 0, 0)) := by decide +kernel
theorem s_X11_round_17 {ca : Nat → List Value → tM → tO} {M : tM} {L : tL} {S : List Value} : rn ca C_X11_round 17 L S M = rn ca C_X11_round 18 L (.long (jJ 1) :: S) M := (rn_at k_X11_round_17).trans rfl
theorem k_X11_round_18 : lk 18 C_X11_round = some (.iconst 1, (0, 0, 0, 0)) := by decide +kernel
theorem s_X11_round_18 {ca : Nat → List Value → tM → tO} {M : tM} {L : tL} {S : List Value} : rn ca C_X11_round 18 L S M = rn ca C_X11_round 19 L (.int (iI 1) :: S) M := (rn_at k_X11_round_18).trans rfl
theorem k_X11_round_19 : lk 19 C_X11_round = some (.aload_n 0, (0, 0, 0, 0)) := by decide +kernel
theorem s_X11_round_19 {ca : Nat → List Value → tM → tO} {M : tM} {a1 a2 a3 a4 a5 a6 a7 a8 a9 a10 a11 a12 : Option Value} {x : Nat} {S : List Value} : rn ca C_X11_round 19 [some (.ref x), a1, a2, a3, a4, a5, a6, a7, a8, a9, a10, a11, a12] S M = rn ca C_X11_round 20 [some (.ref x), a1, a2, a3, a4, a5, a6, a7, a8, a9, a10, a11, a12] (.ref x :: S) M := (rn_at k_X11_round_19).trans rfl
theorem k_X11_round_20 : lk 20 C_X11_round = some (.getfield 17, (11, 1, 0, 147)) := by decide +kernel
theorem s_X11_round_20 {ca : Nat → List Value → tM → tO} {M : tM} {L : tL} {b : Nat} {S : List Value} : rn ca C_X11_round 20 L (.ref b :: S) M = if clsO b = some 11 then rn ca C_X11_round 23 L (fv M b 1 :: S) M else none := (rn_at k_X11_round_20).trans rnx_ite
theorem k_X11_round_23 : lk 23 C_X11_round = some (.bipush 108, (0, 0, 0, 0)) := by decide +kernel
theorem s_X11_round_23 {ca : Nat → List Value → tM → tO} {M : tM} {L : tL} {S : List Value} : rn ca C_X11_round 23 L S M = rn ca C_X11_round 25 L (.int (iI 108) :: S) M := (rn_at k_X11_round_23).trans rfl
theorem k_X11_round_25 : lk 25 C_X11_round = some (.iaload, (0, 0, 0, 0)) := by decide +kernel
theorem s_X11_round_25 {ca : Nat → List Value → tM → tO} {M : tM} {L : tL} {a : Nat} {i : Int32} {S : List Value} : rn ca C_X11_round 25 L (.int i :: .ref a :: S) M = if (akind a = 0 ∨ akind a = 6 ∨ akind a = 7) ∧ inb i (alen M a) then rn ca C_X11_round 26 L (.int (M.1 a i.toInt.toNat) :: S) M else none := (rn_at k_X11_round_25).trans rnx_ite
theorem k_X11_round_26 : lk 26 C_X11_round = some (.ishl, (0, 0, 0, 0)) := by decide +kernel
theorem s_X11_round_26 {ca : Nat → List Value → tM → tO} {M : tM} {L : tL} {x y : Int32} {S : List Value} : rn ca C_X11_round 26 L (.int y :: .int x :: S) M = rn ca C_X11_round 27 L (.int (x <<< (y &&& 31)) :: S) M := (rn_at k_X11_round_26).trans rfl
theorem k_X11_round_27 : lk 27 C_X11_round = some (.iconst 1, (0, 0, 0, 0)) := by decide +kernel
theorem s_X11_round_27 {ca : Nat → List Value → tM → tO} {M : tM} {L : tL} {S : List Value} : rn ca C_X11_round 27 L S M = rn ca C_X11_round 28 L (.int (iI 1) :: S) M := (rn_at k_X11_round_27).trans rfl
theorem k_X11_round_28 : lk 28 C_X11_round = some (.isub, (0, 0, 0, 0)) := by decide +kernel
theorem s_X11_round_28 {ca : Nat → List Value → tM → tO} {M : tM} {L : tL} {x y : Int32} {S : List Value} : rn ca C_X11_round 28 L (.int y :: .int x :: S) M = rn ca C_X11_round 29 L (.int (x - y) :: S) M := (rn_at k_X11_round_28).trans rfl
theorem k_X11_round_29 : lk 29 C_X11_round = some (.i2l, (0, 0, 0, 0)) := by decide +kernel
theorem s_X11_round_29 {ca : Nat → List Value → tM → tO} {M : tM} {L : tL} {x : Int32} {S : List Value} : rn ca C_X11_round 29 L (.int x :: S) M = rn ca C_X11_round 30 L (.long x.toInt64 :: S) M := (rn_at k_X11_round_29).trans rfl
theorem k_X11_round_30 : lk 30 C_X11_round = some (.invokestatic 87, (143, 3, 0, 197)) := by decide +kernel
theorem s_X11_round_30 {ca : Nat → List Value → tM → tO} {M : tM} {L : tL} {v1 v2 v3 : Value} : rn ca C_X11_round 30 L [v3, v2, v1] M = rnk ca C_X11_round 33 L [] (ca m_X11_isIn [v1, v2, v3] M) := (rn_at k_X11_round_30).trans rfl
theorem k_X11_round_33 : lk 33 C_X11_round = some (.ifCond .ne 10, (43, 0, 0, 0)) := by decide +kernel
theorem s_X11_round_33 {ca : Nat → List Value → tM → tO} {M : tM} {L : tL} {x : Int32} {S : List Value} : rn ca C_X11_round 33 L (.int x :: S) M = if ¬ x = iI 0 then rn ca C_X11_round 43 L S M else rn ca C_X11_round 36 L S M := (rn_at k_X11_round_33).trans rnx_ite
theorem k_X11_round_36 : lk 36 C_X11_round = some (.aload_n 0, (0, 0, 0, 0)) := by decide +kernel
theorem s_X11_round_36 {ca : Nat → List Value → tM → tO} {M : tM} {a1 a2 a3 a4 a5 a6 a7 a8 a9 a10 a11 a12 : Option Value} {x : Nat} {S : List Value} : rn ca C_X11_round 36 [some (.ref x), a1, a2, a3, a4, a5, a6, a7, a8, a9, a10, a11, a12] S M = rn ca C_X11_round 37 [some (.ref x), a1, a2, a3, a4, a5, a6, a7, a8, a9, a10, a11, a12] (.ref x :: S) M := (rn_at k_X11_round_36).trans rfl
theorem k_X11_round_37 : lk 37 C_X11_round = some (.bipush (-6), (0, 0, 0, 0)) := by decide +kernel
theorem s_X11_round_37 {ca : Nat → List Value → tM → tO} {M : tM} {L : tL} {S : List Value} : rn ca C_X11_round 37 L S M = rn ca C_X11_round 39 L (.int (iI (-6)) :: S) M := (rn_at k_X11_round_37).trans rfl
theorem k_X11_round_39 : lk 39 C_X11_round = some (.invokevirtual 233, (145, 1, 11, 749)) := by decide +kernel
theorem s_X11_round_39 {ca : Nat → List Value → tM → tO} {M : tM} {L : tL} {v1 : Value} {b : Nat} : rn ca C_X11_round 39 L [v1, .ref b] M = if clsO b = some 11 then rnk ca C_X11_round 42 L [] (ca m_X11_refuseBy10 [.ref b, v1] M) else none := (rn_at k_X11_round_39).trans rnx_ite
theorem k_X11_round_42 : lk 42 C_X11_round = some (.ireturn, (0, 0, 0, 0)) := by decide +kernel
theorem s_X11_round_42 {ca : Nat → List Value → tM → tO} {M : tM} {L : tL} {x : Int32} : rn ca C_X11_round 42 L [.int x] M = some (some (.int x), M) := (rn_at k_X11_round_42).trans rfl
theorem k_X11_round_43 : lk 43 C_X11_round = some (.iload_n 2, (0, 0, 0, 0)) := by decide +kernel
theorem s_X11_round_43 {ca : Nat → List Value → tM → tO} {M : tM} {a0 a1 a3 a4 a5 a6 a7 a8 a9 a10 a11 a12 : Option Value} {x : Int32} {S : List Value} : rn ca C_X11_round 43 [a0, a1, some (.int x), a3, a4, a5, a6, a7, a8, a9, a10, a11, a12] S M = rn ca C_X11_round 44 [a0, a1, some (.int x), a3, a4, a5, a6, a7, a8, a9, a10, a11, a12] (.int x :: S) M := (rn_at k_X11_round_43).trans rfl
theorem k_X11_round_44 : lk 44 C_X11_round = some (.invokestatic 252, (201, 1, 0, 860)) := by decide +kernel
theorem s_X11_round_44 {ca : Nat → List Value → tM → tO} {M : tM} {L : tL} {v1 : Value} : rn ca C_X11_round 44 L [v1] M = rnk ca C_X11_round 47 L [] (ca m_X11_ones [v1] M) := (rn_at k_X11_round_44).trans rfl
theorem k_X11_round_47 : lk 47 C_X11_round = some (.istore 5, (0, 0, 0, 0)) := by decide +kernel
theorem s_X11_round_47 {ca : Nat → List Value → tM → tO} {M : tM} {a0 a1 a2 a3 a4 a5 a6 a7 a8 a9 a10 a11 a12 : Option Value} {x : Int32} {S : List Value} : rn ca C_X11_round 47 [a0, a1, a2, a3, a4, a5, a6, a7, a8, a9, a10, a11, a12] (.int x :: S) M = rn ca C_X11_round 49 [a0, a1, a2, a3, a4, some (.int x), a6, a7, a8, a9, a10, a11, a12] S M := (rn_at k_X11_round_47).trans rfl
theorem k_X11_round_49 : lk 49 C_X11_round = some (.iload 4, (0, 0, 0, 0)) := by decide +kernel
theorem s_X11_round_49 {ca : Nat → List Value → tM → tO} {M : tM} {a0 a1 a2 a3 a5 a6 a7 a8 a9 a10 a11 a12 : Option Value} {x : Int32} {S : List Value} : rn ca C_X11_round 49 [a0, a1, a2, a3, some (.int x), a5, a6, a7, a8, a9, a10, a11, a12] S M = rn ca C_X11_round 51 [a0, a1, a2, a3, some (.int x), a5, a6, a7, a8, a9, a10, a11, a12] (.int x :: S) M := (rn_at k_X11_round_49).trans rfl
theorem k_X11_round_51 : lk 51 C_X11_round = some (.i2l, (0, 0, 0, 0)) := by decide +kernel
theorem s_X11_round_51 {ca : Nat → List Value → tM → tO} {M : tM} {L : tL} {x : Int32} {S : List Value} : rn ca C_X11_round 51 L (.int x :: S) M = rn ca C_X11_round 52 L (.long x.toInt64 :: S) M := (rn_at k_X11_round_51).trans rfl
theorem k_X11_round_52 : lk 52 C_X11_round = some (.ldc2_w 248, (0, 0, -1, 815)) := by decide +kernel
theorem s_X11_round_52 {ca : Nat → List Value → tM → tO} {M : tM} {L : tL} {S : List Value} : rn ca C_X11_round 52 L S M = rn ca C_X11_round 55 L (.long (jJ (-1)) :: S) M := (rn_at k_X11_round_52).trans rfl
theorem k_X11_round_55 : lk 55 C_X11_round = some (.iload 5, (0, 0, 0, 0)) := by decide +kernel
theorem s_X11_round_55 {ca : Nat → List Value → tM → tO} {M : tM} {a0 a1 a2 a3 a4 a6 a7 a8 a9 a10 a11 a12 : Option Value} {x : Int32} {S : List Value} : rn ca C_X11_round 55 [a0, a1, a2, a3, a4, some (.int x), a6, a7, a8, a9, a10, a11, a12] S M = rn ca C_X11_round 57 [a0, a1, a2, a3, a4, some (.int x), a6, a7, a8, a9, a10, a11, a12] (.int x :: S) M := (rn_at k_X11_round_55).trans rfl
theorem k_X11_round_57 : lk 57 C_X11_round = some (.iconst 1, (0, 0, 0, 0)) := by decide +kernel
theorem s_X11_round_57 {ca : Nat → List Value → tM → tO} {M : tM} {L : tL} {S : List Value} : rn ca C_X11_round 57 L S M = rn ca C_X11_round 58 L (.int (iI 1) :: S) M := (rn_at k_X11_round_57).trans rfl
theorem k_X11_round_58 : lk 58 C_X11_round = some (.isub, (0, 0, 0, 0)) := by decide +kernel
theorem s_X11_round_58 {ca : Nat → List Value → tM → tO} {M : tM} {L : tL} {x y : Int32} {S : List Value} : rn ca C_X11_round 58 L (.int y :: .int x :: S) M = rn ca C_X11_round 59 L (.int (x - y) :: S) M := (rn_at k_X11_round_58).trans rfl
theorem k_X11_round_59 : lk 59 C_X11_round = some (.i2l, (0, 0, 0, 0)) := by decide +kernel
theorem s_X11_round_59 {ca : Nat → List Value → tM → tO} {M : tM} {L : tL} {x : Int32} {S : List Value} : rn ca C_X11_round 59 L (.int x :: S) M = rn ca C_X11_round 60 L (.long x.toInt64 :: S) M := (rn_at k_X11_round_59).trans rfl
theorem k_X11_round_60 : lk 60 C_X11_round = some (.invokestatic 87, (143, 3, 0, 197)) := by decide +kernel
theorem s_X11_round_60 {ca : Nat → List Value → tM → tO} {M : tM} {L : tL} {v1 v2 v3 : Value} : rn ca C_X11_round 60 L [v3, v2, v1] M = rnk ca C_X11_round 63 L [] (ca m_X11_isIn [v1, v2, v3] M) := (rn_at k_X11_round_60).trans rfl
theorem k_X11_round_63 : lk 63 C_X11_round = some (.ifCond .ne 10, (73, 0, 0, 0)) := by decide +kernel
theorem s_X11_round_63 {ca : Nat → List Value → tM → tO} {M : tM} {L : tL} {x : Int32} {S : List Value} : rn ca C_X11_round 63 L (.int x :: S) M = if ¬ x = iI 0 then rn ca C_X11_round 73 L S M else rn ca C_X11_round 66 L S M := (rn_at k_X11_round_63).trans rnx_ite
theorem k_X11_round_66 : lk 66 C_X11_round = some (.aload_n 0, (0, 0, 0, 0)) := by decide +kernel
theorem s_X11_round_66 {ca : Nat → List Value → tM → tO} {M : tM} {a1 a2 a3 a4 a5 a6 a7 a8 a9 a10 a11 a12 : Option Value} {x : Nat} {S : List Value} : rn ca C_X11_round 66 [some (.ref x), a1, a2, a3, a4, a5, a6, a7, a8, a9, a10, a11, a12] S M = rn ca C_X11_round 67 [some (.ref x), a1, a2, a3, a4, a5, a6, a7, a8, a9, a10, a11, a12] (.ref x :: S) M := (rn_at k_X11_round_66).trans rfl
theorem k_X11_round_67 : lk 67 C_X11_round = some (.bipush (-5), (0, 0, 0, 0)) := by decide +kernel
theorem s_X11_round_67 {ca : Nat → List Value → tM → tO} {M : tM} {L : tL} {S : List Value} : rn ca C_X11_round 67 L S M = rn ca C_X11_round 69 L (.int (iI (-5)) :: S) M := (rn_at k_X11_round_67).trans rfl
theorem k_X11_round_69 : lk 69 C_X11_round = some (.invokevirtual 233, (145, 1, 11, 749)) := by decide +kernel
theorem s_X11_round_69 {ca : Nat → List Value → tM → tO} {M : tM} {L : tL} {v1 : Value} {b : Nat} : rn ca C_X11_round 69 L [v1, .ref b] M = if clsO b = some 11 then rnk ca C_X11_round 72 L [] (ca m_X11_refuseBy10 [.ref b, v1] M) else none := (rn_at k_X11_round_69).trans rnx_ite
theorem k_X11_round_72 : lk 72 C_X11_round = some (.ireturn, (0, 0, 0, 0)) := by decide +kernel
theorem s_X11_round_72 {ca : Nat → List Value → tM → tO} {M : tM} {L : tL} {x : Int32} : rn ca C_X11_round 72 L [.int x] M = some (some (.int x), M) := (rn_at k_X11_round_72).trans rfl
theorem k_X11_round_73 : lk 73 C_X11_round = some (.iload_n 3, (0, 0, 0, 0)) := by decide +kernel
theorem s_X11_round_73 {ca : Nat → List Value → tM → tO} {M : tM} {a0 a1 a2 a4 a5 a6 a7 a8 a9 a10 a11 a12 : Option Value} {x : Int32} {S : List Value} : rn ca C_X11_round 73 [a0, a1, a2, some (.int x), a4, a5, a6, a7, a8, a9, a10, a11, a12] S M = rn ca C_X11_round 74 [a0, a1, a2, some (.int x), a4, a5, a6, a7, a8, a9, a10, a11, a12] (.int x :: S) M := (rn_at k_X11_round_73).trans rfl
theorem k_X11_round_74 : lk 74 C_X11_round = some (.i2l, (0, 0, 0, 0)) := by decide +kernel
theorem s_X11_round_74 {ca : Nat → List Value → tM → tO} {M : tM} {L : tL} {x : Int32} {S : List Value} : rn ca C_X11_round 74 L (.int x :: S) M = rn ca C_X11_round 75 L (.long x.toInt64 :: S) M := (rn_at k_X11_round_74).trans rfl
theorem k_X11_round_75 : lk 75 C_X11_round = some (.lconst 0, (0, 0, 0, 0)) := by decide +kernel
theorem s_X11_round_75 {ca : Nat → List Value → tM → tO} {M : tM} {L : tL} {S : List Value} : rn ca C_X11_round 75 L S M = rn ca C_X11_round 76 L (.long (jJ 0) :: S) M := (rn_at k_X11_round_75).trans rfl
theorem k_X11_round_76 : lk 76 C_X11_round = some (.ldc2_w 255, (0, 0, 60, 859)) := by decide +kernel
theorem s_X11_round_76 {ca : Nat → List Value → tM → tO} {M : tM} {L : tL} {S : List Value} : rn ca C_X11_round 76 L S M = rn ca C_X11_round 79 L (.long (jJ 60) :: S) M := (rn_at k_X11_round_76).trans rfl
theorem k_X11_round_79 : lk 79 C_X11_round = some (.invokestatic 87, (143, 3, 0, 197)) := by decide +kernel
theorem s_X11_round_79 {ca : Nat → List Value → tM → tO} {M : tM} {L : tL} {v1 v2 v3 : Value} : rn ca C_X11_round 79 L [v3, v2, v1] M = rnk ca C_X11_round 82 L [] (ca m_X11_isIn [v1, v2, v3] M) := (rn_at k_X11_round_79).trans rfl
theorem k_X11_round_82 : lk 82 C_X11_round = some (.ifCond .ne 10, (92, 0, 0, 0)) := by decide +kernel
theorem s_X11_round_82 {ca : Nat → List Value → tM → tO} {M : tM} {L : tL} {x : Int32} {S : List Value} : rn ca C_X11_round 82 L (.int x :: S) M = if ¬ x = iI 0 then rn ca C_X11_round 92 L S M else rn ca C_X11_round 85 L S M := (rn_at k_X11_round_82).trans rnx_ite
theorem k_X11_round_85 : lk 85 C_X11_round = some (.aload_n 0, (0, 0, 0, 0)) := by decide +kernel
theorem s_X11_round_85 {ca : Nat → List Value → tM → tO} {M : tM} {a1 a2 a3 a4 a5 a6 a7 a8 a9 a10 a11 a12 : Option Value} {x : Nat} {S : List Value} : rn ca C_X11_round 85 [some (.ref x), a1, a2, a3, a4, a5, a6, a7, a8, a9, a10, a11, a12] S M = rn ca C_X11_round 86 [some (.ref x), a1, a2, a3, a4, a5, a6, a7, a8, a9, a10, a11, a12] (.ref x :: S) M := (rn_at k_X11_round_85).trans rfl
theorem k_X11_round_86 : lk 86 C_X11_round = some (.bipush (-6), (0, 0, 0, 0)) := by decide +kernel
theorem s_X11_round_86 {ca : Nat → List Value → tM → tO} {M : tM} {L : tL} {S : List Value} : rn ca C_X11_round 86 L S M = rn ca C_X11_round 88 L (.int (iI (-6)) :: S) M := (rn_at k_X11_round_86).trans rfl
theorem k_X11_round_88 : lk 88 C_X11_round = some (.invokevirtual 233, (145, 1, 11, 749)) := by decide +kernel
theorem s_X11_round_88 {ca : Nat → List Value → tM → tO} {M : tM} {L : tL} {v1 : Value} {b : Nat} : rn ca C_X11_round 88 L [v1, .ref b] M = if clsO b = some 11 then rnk ca C_X11_round 91 L [] (ca m_X11_refuseBy10 [.ref b, v1] M) else none := (rn_at k_X11_round_88).trans rnx_ite
theorem k_X11_round_91 : lk 91 C_X11_round = some (.ireturn, (0, 0, 0, 0)) := by decide +kernel
theorem s_X11_round_91 {ca : Nat → List Value → tM → tO} {M : tM} {L : tL} {x : Int32} : rn ca C_X11_round 91 L [.int x] M = some (some (.int x), M) := (rn_at k_X11_round_91).trans rfl
theorem k_X11_round_92 : lk 92 C_X11_round = some (.aload_n 0, (0, 0, 0, 0)) := by decide +kernel
theorem s_X11_round_92 {ca : Nat → List Value → tM → tO} {M : tM} {a1 a2 a3 a4 a5 a6 a7 a8 a9 a10 a11 a12 : Option Value} {x : Nat} {S : List Value} : rn ca C_X11_round 92 [some (.ref x), a1, a2, a3, a4, a5, a6, a7, a8, a9, a10, a11, a12] S M = rn ca C_X11_round 93 [some (.ref x), a1, a2, a3, a4, a5, a6, a7, a8, a9, a10, a11, a12] (.ref x :: S) M := (rn_at k_X11_round_92).trans rfl
theorem k_X11_round_93 : lk 93 C_X11_round = some (.iload_n 1, (0, 0, 0, 0)) := by decide +kernel
theorem s_X11_round_93 {ca : Nat → List Value → tM → tO} {M : tM} {a0 a2 a3 a4 a5 a6 a7 a8 a9 a10 a11 a12 : Option Value} {x : Int32} {S : List Value} : rn ca C_X11_round 93 [a0, some (.int x), a2, a3, a4, a5, a6, a7, a8, a9, a10, a11, a12] S M = rn ca C_X11_round 94 [a0, some (.int x), a2, a3, a4, a5, a6, a7, a8, a9, a10, a11, a12] (.int x :: S) M := (rn_at k_X11_round_93).trans rfl
theorem k_X11_round_94 : lk 94 C_X11_round = some (.iconst 0, (0, 0, 0, 0)) := by decide +kernel
theorem s_X11_round_94 {ca : Nat → List Value → tM → tO} {M : tM} {L : tL} {S : List Value} : rn ca C_X11_round 94 L S M = rn ca C_X11_round 95 L (.int (iI 0) :: S) M := (rn_at k_X11_round_94).trans rfl
theorem k_X11_round_95 : lk 95 C_X11_round = some (.invokevirtual 238, (195, 2, 11, 753)) := by decide +kernel
theorem s_X11_round_95 {ca : Nat → List Value → tM → tO} {M : tM} {L : tL} {v1 v2 : Value} {b : Nat} : rn ca C_X11_round 95 L [v2, v1, .ref b] M = if clsO b = some 11 then rnk ca C_X11_round 98 L [] (ca m_X11_fill [.ref b, v1, v2] M) else none := (rn_at k_X11_round_95).trans rnx_ite
theorem k_X11_round_98 : lk 98 C_X11_round = some (.aload_n 0, (0, 0, 0, 0)) := by decide +kernel
theorem s_X11_round_98 {ca : Nat → List Value → tM → tO} {M : tM} {a1 a2 a3 a4 a5 a6 a7 a8 a9 a10 a11 a12 : Option Value} {x : Nat} {S : List Value} : rn ca C_X11_round 98 [some (.ref x), a1, a2, a3, a4, a5, a6, a7, a8, a9, a10, a11, a12] S M = rn ca C_X11_round 99 [some (.ref x), a1, a2, a3, a4, a5, a6, a7, a8, a9, a10, a11, a12] (.ref x :: S) M := (rn_at k_X11_round_98).trans rfl
theorem k_X11_round_99 : lk 99 C_X11_round = some (.invokevirtual 257, (202, 0, 11, 863)) := by decide +kernel
theorem s_X11_round_99 {ca : Nat → List Value → tM → tO} {M : tM} {L : tL} {b : Nat} : rn ca C_X11_round 99 L [.ref b] M = if clsO b = some 11 then rnk ca C_X11_round 102 L [] (ca m_X11_fillRounds [.ref b] M) else none := (rn_at k_X11_round_99).trans rnx_ite
theorem k_X11_round_102 : lk 102 C_X11_round = some (.aload_n 0, (0, 0, 0, 0)) := by decide +kernel
theorem s_X11_round_102 {ca : Nat → List Value → tM → tO} {M : tM} {a1 a2 a3 a4 a5 a6 a7 a8 a9 a10 a11 a12 : Option Value} {x : Nat} {S : List Value} : rn ca C_X11_round 102 [some (.ref x), a1, a2, a3, a4, a5, a6, a7, a8, a9, a10, a11, a12] S M = rn ca C_X11_round 103 [some (.ref x), a1, a2, a3, a4, a5, a6, a7, a8, a9, a10, a11, a12] (.ref x :: S) M := (rn_at k_X11_round_102).trans rfl
theorem k_X11_round_103 : lk 103 C_X11_round = some (.getfield 67, (11, 15, 0, 159)) := by decide +kernel
theorem s_X11_round_103 {ca : Nat → List Value → tM → tO} {M : tM} {L : tL} {b : Nat} {S : List Value} : rn ca C_X11_round 103 L (.ref b :: S) M = if clsO b = some 11 then rn ca C_X11_round 106 L (fv M b 15 :: S) M else none := (rn_at k_X11_round_103).trans rnx_ite
theorem k_X11_round_106 : lk 106 C_X11_round = some (.bipush 8, (0, 0, 0, 0)) := by decide +kernel
theorem s_X11_round_106 {ca : Nat → List Value → tM → tO} {M : tM} {L : tL} {S : List Value} : rn ca C_X11_round 106 L S M = rn ca C_X11_round 108 L (.int (iI 8) :: S) M := (rn_at k_X11_round_106).trans rfl
theorem k_X11_round_108 : lk 108 C_X11_round = some (.iload_n 2, (0, 0, 0, 0)) := by decide +kernel
theorem s_X11_round_108 {ca : Nat → List Value → tM → tO} {M : tM} {a0 a1 a3 a4 a5 a6 a7 a8 a9 a10 a11 a12 : Option Value} {x : Int32} {S : List Value} : rn ca C_X11_round 108 [a0, a1, some (.int x), a3, a4, a5, a6, a7, a8, a9, a10, a11, a12] S M = rn ca C_X11_round 109 [a0, a1, some (.int x), a3, a4, a5, a6, a7, a8, a9, a10, a11, a12] (.int x :: S) M := (rn_at k_X11_round_108).trans rfl
theorem k_X11_round_109 : lk 109 C_X11_round = some (.imul, (0, 0, 0, 0)) := by decide +kernel
theorem s_X11_round_109 {ca : Nat → List Value → tM → tO} {M : tM} {L : tL} {x y : Int32} {S : List Value} : rn ca C_X11_round 109 L (.int y :: .int x :: S) M = rn ca C_X11_round 110 L (.int (x * y) :: S) M := (rn_at k_X11_round_109).trans rfl
theorem k_X11_round_110 : lk 110 C_X11_round = some (.aload_n 0, (0, 0, 0, 0)) := by decide +kernel
theorem s_X11_round_110 {ca : Nat → List Value → tM → tO} {M : tM} {a1 a2 a3 a4 a5 a6 a7 a8 a9 a10 a11 a12 : Option Value} {x : Nat} {S : List Value} : rn ca C_X11_round 110 [some (.ref x), a1, a2, a3, a4, a5, a6, a7, a8, a9, a10, a11, a12] S M = rn ca C_X11_round 111 [some (.ref x), a1, a2, a3, a4, a5, a6, a7, a8, a9, a10, a11, a12] (.ref x :: S) M := (rn_at k_X11_round_110).trans rfl
theorem k_X11_round_111 : lk 111 C_X11_round = some (.iload_n 1, (0, 0, 0, 0)) := by decide +kernel
theorem s_X11_round_111 {ca : Nat → List Value → tM → tO} {M : tM} {a0 a2 a3 a4 a5 a6 a7 a8 a9 a10 a11 a12 : Option Value} {x : Int32} {S : List Value} : rn ca C_X11_round 111 [a0, some (.int x), a2, a3, a4, a5, a6, a7, a8, a9, a10, a11, a12] S M = rn ca C_X11_round 112 [a0, some (.int x), a2, a3, a4, a5, a6, a7, a8, a9, a10, a11, a12] (.int x :: S) M := (rn_at k_X11_round_111).trans rfl
theorem k_X11_round_112 : lk 112 C_X11_round = some (.invokevirtual 137, (158, 1, 11, 331)) := by decide +kernel
theorem s_X11_round_112 {ca : Nat → List Value → tM → tO} {M : tM} {L : tL} {v1 : Value} {r0 : Int32} {r1 : Nat} {b : Nat} : rn ca C_X11_round 112 L [v1, .ref b, .int r0, .ref r1] M = if clsO b = some 11 then rnk ca C_X11_round 115 L [.int r0, .ref r1] (ca m_X11_at [.ref b, v1] M) else none := (rn_at k_X11_round_112).trans rnx_ite
theorem k_X11_round_115 : lk 115 C_X11_round = some (.iadd, (0, 0, 0, 0)) := by decide +kernel
theorem s_X11_round_115 {ca : Nat → List Value → tM → tO} {M : tM} {L : tL} {x y : Int32} {S : List Value} : rn ca C_X11_round 115 L (.int y :: .int x :: S) M = rn ca C_X11_round 116 L (.int (x + y) :: S) M := (rn_at k_X11_round_115).trans rfl
theorem k_X11_round_116 : lk 116 C_X11_round = some (.iaload, (0, 0, 0, 0)) := by decide +kernel
theorem s_X11_round_116 {ca : Nat → List Value → tM → tO} {M : tM} {L : tL} {a : Nat} {i : Int32} {S : List Value} : rn ca C_X11_round 116 L (.int i :: .ref a :: S) M = if (akind a = 0 ∨ akind a = 6 ∨ akind a = 7) ∧ inb i (alen M a) then rn ca C_X11_round 117 L (.int (M.1 a i.toInt.toNat) :: S) M else none := (rn_at k_X11_round_116).trans rnx_ite
theorem k_X11_round_117 : lk 117 C_X11_round = some (.istore 6, (0, 0, 0, 0)) := by decide +kernel
theorem s_X11_round_117 {ca : Nat → List Value → tM → tO} {M : tM} {a0 a1 a2 a3 a4 a5 a6 a7 a8 a9 a10 a11 a12 : Option Value} {x : Int32} {S : List Value} : rn ca C_X11_round 117 [a0, a1, a2, a3, a4, a5, a6, a7, a8, a9, a10, a11, a12] (.int x :: S) M = rn ca C_X11_round 119 [a0, a1, a2, a3, a4, a5, some (.int x), a7, a8, a9, a10, a11, a12] S M := (rn_at k_X11_round_117).trans rfl
theorem k_X11_round_119 : lk 119 C_X11_round = some (.iload 6, (0, 0, 0, 0)) := by decide +kernel
theorem s_X11_round_119 {ca : Nat → List Value → tM → tO} {M : tM} {a0 a1 a2 a3 a4 a5 a7 a8 a9 a10 a11 a12 : Option Value} {x : Int32} {S : List Value} : rn ca C_X11_round 119 [a0, a1, a2, a3, a4, a5, some (.int x), a7, a8, a9, a10, a11, a12] S M = rn ca C_X11_round 121 [a0, a1, a2, a3, a4, a5, some (.int x), a7, a8, a9, a10, a11, a12] (.int x :: S) M := (rn_at k_X11_round_119).trans rfl
theorem k_X11_round_121 : lk 121 C_X11_round = some (.sipush 9999, (0, 0, 0, 0)) := by decide +kernel
theorem s_X11_round_121 {ca : Nat → List Value → tM → tO} {M : tM} {L : tL} {S : List Value} : rn ca C_X11_round 121 L S M = rn ca C_X11_round 124 L (.int (iI 9999) :: S) M := (rn_at k_X11_round_121).trans rfl
theorem k_X11_round_124 : lk 124 C_X11_round = some (.if_icmp .lt 5, (129, 0, 0, 0)) := by decide +kernel
theorem s_X11_round_124 {ca : Nat → List Value → tM → tO} {M : tM} {L : tL} {x y : Int32} {S : List Value} : rn ca C_X11_round 124 L (.int y :: .int x :: S) M = if x < y then rn ca C_X11_round 129 L S M else rn ca C_X11_round 127 L S M := (rn_at k_X11_round_124).trans rnx_ite
theorem k_X11_round_127 : lk 127 C_X11_round = some (.iconst (-1), (0, 0, 0, 0)) := by decide +kernel
theorem s_X11_round_127 {ca : Nat → List Value → tM → tO} {M : tM} {L : tL} {S : List Value} : rn ca C_X11_round 127 L S M = rn ca C_X11_round 128 L (.int (iI (-1)) :: S) M := (rn_at k_X11_round_127).trans rfl
theorem k_X11_round_128 : lk 128 C_X11_round = some (.ireturn, (0, 0, 0, 0)) := by decide +kernel
theorem s_X11_round_128 {ca : Nat → List Value → tM → tO} {M : tM} {L : tL} {x : Int32} : rn ca C_X11_round 128 L [.int x] M = some (some (.int x), M) := (rn_at k_X11_round_128).trans rfl
theorem k_X11_round_129 : lk 129 C_X11_round = some (.iload 4, (0, 0, 0, 0)) := by decide +kernel
theorem s_X11_round_129 {ca : Nat → List Value → tM → tO} {M : tM} {a0 a1 a2 a3 a5 a6 a7 a8 a9 a10 a11 a12 : Option Value} {x : Int32} {S : List Value} : rn ca C_X11_round 129 [a0, a1, a2, a3, some (.int x), a5, a6, a7, a8, a9, a10, a11, a12] S M = rn ca C_X11_round 131 [a0, a1, a2, a3, some (.int x), a5, a6, a7, a8, a9, a10, a11, a12] (.int x :: S) M := (rn_at k_X11_round_129).trans rfl
theorem k_X11_round_131 : lk 131 C_X11_round = some (.iconst (-1), (0, 0, 0, 0)) := by decide +kernel
theorem s_X11_round_131 {ca : Nat → List Value → tM → tO} {M : tM} {L : tL} {S : List Value} : rn ca C_X11_round 131 L S M = rn ca C_X11_round 132 L (.int (iI (-1)) :: S) M := (rn_at k_X11_round_131).trans rfl
theorem k_X11_round_132 : lk 132 C_X11_round = some (.if_icmp .ne 11, (143, 0, 0, 0)) := by decide +kernel
theorem s_X11_round_132 {ca : Nat → List Value → tM → tO} {M : tM} {L : tL} {x y : Int32} {S : List Value} : rn ca C_X11_round 132 L (.int y :: .int x :: S) M = if ¬ x = y then rn ca C_X11_round 143 L S M else rn ca C_X11_round 135 L S M := (rn_at k_X11_round_132).trans rnx_ite
theorem k_X11_round_135 : lk 135 C_X11_round = some (.iload 6, (0, 0, 0, 0)) := by decide +kernel
theorem s_X11_round_135 {ca : Nat → List Value → tM → tO} {M : tM} {a0 a1 a2 a3 a4 a5 a7 a8 a9 a10 a11 a12 : Option Value} {x : Int32} {S : List Value} : rn ca C_X11_round 135 [a0, a1, a2, a3, a4, a5, some (.int x), a7, a8, a9, a10, a11, a12] S M = rn ca C_X11_round 137 [a0, a1, a2, a3, a4, a5, some (.int x), a7, a8, a9, a10, a11, a12] (.int x :: S) M := (rn_at k_X11_round_135).trans rfl
theorem k_X11_round_137 : lk 137 C_X11_round = some (.iload_n 3, (0, 0, 0, 0)) := by decide +kernel
theorem s_X11_round_137 {ca : Nat → List Value → tM → tO} {M : tM} {a0 a1 a2 a4 a5 a6 a7 a8 a9 a10 a11 a12 : Option Value} {x : Int32} {S : List Value} : rn ca C_X11_round 137 [a0, a1, a2, some (.int x), a4, a5, a6, a7, a8, a9, a10, a11, a12] S M = rn ca C_X11_round 138 [a0, a1, a2, some (.int x), a4, a5, a6, a7, a8, a9, a10, a11, a12] (.int x :: S) M := (rn_at k_X11_round_137).trans rfl
theorem k_X11_round_138 : lk 138 C_X11_round = some (.iload 5, (0, 0, 0, 0)) := by decide +kernel
theorem s_X11_round_138 {ca : Nat → List Value → tM → tO} {M : tM} {a0 a1 a2 a3 a4 a6 a7 a8 a9 a10 a11 a12 : Option Value} {x : Int32} {S : List Value} : rn ca C_X11_round 138 [a0, a1, a2, a3, a4, some (.int x), a6, a7, a8, a9, a10, a11, a12] S M = rn ca C_X11_round 140 [a0, a1, a2, a3, a4, some (.int x), a6, a7, a8, a9, a10, a11, a12] (.int x :: S) M := (rn_at k_X11_round_138).trans rfl
theorem k_X11_round_140 : lk 140 C_X11_round = some (.imul, (0, 0, 0, 0)) := by decide +kernel
theorem s_X11_round_140 {ca : Nat → List Value → tM → tO} {M : tM} {L : tL} {x y : Int32} {S : List Value} : rn ca C_X11_round 140 L (.int y :: .int x :: S) M = rn ca C_X11_round 141 L (.int (x * y) :: S) M := (rn_at k_X11_round_140).trans rfl
theorem k_X11_round_141 : lk 141 C_X11_round = some (.iadd, (0, 0, 0, 0)) := by decide +kernel
theorem s_X11_round_141 {ca : Nat → List Value → tM → tO} {M : tM} {L : tL} {x y : Int32} {S : List Value} : rn ca C_X11_round 141 L (.int y :: .int x :: S) M = rn ca C_X11_round 142 L (.int (x + y) :: S) M := (rn_at k_X11_round_141).trans rfl
theorem k_X11_round_142 : lk 142 C_X11_round = some (.ireturn, (0, 0, 0, 0)) := by decide +kernel
theorem s_X11_round_142 {ca : Nat → List Value → tM → tO} {M : tM} {L : tL} {x : Int32} : rn ca C_X11_round 142 L [.int x] M = some (some (.int x), M) := (rn_at k_X11_round_142).trans rfl
theorem k_X11_round_143 : lk 143 C_X11_round = some (.iload_n 2, (0, 0, 0, 0)) := by decide +kernel
theorem s_X11_round_143 {ca : Nat → List Value → tM → tO} {M : tM} {a0 a1 a3 a4 a5 a6 a7 a8 a9 a10 a11 a12 : Option Value} {x : Int32} {S : List Value} : rn ca C_X11_round 143 [a0, a1, some (.int x), a3, a4, a5, a6, a7, a8, a9, a10, a11, a12] S M = rn ca C_X11_round 144 [a0, a1, some (.int x), a3, a4, a5, a6, a7, a8, a9, a10, a11, a12] (.int x :: S) M := (rn_at k_X11_round_143).trans rfl
theorem k_X11_round_144 : lk 144 C_X11_round = some (.istore 7, (0, 0, 0, 0)) := by decide +kernel
theorem s_X11_round_144 {ca : Nat → List Value → tM → tO} {M : tM} {a0 a1 a2 a3 a4 a5 a6 a7 a8 a9 a10 a11 a12 : Option Value} {x : Int32} {S : List Value} : rn ca C_X11_round 144 [a0, a1, a2, a3, a4, a5, a6, a7, a8, a9, a10, a11, a12] (.int x :: S) M = rn ca C_X11_round 146 [a0, a1, a2, a3, a4, a5, a6, some (.int x), a8, a9, a10, a11, a12] S M := (rn_at k_X11_round_144).trans rfl
theorem k_X11_round_146 : lk 146 C_X11_round = some (.aload_n 0, (0, 0, 0, 0)) := by decide +kernel
theorem s_X11_round_146 {ca : Nat → List Value → tM → tO} {M : tM} {a1 a2 a3 a4 a5 a6 a7 a8 a9 a10 a11 a12 : Option Value} {x : Nat} {S : List Value} : rn ca C_X11_round 146 [some (.ref x), a1, a2, a3, a4, a5, a6, a7, a8, a9, a10, a11, a12] S M = rn ca C_X11_round 147 [some (.ref x), a1, a2, a3, a4, a5, a6, a7, a8, a9, a10, a11, a12] (.ref x :: S) M := (rn_at k_X11_round_146).trans rfl
theorem k_X11_round_147 : lk 147 C_X11_round = some (.iload_n 1, (0, 0, 0, 0)) := by decide +kernel
theorem s_X11_round_147 {ca : Nat → List Value → tM → tO} {M : tM} {a0 a2 a3 a4 a5 a6 a7 a8 a9 a10 a11 a12 : Option Value} {x : Int32} {S : List Value} : rn ca C_X11_round 147 [a0, some (.int x), a2, a3, a4, a5, a6, a7, a8, a9, a10, a11, a12] S M = rn ca C_X11_round 148 [a0, some (.int x), a2, a3, a4, a5, a6, a7, a8, a9, a10, a11, a12] (.int x :: S) M := (rn_at k_X11_round_147).trans rfl
theorem k_X11_round_148 : lk 148 C_X11_round = some (.invokevirtual 137, (158, 1, 11, 331)) := by decide +kernel
theorem s_X11_round_148 {ca : Nat → List Value → tM → tO} {M : tM} {L : tL} {v1 : Value} {b : Nat} : rn ca C_X11_round 148 L [v1, .ref b] M = if clsO b = some 11 then rnk ca C_X11_round 151 L [] (ca m_X11_at [.ref b, v1] M) else none := (rn_at k_X11_round_148).trans rnx_ite
theorem k_X11_round_151 : lk 151 C_X11_round = some (.istore 8, (0, 0, 0, 0)) := by decide +kernel
theorem s_X11_round_151 {ca : Nat → List Value → tM → tO} {M : tM} {a0 a1 a2 a3 a4 a5 a6 a7 a8 a9 a10 a11 a12 : Option Value} {x : Int32} {S : List Value} : rn ca C_X11_round 151 [a0, a1, a2, a3, a4, a5, a6, a7, a8, a9, a10, a11, a12] (.int x :: S) M = rn ca C_X11_round 153 [a0, a1, a2, a3, a4, a5, a6, a7, some (.int x), a9, a10, a11, a12] S M := (rn_at k_X11_round_151).trans rfl
theorem k_X11_round_153 : lk 153 C_X11_round = some (.iconst 0, (0, 0, 0, 0)) := by decide +kernel
theorem s_X11_round_153 {ca : Nat → List Value → tM → tO} {M : tM} {L : tL} {S : List Value} : rn ca C_X11_round 153 L S M = rn ca C_X11_round 154 L (.int (iI 0) :: S) M := (rn_at k_X11_round_153).trans rfl
theorem k_X11_round_154 : lk 154 C_X11_round = some (.istore 9, (0, 0, 0, 0)) := by decide +kernel
theorem s_X11_round_154 {ca : Nat → List Value → tM → tO} {M : tM} {a0 a1 a2 a3 a4 a5 a6 a7 a8 a9 a10 a11 a12 : Option Value} {x : Int32} {S : List Value} : rn ca C_X11_round 154 [a0, a1, a2, a3, a4, a5, a6, a7, a8, a9, a10, a11, a12] (.int x :: S) M = rn ca C_X11_round 156 [a0, a1, a2, a3, a4, a5, a6, a7, a8, some (.int x), a10, a11, a12] S M := (rn_at k_X11_round_154).trans rfl
theorem k_X11_round_156 : lk 156 C_X11_round = some (.iload 9, (0, 0, 0, 0)) := by decide +kernel
theorem s_X11_round_156 {ca : Nat → List Value → tM → tO} {M : tM} {a0 a1 a2 a3 a4 a5 a6 a7 a8 a10 a11 a12 : Option Value} {x : Int32} {S : List Value} : rn ca C_X11_round 156 [a0, a1, a2, a3, a4, a5, a6, a7, a8, some (.int x), a10, a11, a12] S M = rn ca C_X11_round 158 [a0, a1, a2, a3, a4, a5, a6, a7, a8, some (.int x), a10, a11, a12] (.int x :: S) M := (rn_at k_X11_round_156).trans rfl
theorem k_X11_round_158 : lk 158 C_X11_round = some (.iload 4, (0, 0, 0, 0)) := by decide +kernel
theorem s_X11_round_158 {ca : Nat → List Value → tM → tO} {M : tM} {a0 a1 a2 a3 a5 a6 a7 a8 a9 a10 a11 a12 : Option Value} {x : Int32} {S : List Value} : rn ca C_X11_round 158 [a0, a1, a2, a3, some (.int x), a5, a6, a7, a8, a9, a10, a11, a12] S M = rn ca C_X11_round 160 [a0, a1, a2, a3, some (.int x), a5, a6, a7, a8, a9, a10, a11, a12] (.int x :: S) M := (rn_at k_X11_round_158).trans rfl
theorem k_X11_round_160 : lk 160 C_X11_round = some (.if_icmp .gt 127, (287, 0, 0, 0)) := by decide +kernel
theorem s_X11_round_160 {ca : Nat → List Value → tM → tO} {M : tM} {L : tL} {x y : Int32} {S : List Value} : rn ca C_X11_round 160 L (.int y :: .int x :: S) M = if y < x then rn ca C_X11_round 287 L S M else rn ca C_X11_round 163 L S M := (rn_at k_X11_round_160).trans rnx_ite
theorem k_X11_round_163 : lk 163 C_X11_round = some (.iconst (-1), (0, 0, 0, 0)) := by decide +kernel
theorem s_X11_round_163 {ca : Nat → List Value → tM → tO} {M : tM} {L : tL} {S : List Value} : rn ca C_X11_round 163 L S M = rn ca C_X11_round 164 L (.int (iI (-1)) :: S) M := (rn_at k_X11_round_163).trans rfl
theorem k_X11_round_164 : lk 164 C_X11_round = some (.istore 10, (0, 0, 0, 0)) := by decide +kernel
theorem s_X11_round_164 {ca : Nat → List Value → tM → tO} {M : tM} {a0 a1 a2 a3 a4 a5 a6 a7 a8 a9 a10 a11 a12 : Option Value} {x : Int32} {S : List Value} : rn ca C_X11_round 164 [a0, a1, a2, a3, a4, a5, a6, a7, a8, a9, a10, a11, a12] (.int x :: S) M = rn ca C_X11_round 166 [a0, a1, a2, a3, a4, a5, a6, a7, a8, a9, some (.int x), a11, a12] S M := (rn_at k_X11_round_164).trans rfl
theorem k_X11_round_166 : lk 166 C_X11_round = some (.aload_n 0, (0, 0, 0, 0)) := by decide +kernel
theorem s_X11_round_166 {ca : Nat → List Value → tM → tO} {M : tM} {a1 a2 a3 a4 a5 a6 a7 a8 a9 a10 a11 a12 : Option Value} {x : Nat} {S : List Value} : rn ca C_X11_round 166 [some (.ref x), a1, a2, a3, a4, a5, a6, a7, a8, a9, a10, a11, a12] S M = rn ca C_X11_round 167 [some (.ref x), a1, a2, a3, a4, a5, a6, a7, a8, a9, a10, a11, a12] (.ref x :: S) M := (rn_at k_X11_round_166).trans rfl
theorem k_X11_round_167 : lk 167 C_X11_round = some (.getfield 17, (11, 1, 0, 147)) := by decide +kernel
theorem s_X11_round_167 {ca : Nat → List Value → tM → tO} {M : tM} {L : tL} {b : Nat} {S : List Value} : rn ca C_X11_round 167 L (.ref b :: S) M = if clsO b = some 11 then rn ca C_X11_round 170 L (fv M b 1 :: S) M else none := (rn_at k_X11_round_167).trans rnx_ite
theorem k_X11_round_170 : lk 170 C_X11_round = some (.bipush 108, (0, 0, 0, 0)) := by decide +kernel
theorem s_X11_round_170 {ca : Nat → List Value → tM → tO} {M : tM} {L : tL} {S : List Value} : rn ca C_X11_round 170 L S M = rn ca C_X11_round 172 L (.int (iI 108) :: S) M := (rn_at k_X11_round_170).trans rfl
theorem k_X11_round_172 : lk 172 C_X11_round = some (.iaload, (0, 0, 0, 0)) := by decide +kernel
theorem s_X11_round_172 {ca : Nat → List Value → tM → tO} {M : tM} {L : tL} {a : Nat} {i : Int32} {S : List Value} : rn ca C_X11_round 172 L (.int i :: .ref a :: S) M = if (akind a = 0 ∨ akind a = 6 ∨ akind a = 7) ∧ inb i (alen M a) then rn ca C_X11_round 173 L (.int (M.1 a i.toInt.toNat) :: S) M else none := (rn_at k_X11_round_172).trans rnx_ite
theorem k_X11_round_173 : lk 173 C_X11_round = some (.iconst 1, (0, 0, 0, 0)) := by decide +kernel
theorem s_X11_round_173 {ca : Nat → List Value → tM → tO} {M : tM} {L : tL} {S : List Value} : rn ca C_X11_round 173 L S M = rn ca C_X11_round 174 L (.int (iI 1) :: S) M := (rn_at k_X11_round_173).trans rfl
theorem k_X11_round_174 : lk 174 C_X11_round = some (.isub, (0, 0, 0, 0)) := by decide +kernel
theorem s_X11_round_174 {ca : Nat → List Value → tM → tO} {M : tM} {L : tL} {x y : Int32} {S : List Value} : rn ca C_X11_round 174 L (.int y :: .int x :: S) M = rn ca C_X11_round 175 L (.int (x - y) :: S) M := (rn_at k_X11_round_174).trans rfl
theorem k_X11_round_175 : lk 175 C_X11_round = some (.istore 11, (0, 0, 0, 0)) := by decide +kernel
theorem s_X11_round_175 {ca : Nat → List Value → tM → tO} {M : tM} {a0 a1 a2 a3 a4 a5 a6 a7 a8 a9 a10 a11 a12 : Option Value} {x : Int32} {S : List Value} : rn ca C_X11_round 175 [a0, a1, a2, a3, a4, a5, a6, a7, a8, a9, a10, a11, a12] (.int x :: S) M = rn ca C_X11_round 177 [a0, a1, a2, a3, a4, a5, a6, a7, a8, a9, a10, some (.int x), a12] S M := (rn_at k_X11_round_175).trans rfl
theorem k_X11_round_177 : lk 177 C_X11_round = some (.iload 11, (0, 0, 0, 0)) := by decide +kernel
theorem s_X11_round_177 {ca : Nat → List Value → tM → tO} {M : tM} {a0 a1 a2 a3 a4 a5 a6 a7 a8 a9 a10 a12 : Option Value} {x : Int32} {S : List Value} : rn ca C_X11_round 177 [a0, a1, a2, a3, a4, a5, a6, a7, a8, a9, a10, some (.int x), a12] S M = rn ca C_X11_round 179 [a0, a1, a2, a3, a4, a5, a6, a7, a8, a9, a10, some (.int x), a12] (.int x :: S) M := (rn_at k_X11_round_177).trans rfl
theorem k_X11_round_179 : lk 179 C_X11_round = some (.ifCond .lt 89, (268, 0, 0, 0)) := by decide +kernel
theorem s_X11_round_179 {ca : Nat → List Value → tM → tO} {M : tM} {L : tL} {x : Int32} {S : List Value} : rn ca C_X11_round 179 L (.int x :: S) M = if x < iI 0 then rn ca C_X11_round 268 L S M else rn ca C_X11_round 182 L S M := (rn_at k_X11_round_179).trans rnx_ite
theorem k_X11_round_182 : lk 182 C_X11_round = some (.iload 7, (0, 0, 0, 0)) := by decide +kernel
theorem s_X11_round_182 {ca : Nat → List Value → tM → tO} {M : tM} {a0 a1 a2 a3 a4 a5 a6 a8 a9 a10 a11 a12 : Option Value} {x : Int32} {S : List Value} : rn ca C_X11_round 182 [a0, a1, a2, a3, a4, a5, a6, some (.int x), a8, a9, a10, a11, a12] S M = rn ca C_X11_round 184 [a0, a1, a2, a3, a4, a5, a6, some (.int x), a8, a9, a10, a11, a12] (.int x :: S) M := (rn_at k_X11_round_182).trans rfl
theorem k_X11_round_184 : lk 184 C_X11_round = some (.iload 11, (0, 0, 0, 0)) := by decide +kernel
theorem s_X11_round_184 {ca : Nat → List Value → tM → tO} {M : tM} {a0 a1 a2 a3 a4 a5 a6 a7 a8 a9 a10 a12 : Option Value} {x : Int32} {S : List Value} : rn ca C_X11_round 184 [a0, a1, a2, a3, a4, a5, a6, a7, a8, a9, a10, some (.int x), a12] S M = rn ca C_X11_round 186 [a0, a1, a2, a3, a4, a5, a6, a7, a8, a9, a10, some (.int x), a12] (.int x :: S) M := (rn_at k_X11_round_184).trans rfl
theorem k_X11_round_186 : lk 186 C_X11_round = some (.ishr, (0, 0, 0, 0)) := by decide +kernel
theorem s_X11_round_186 {ca : Nat → List Value → tM → tO} {M : tM} {L : tL} {x y : Int32} {S : List Value} : rn ca C_X11_round 186 L (.int y :: .int x :: S) M = rn ca C_X11_round 187 L (.int (x >>> (y &&& 31)) :: S) M := (rn_at k_X11_round_186).trans rfl
theorem k_X11_round_187 : lk 187 C_X11_round = some (.iconst 1, (0, 0, 0, 0)) := by decide +kernel
theorem s_X11_round_187 {ca : Nat → List Value → tM → tO} {M : tM} {L : tL} {S : List Value} : rn ca C_X11_round 187 L S M = rn ca C_X11_round 188 L (.int (iI 1) :: S) M := (rn_at k_X11_round_187).trans rfl
theorem k_X11_round_188 : lk 188 C_X11_round = some (.iand, (0, 0, 0, 0)) := by decide +kernel
theorem s_X11_round_188 {ca : Nat → List Value → tM → tO} {M : tM} {L : tL} {x y : Int32} {S : List Value} : rn ca C_X11_round 188 L (.int y :: .int x :: S) M = rn ca C_X11_round 189 L (.int (x &&& y) :: S) M := (rn_at k_X11_round_188).trans rfl
theorem k_X11_round_189 : lk 189 C_X11_round = some (.iconst 1, (0, 0, 0, 0)) := by decide +kernel
theorem s_X11_round_189 {ca : Nat → List Value → tM → tO} {M : tM} {L : tL} {S : List Value} : rn ca C_X11_round 189 L S M = rn ca C_X11_round 190 L (.int (iI 1) :: S) M := (rn_at k_X11_round_189).trans rfl
theorem k_X11_round_190 : lk 190 C_X11_round = some (.if_icmp .ne 55, (245, 0, 0, 0)) := by decide +kernel
theorem s_X11_round_190 {ca : Nat → List Value → tM → tO} {M : tM} {L : tL} {x y : Int32} {S : List Value} : rn ca C_X11_round 190 L (.int y :: .int x :: S) M = if ¬ x = y then rn ca C_X11_round 245 L S M else rn ca C_X11_round 193 L S M := (rn_at k_X11_round_190).trans rnx_ite
theorem k_X11_round_193 : lk 193 C_X11_round = some (.aload_n 0, (0, 0, 0, 0)) := by decide +kernel
theorem s_X11_round_193 {ca : Nat → List Value → tM → tO} {M : tM} {a1 a2 a3 a4 a5 a6 a7 a8 a9 a10 a11 a12 : Option Value} {x : Nat} {S : List Value} : rn ca C_X11_round 193 [some (.ref x), a1, a2, a3, a4, a5, a6, a7, a8, a9, a10, a11, a12] S M = rn ca C_X11_round 194 [some (.ref x), a1, a2, a3, a4, a5, a6, a7, a8, a9, a10, a11, a12] (.ref x :: S) M := (rn_at k_X11_round_193).trans rfl
theorem k_X11_round_194 : lk 194 C_X11_round = some (.getfield 64, (11, 14, 0, 158)) := by decide +kernel
theorem s_X11_round_194 {ca : Nat → List Value → tM → tO} {M : tM} {L : tL} {b : Nat} {S : List Value} : rn ca C_X11_round 194 L (.ref b :: S) M = if clsO b = some 11 then rn ca C_X11_round 197 L (fv M b 14 :: S) M else none := (rn_at k_X11_round_194).trans rnx_ite
theorem k_X11_round_197 : lk 197 C_X11_round = some (.bipush 8, (0, 0, 0, 0)) := by decide +kernel
theorem s_X11_round_197 {ca : Nat → List Value → tM → tO} {M : tM} {L : tL} {S : List Value} : rn ca C_X11_round 197 L S M = rn ca C_X11_round 199 L (.int (iI 8) :: S) M := (rn_at k_X11_round_197).trans rfl
theorem k_X11_round_199 : lk 199 C_X11_round = some (.iload 8, (0, 0, 0, 0)) := by decide +kernel
theorem s_X11_round_199 {ca : Nat → List Value → tM → tO} {M : tM} {a0 a1 a2 a3 a4 a5 a6 a7 a9 a10 a11 a12 : Option Value} {x : Int32} {S : List Value} : rn ca C_X11_round 199 [a0, a1, a2, a3, a4, a5, a6, a7, some (.int x), a9, a10, a11, a12] S M = rn ca C_X11_round 201 [a0, a1, a2, a3, a4, a5, a6, a7, some (.int x), a9, a10, a11, a12] (.int x :: S) M := (rn_at k_X11_round_199).trans rfl
theorem k_X11_round_201 : lk 201 C_X11_round = some (.imul, (0, 0, 0, 0)) := by decide +kernel
theorem s_X11_round_201 {ca : Nat → List Value → tM → tO} {M : tM} {L : tL} {x y : Int32} {S : List Value} : rn ca C_X11_round 201 L (.int y :: .int x :: S) M = rn ca C_X11_round 202 L (.int (x * y) :: S) M := (rn_at k_X11_round_201).trans rfl
theorem k_X11_round_202 : lk 202 C_X11_round = some (.iload 11, (0, 0, 0, 0)) := by decide +kernel
theorem s_X11_round_202 {ca : Nat → List Value → tM → tO} {M : tM} {a0 a1 a2 a3 a4 a5 a6 a7 a8 a9 a10 a12 : Option Value} {x : Int32} {S : List Value} : rn ca C_X11_round 202 [a0, a1, a2, a3, a4, a5, a6, a7, a8, a9, a10, some (.int x), a12] S M = rn ca C_X11_round 204 [a0, a1, a2, a3, a4, a5, a6, a7, a8, a9, a10, some (.int x), a12] (.int x :: S) M := (rn_at k_X11_round_202).trans rfl
theorem k_X11_round_204 : lk 204 C_X11_round = some (.iadd, (0, 0, 0, 0)) := by decide +kernel
theorem s_X11_round_204 {ca : Nat → List Value → tM → tO} {M : tM} {L : tL} {x y : Int32} {S : List Value} : rn ca C_X11_round 204 L (.int y :: .int x :: S) M = rn ca C_X11_round 205 L (.int (x + y) :: S) M := (rn_at k_X11_round_204).trans rfl
theorem k_X11_round_205 : lk 205 C_X11_round = some (.iaload, (0, 0, 0, 0)) := by decide +kernel
theorem s_X11_round_205 {ca : Nat → List Value → tM → tO} {M : tM} {L : tL} {a : Nat} {i : Int32} {S : List Value} : rn ca C_X11_round 205 L (.int i :: .ref a :: S) M = if (akind a = 0 ∨ akind a = 6 ∨ akind a = 7) ∧ inb i (alen M a) then rn ca C_X11_round 206 L (.int (M.1 a i.toInt.toNat) :: S) M else none := (rn_at k_X11_round_205).trans rnx_ite
theorem k_X11_round_206 : lk 206 C_X11_round = some (.aload_n 0, (0, 0, 0, 0)) := by decide +kernel
theorem s_X11_round_206 {ca : Nat → List Value → tM → tO} {M : tM} {a1 a2 a3 a4 a5 a6 a7 a8 a9 a10 a11 a12 : Option Value} {x : Nat} {S : List Value} : rn ca C_X11_round 206 [some (.ref x), a1, a2, a3, a4, a5, a6, a7, a8, a9, a10, a11, a12] S M = rn ca C_X11_round 207 [some (.ref x), a1, a2, a3, a4, a5, a6, a7, a8, a9, a10, a11, a12] (.ref x :: S) M := (rn_at k_X11_round_206).trans rfl
theorem k_X11_round_207 : lk 207 C_X11_round = some (.getfield 67, (11, 15, 0, 159)) := by decide +kernel
theorem s_X11_round_207 {ca : Nat → List Value → tM → tO} {M : tM} {L : tL} {b : Nat} {S : List Value} : rn ca C_X11_round 207 L (.ref b :: S) M = if clsO b = some 11 then rn ca C_X11_round 210 L (fv M b 15 :: S) M else none := (rn_at k_X11_round_207).trans rnx_ite
theorem k_X11_round_210 : lk 210 C_X11_round = some (.bipush 8, (0, 0, 0, 0)) := by decide +kernel
theorem s_X11_round_210 {ca : Nat → List Value → tM → tO} {M : tM} {L : tL} {S : List Value} : rn ca C_X11_round 210 L S M = rn ca C_X11_round 212 L (.int (iI 8) :: S) M := (rn_at k_X11_round_210).trans rfl
theorem k_X11_round_212 : lk 212 C_X11_round = some (.iload 7, (0, 0, 0, 0)) := by decide +kernel
theorem s_X11_round_212 {ca : Nat → List Value → tM → tO} {M : tM} {a0 a1 a2 a3 a4 a5 a6 a8 a9 a10 a11 a12 : Option Value} {x : Int32} {S : List Value} : rn ca C_X11_round 212 [a0, a1, a2, a3, a4, a5, a6, some (.int x), a8, a9, a10, a11, a12] S M = rn ca C_X11_round 214 [a0, a1, a2, a3, a4, a5, a6, some (.int x), a8, a9, a10, a11, a12] (.int x :: S) M := (rn_at k_X11_round_212).trans rfl
theorem k_X11_round_214 : lk 214 C_X11_round = some (.iconst 1, (0, 0, 0, 0)) := by decide +kernel
theorem s_X11_round_214 {ca : Nat → List Value → tM → tO} {M : tM} {L : tL} {S : List Value} : rn ca C_X11_round 214 L S M = rn ca C_X11_round 215 L (.int (iI 1) :: S) M := (rn_at k_X11_round_214).trans rfl
theorem k_X11_round_215 : lk 215 C_X11_round = some (.iload 11, (0, 0, 0, 0)) := by decide +kernel
theorem s_X11_round_215 {ca : Nat → List Value → tM → tO} {M : tM} {a0 a1 a2 a3 a4 a5 a6 a7 a8 a9 a10 a12 : Option Value} {x : Int32} {S : List Value} : rn ca C_X11_round 215 [a0, a1, a2, a3, a4, a5, a6, a7, a8, a9, a10, some (.int x), a12] S M = rn ca C_X11_round 217 [a0, a1, a2, a3, a4, a5, a6, a7, a8, a9, a10, some (.int x), a12] (.int x :: S) M := (rn_at k_X11_round_215).trans rfl
theorem k_X11_round_217 : lk 217 C_X11_round = some (.ishl, (0, 0, 0, 0)) := by decide +kernel
theorem s_X11_round_217 {ca : Nat → List Value → tM → tO} {M : tM} {L : tL} {x y : Int32} {S : List Value} : rn ca C_X11_round 217 L (.int y :: .int x :: S) M = rn ca C_X11_round 218 L (.int (x <<< (y &&& 31)) :: S) M := (rn_at k_X11_round_217).trans rfl
theorem k_X11_round_218 : lk 218 C_X11_round = some (.isub, (0, 0, 0, 0)) := by decide +kernel
theorem s_X11_round_218 {ca : Nat → List Value → tM → tO} {M : tM} {L : tL} {x y : Int32} {S : List Value} : rn ca C_X11_round 218 L (.int y :: .int x :: S) M = rn ca C_X11_round 219 L (.int (x - y) :: S) M := (rn_at k_X11_round_218).trans rfl
theorem k_X11_round_219 : lk 219 C_X11_round = some (.imul, (0, 0, 0, 0)) := by decide +kernel
theorem s_X11_round_219 {ca : Nat → List Value → tM → tO} {M : tM} {L : tL} {x y : Int32} {S : List Value} : rn ca C_X11_round 219 L (.int y :: .int x :: S) M = rn ca C_X11_round 220 L (.int (x * y) :: S) M := (rn_at k_X11_round_219).trans rfl
theorem k_X11_round_220 : lk 220 C_X11_round = some (.iload 11, (0, 0, 0, 0)) := by decide +kernel
theorem s_X11_round_220 {ca : Nat → List Value → tM → tO} {M : tM} {a0 a1 a2 a3 a4 a5 a6 a7 a8 a9 a10 a12 : Option Value} {x : Int32} {S : List Value} : rn ca C_X11_round 220 [a0, a1, a2, a3, a4, a5, a6, a7, a8, a9, a10, some (.int x), a12] S M = rn ca C_X11_round 222 [a0, a1, a2, a3, a4, a5, a6, a7, a8, a9, a10, some (.int x), a12] (.int x :: S) M := (rn_at k_X11_round_220).trans rfl
theorem k_X11_round_222 : lk 222 C_X11_round = some (.iadd, (0, 0, 0, 0)) := by decide +kernel
theorem s_X11_round_222 {ca : Nat → List Value → tM → tO} {M : tM} {L : tL} {x y : Int32} {S : List Value} : rn ca C_X11_round 222 L (.int y :: .int x :: S) M = rn ca C_X11_round 223 L (.int (x + y) :: S) M := (rn_at k_X11_round_222).trans rfl
theorem k_X11_round_223 : lk 223 C_X11_round = some (.iaload, (0, 0, 0, 0)) := by decide +kernel
theorem s_X11_round_223 {ca : Nat → List Value → tM → tO} {M : tM} {L : tL} {a : Nat} {i : Int32} {S : List Value} : rn ca C_X11_round 223 L (.int i :: .ref a :: S) M = if (akind a = 0 ∨ akind a = 6 ∨ akind a = 7) ∧ inb i (alen M a) then rn ca C_X11_round 224 L (.int (M.1 a i.toInt.toNat) :: S) M else none := (rn_at k_X11_round_223).trans rnx_ite
theorem k_X11_round_224 : lk 224 C_X11_round = some (.iadd, (0, 0, 0, 0)) := by decide +kernel
theorem s_X11_round_224 {ca : Nat → List Value → tM → tO} {M : tM} {L : tL} {x y : Int32} {S : List Value} : rn ca C_X11_round 224 L (.int y :: .int x :: S) M = rn ca C_X11_round 225 L (.int (x + y) :: S) M := (rn_at k_X11_round_224).trans rfl
theorem k_X11_round_225 : lk 225 C_X11_round = some (.aload_n 0, (0, 0, 0, 0)) := by decide +kernel
theorem s_X11_round_225 {ca : Nat → List Value → tM → tO} {M : tM} {a1 a2 a3 a4 a5 a6 a7 a8 a9 a10 a11 a12 : Option Value} {x : Nat} {S : List Value} : rn ca C_X11_round 225 [some (.ref x), a1, a2, a3, a4, a5, a6, a7, a8, a9, a10, a11, a12] S M = rn ca C_X11_round 226 [some (.ref x), a1, a2, a3, a4, a5, a6, a7, a8, a9, a10, a11, a12] (.ref x :: S) M := (rn_at k_X11_round_225).trans rfl
theorem k_X11_round_226 : lk 226 C_X11_round = some (.getfield 67, (11, 15, 0, 159)) := by decide +kernel
theorem s_X11_round_226 {ca : Nat → List Value → tM → tO} {M : tM} {L : tL} {b : Nat} {S : List Value} : rn ca C_X11_round 226 L (.ref b :: S) M = if clsO b = some 11 then rn ca C_X11_round 229 L (fv M b 15 :: S) M else none := (rn_at k_X11_round_226).trans rnx_ite
theorem k_X11_round_229 : lk 229 C_X11_round = some (.bipush 8, (0, 0, 0, 0)) := by decide +kernel
theorem s_X11_round_229 {ca : Nat → List Value → tM → tO} {M : tM} {L : tL} {S : List Value} : rn ca C_X11_round 229 L S M = rn ca C_X11_round 231 L (.int (iI 8) :: S) M := (rn_at k_X11_round_229).trans rfl
theorem k_X11_round_231 : lk 231 C_X11_round = some (.iload 7, (0, 0, 0, 0)) := by decide +kernel
theorem s_X11_round_231 {ca : Nat → List Value → tM → tO} {M : tM} {a0 a1 a2 a3 a4 a5 a6 a8 a9 a10 a11 a12 : Option Value} {x : Int32} {S : List Value} : rn ca C_X11_round 231 [a0, a1, a2, a3, a4, a5, a6, some (.int x), a8, a9, a10, a11, a12] S M = rn ca C_X11_round 233 [a0, a1, a2, a3, a4, a5, a6, some (.int x), a8, a9, a10, a11, a12] (.int x :: S) M := (rn_at k_X11_round_231).trans rfl
theorem k_X11_round_233 : lk 233 C_X11_round = some (.imul, (0, 0, 0, 0)) := by decide +kernel
theorem s_X11_round_233 {ca : Nat → List Value → tM → tO} {M : tM} {L : tL} {x y : Int32} {S : List Value} : rn ca C_X11_round 233 L (.int y :: .int x :: S) M = rn ca C_X11_round 234 L (.int (x * y) :: S) M := (rn_at k_X11_round_233).trans rfl
theorem k_X11_round_234 : lk 234 C_X11_round = some (.iload 8, (0, 0, 0, 0)) := by decide +kernel
theorem s_X11_round_234 {ca : Nat → List Value → tM → tO} {M : tM} {a0 a1 a2 a3 a4 a5 a6 a7 a9 a10 a11 a12 : Option Value} {x : Int32} {S : List Value} : rn ca C_X11_round 234 [a0, a1, a2, a3, a4, a5, a6, a7, some (.int x), a9, a10, a11, a12] S M = rn ca C_X11_round 236 [a0, a1, a2, a3, a4, a5, a6, a7, some (.int x), a9, a10, a11, a12] (.int x :: S) M := (rn_at k_X11_round_234).trans rfl
theorem k_X11_round_236 : lk 236 C_X11_round = some (.iadd, (0, 0, 0, 0)) := by decide +kernel
theorem s_X11_round_236 {ca : Nat → List Value → tM → tO} {M : tM} {L : tL} {x y : Int32} {S : List Value} : rn ca C_X11_round 236 L (.int y :: .int x :: S) M = rn ca C_X11_round 237 L (.int (x + y) :: S) M := (rn_at k_X11_round_236).trans rfl
theorem k_X11_round_237 : lk 237 C_X11_round = some (.iaload, (0, 0, 0, 0)) := by decide +kernel
theorem s_X11_round_237 {ca : Nat → List Value → tM → tO} {M : tM} {L : tL} {a : Nat} {i : Int32} {S : List Value} : rn ca C_X11_round 237 L (.int i :: .ref a :: S) M = if (akind a = 0 ∨ akind a = 6 ∨ akind a = 7) ∧ inb i (alen M a) then rn ca C_X11_round 238 L (.int (M.1 a i.toInt.toNat) :: S) M else none := (rn_at k_X11_round_237).trans rnx_ite
theorem k_X11_round_238 : lk 238 C_X11_round = some (.if_icmp .ne 7, (245, 0, 0, 0)) := by decide +kernel
theorem s_X11_round_238 {ca : Nat → List Value → tM → tO} {M : tM} {L : tL} {x y : Int32} {S : List Value} : rn ca C_X11_round 238 L (.int y :: .int x :: S) M = if ¬ x = y then rn ca C_X11_round 245 L S M else rn ca C_X11_round 241 L S M := (rn_at k_X11_round_238).trans rnx_ite
theorem k_X11_round_241 : lk 241 C_X11_round = some (.iconst 1, (0, 0, 0, 0)) := by decide +kernel
theorem s_X11_round_241 {ca : Nat → List Value → tM → tO} {M : tM} {L : tL} {S : List Value} : rn ca C_X11_round 241 L S M = rn ca C_X11_round 242 L (.int (iI 1) :: S) M := (rn_at k_X11_round_241).trans rfl
theorem k_X11_round_242 : lk 242 C_X11_round = some (.goto 4, (246, 0, 0, 0)) := by decide +kernel
theorem s_X11_round_242 {ca : Nat → List Value → tM → tO} {M : tM} {L : tL} {S : List Value} : rn ca C_X11_round 242 L S M = rn ca C_X11_round 246 L S M := (rn_at k_X11_round_242).trans rfl
theorem k_X11_round_245 : lk 245 C_X11_round = some (.iconst 0, (0, 0, 0, 0)) := by decide +kernel
theorem s_X11_round_245 {ca : Nat → List Value → tM → tO} {M : tM} {L : tL} {S : List Value} : rn ca C_X11_round 245 L S M = rn ca C_X11_round 246 L (.int (iI 0) :: S) M := (rn_at k_X11_round_245).trans rfl
theorem k_X11_round_246 : lk 246 C_X11_round = some (.istore 12, (0, 0, 0, 0)) := by decide +kernel
theorem s_X11_round_246 {ca : Nat → List Value → tM → tO} {M : tM} {a0 a1 a2 a3 a4 a5 a6 a7 a8 a9 a10 a11 a12 : Option Value} {x : Int32} {S : List Value} : rn ca C_X11_round 246 [a0, a1, a2, a3, a4, a5, a6, a7, a8, a9, a10, a11, a12] (.int x :: S) M = rn ca C_X11_round 248 [a0, a1, a2, a3, a4, a5, a6, a7, a8, a9, a10, a11, some (.int x)] S M := (rn_at k_X11_round_246).trans rfl
theorem k_X11_round_248 : lk 248 C_X11_round = some (.iload 12, (0, 0, 0, 0)) := by decide +kernel
theorem s_X11_round_248 {ca : Nat → List Value → tM → tO} {M : tM} {a0 a1 a2 a3 a4 a5 a6 a7 a8 a9 a10 a11 : Option Value} {x : Int32} {S : List Value} : rn ca C_X11_round 248 [a0, a1, a2, a3, a4, a5, a6, a7, a8, a9, a10, a11, some (.int x)] S M = rn ca C_X11_round 250 [a0, a1, a2, a3, a4, a5, a6, a7, a8, a9, a10, a11, some (.int x)] (.int x :: S) M := (rn_at k_X11_round_248).trans rfl
theorem k_X11_round_250 : lk 250 C_X11_round = some (.ifCond .eq 8, (258, 0, 0, 0)) := by decide +kernel
theorem s_X11_round_250 {ca : Nat → List Value → tM → tO} {M : tM} {L : tL} {x : Int32} {S : List Value} : rn ca C_X11_round 250 L (.int x :: S) M = if x = iI 0 then rn ca C_X11_round 258 L S M else rn ca C_X11_round 253 L S M := (rn_at k_X11_round_250).trans rnx_ite
theorem k_X11_round_253 : lk 253 C_X11_round = some (.iload 11, (0, 0, 0, 0)) := by decide +kernel
theorem s_X11_round_253 {ca : Nat → List Value → tM → tO} {M : tM} {a0 a1 a2 a3 a4 a5 a6 a7 a8 a9 a10 a12 : Option Value} {x : Int32} {S : List Value} : rn ca C_X11_round 253 [a0, a1, a2, a3, a4, a5, a6, a7, a8, a9, a10, some (.int x), a12] S M = rn ca C_X11_round 255 [a0, a1, a2, a3, a4, a5, a6, a7, a8, a9, a10, some (.int x), a12] (.int x :: S) M := (rn_at k_X11_round_253).trans rfl
theorem k_X11_round_255 : lk 255 C_X11_round = some (.goto 5, (260, 0, 0, 0)) := by decide +kernel
theorem s_X11_round_255 {ca : Nat → List Value → tM → tO} {M : tM} {L : tL} {S : List Value} : rn ca C_X11_round 255 L S M = rn ca C_X11_round 260 L S M := (rn_at k_X11_round_255).trans rfl
theorem k_X11_round_258 : lk 258 C_X11_round = some (.iload 10, (0, 0, 0, 0)) := by decide +kernel
theorem s_X11_round_258 {ca : Nat → List Value → tM → tO} {M : tM} {a0 a1 a2 a3 a4 a5 a6 a7 a8 a9 a11 a12 : Option Value} {x : Int32} {S : List Value} : rn ca C_X11_round 258 [a0, a1, a2, a3, a4, a5, a6, a7, a8, a9, some (.int x), a11, a12] S M = rn ca C_X11_round 260 [a0, a1, a2, a3, a4, a5, a6, a7, a8, a9, some (.int x), a11, a12] (.int x :: S) M := (rn_at k_X11_round_258).trans rfl
theorem k_X11_round_260 : lk 260 C_X11_round = some (.istore 10, (0, 0, 0, 0)) := by decide +kernel
theorem s_X11_round_260 {ca : Nat → List Value → tM → tO} {M : tM} {a0 a1 a2 a3 a4 a5 a6 a7 a8 a9 a10 a11 a12 : Option Value} {x : Int32} {S : List Value} : rn ca C_X11_round 260 [a0, a1, a2, a3, a4, a5, a6, a7, a8, a9, a10, a11, a12] (.int x :: S) M = rn ca C_X11_round 262 [a0, a1, a2, a3, a4, a5, a6, a7, a8, a9, some (.int x), a11, a12] S M := (rn_at k_X11_round_260).trans rfl
theorem k_X11_round_262 : lk 262 C_X11_round = some (.iinc 11 (-1), (0, 0, 0, 0)) := by decide +kernel
theorem s_X11_round_262 {ca : Nat → List Value → tM → tO} {M : tM} {a0 a1 a2 a3 a4 a5 a6 a7 a8 a9 a10 a12 : Option Value} {x : Int32} {S : List Value} : rn ca C_X11_round 262 [a0, a1, a2, a3, a4, a5, a6, a7, a8, a9, a10, some (.int x), a12] S M = rn ca C_X11_round 265 [a0, a1, a2, a3, a4, a5, a6, a7, a8, a9, a10, some (.int (x + iI (-1))), a12] S M := (rn_at k_X11_round_262).trans rfl
theorem k_X11_round_265 : lk 265 C_X11_round = some (.goto (-88), (177, 0, 0, 0)) := by decide +kernel
theorem s_X11_round_265 {ca : Nat → List Value → tM → tO} {M : tM} {L : tL} {S : List Value} : rn ca C_X11_round 265 L S M = rn ca C_X11_round 177 L S M := (rn_at k_X11_round_265).trans rfl
theorem k_X11_round_268 : lk 268 C_X11_round = some (.iload 7, (0, 0, 0, 0)) := by decide +kernel
theorem s_X11_round_268 {ca : Nat → List Value → tM → tO} {M : tM} {a0 a1 a2 a3 a4 a5 a6 a8 a9 a10 a11 a12 : Option Value} {x : Int32} {S : List Value} : rn ca C_X11_round 268 [a0, a1, a2, a3, a4, a5, a6, some (.int x), a8, a9, a10, a11, a12] S M = rn ca C_X11_round 270 [a0, a1, a2, a3, a4, a5, a6, some (.int x), a8, a9, a10, a11, a12] (.int x :: S) M := (rn_at k_X11_round_268).trans rfl
theorem k_X11_round_270 : lk 270 C_X11_round = some (.iconst 1, (0, 0, 0, 0)) := by decide +kernel
theorem s_X11_round_270 {ca : Nat → List Value → tM → tO} {M : tM} {L : tL} {S : List Value} : rn ca C_X11_round 270 L S M = rn ca C_X11_round 271 L (.int (iI 1) :: S) M := (rn_at k_X11_round_270).trans rfl
theorem k_X11_round_271 : lk 271 C_X11_round = some (.iload 10, (0, 0, 0, 0)) := by decide +kernel
theorem s_X11_round_271 {ca : Nat → List Value → tM → tO} {M : tM} {a0 a1 a2 a3 a4 a5 a6 a7 a8 a9 a11 a12 : Option Value} {x : Int32} {S : List Value} : rn ca C_X11_round 271 [a0, a1, a2, a3, a4, a5, a6, a7, a8, a9, some (.int x), a11, a12] S M = rn ca C_X11_round 273 [a0, a1, a2, a3, a4, a5, a6, a7, a8, a9, some (.int x), a11, a12] (.int x :: S) M := (rn_at k_X11_round_271).trans rfl
theorem k_X11_round_273 : lk 273 C_X11_round = some (.ishl, (0, 0, 0, 0)) := by decide +kernel
theorem s_X11_round_273 {ca : Nat → List Value → tM → tO} {M : tM} {L : tL} {x y : Int32} {S : List Value} : rn ca C_X11_round 273 L (.int y :: .int x :: S) M = rn ca C_X11_round 274 L (.int (x <<< (y &&& 31)) :: S) M := (rn_at k_X11_round_273).trans rfl
theorem k_X11_round_274 : lk 274 C_X11_round = some (.isub, (0, 0, 0, 0)) := by decide +kernel
theorem s_X11_round_274 {ca : Nat → List Value → tM → tO} {M : tM} {L : tL} {x y : Int32} {S : List Value} : rn ca C_X11_round 274 L (.int y :: .int x :: S) M = rn ca C_X11_round 275 L (.int (x - y) :: S) M := (rn_at k_X11_round_274).trans rfl
theorem k_X11_round_275 : lk 275 C_X11_round = some (.istore 7, (0, 0, 0, 0)) := by decide +kernel
theorem s_X11_round_275 {ca : Nat → List Value → tM → tO} {M : tM} {a0 a1 a2 a3 a4 a5 a6 a7 a8 a9 a10 a11 a12 : Option Value} {x : Int32} {S : List Value} : rn ca C_X11_round 275 [a0, a1, a2, a3, a4, a5, a6, a7, a8, a9, a10, a11, a12] (.int x :: S) M = rn ca C_X11_round 277 [a0, a1, a2, a3, a4, a5, a6, some (.int x), a8, a9, a10, a11, a12] S M := (rn_at k_X11_round_275).trans rfl
theorem k_X11_round_277 : lk 277 C_X11_round = some (.iload 10, (0, 0, 0, 0)) := by decide +kernel
theorem s_X11_round_277 {ca : Nat → List Value → tM → tO} {M : tM} {a0 a1 a2 a3 a4 a5 a6 a7 a8 a9 a11 a12 : Option Value} {x : Int32} {S : List Value} : rn ca C_X11_round 277 [a0, a1, a2, a3, a4, a5, a6, a7, a8, a9, some (.int x), a11, a12] S M = rn ca C_X11_round 279 [a0, a1, a2, a3, a4, a5, a6, a7, a8, a9, some (.int x), a11, a12] (.int x :: S) M := (rn_at k_X11_round_277).trans rfl
theorem k_X11_round_279 : lk 279 C_X11_round = some (.istore 8, (0, 0, 0, 0)) := by decide +kernel
theorem s_X11_round_279 {ca : Nat → List Value → tM → tO} {M : tM} {a0 a1 a2 a3 a4 a5 a6 a7 a8 a9 a10 a11 a12 : Option Value} {x : Int32} {S : List Value} : rn ca C_X11_round 279 [a0, a1, a2, a3, a4, a5, a6, a7, a8, a9, a10, a11, a12] (.int x :: S) M = rn ca C_X11_round 281 [a0, a1, a2, a3, a4, a5, a6, a7, some (.int x), a9, a10, a11, a12] S M := (rn_at k_X11_round_279).trans rfl
theorem k_X11_round_281 : lk 281 C_X11_round = some (.iinc 9 1, (0, 0, 0, 0)) := by decide +kernel
theorem s_X11_round_281 {ca : Nat → List Value → tM → tO} {M : tM} {a0 a1 a2 a3 a4 a5 a6 a7 a8 a10 a11 a12 : Option Value} {x : Int32} {S : List Value} : rn ca C_X11_round 281 [a0, a1, a2, a3, a4, a5, a6, a7, a8, some (.int x), a10, a11, a12] S M = rn ca C_X11_round 284 [a0, a1, a2, a3, a4, a5, a6, a7, a8, some (.int (x + iI 1)), a10, a11, a12] S M := (rn_at k_X11_round_281).trans rfl
theorem k_X11_round_284 : lk 284 C_X11_round = some (.goto (-128), (156, 0, 0, 0)) := by decide +kernel
theorem s_X11_round_284 {ca : Nat → List Value → tM → tO} {M : tM} {L : tL} {S : List Value} : rn ca C_X11_round 284 L S M = rn ca C_X11_round 156 L S M := (rn_at k_X11_round_284).trans rfl
theorem k_X11_round_287 : lk 287 C_X11_round = some (.iload 8, (0, 0, 0, 0)) := by decide +kernel
theorem s_X11_round_287 {ca : Nat → List Value → tM → tO} {M : tM} {a0 a1 a2 a3 a4 a5 a6 a7 a9 a10 a11 a12 : Option Value} {x : Int32} {S : List Value} : rn ca C_X11_round 287 [a0, a1, a2, a3, a4, a5, a6, a7, some (.int x), a9, a10, a11, a12] S M = rn ca C_X11_round 289 [a0, a1, a2, a3, a4, a5, a6, a7, some (.int x), a9, a10, a11, a12] (.int x :: S) M := (rn_at k_X11_round_287).trans rfl
theorem k_X11_round_289 : lk 289 C_X11_round = some (.ireturn, (0, 0, 0, 0)) := by decide +kernel
theorem s_X11_round_289 {ca : Nat → List Value → tM → tO} {M : tM} {L : tL} {x : Int32} : rn ca C_X11_round 289 L [.int x] M = some (some (.int x), M) := (rn_at k_X11_round_289).trans rfl
theorem k_X11_meet_0 : lk 0 C_X11_meet = some (.aload_n 0, (0, 0, 0, 0)) := by decide +kernel
theorem s_X11_meet_0 {ca : Nat → List Value → tM → tO} {M : tM} {a1 a2 a3 a4 a5 a6 a7 : Option Value} {x : Nat} {S : List Value} : rn ca C_X11_meet 0 [some (.ref x), a1, a2, a3, a4, a5, a6, a7] S M = rn ca C_X11_meet 1 [some (.ref x), a1, a2, a3, a4, a5, a6, a7] (.ref x :: S) M := (rn_at k_X11_meet_0).trans rfl
theorem k_X11_meet_1 : lk 1 C_X11_meet = some (.iload_n 1, (0, 0, 0, 0)) := by decide +kernel
theorem s_X11_meet_1 {ca : Nat → List Value → tM → tO} {M : tM} {a0 a2 a3 a4 a5 a6 a7 : Option Value} {x : Int32} {S : List Value} : rn ca C_X11_meet 1 [a0, some (.int x), a2, a3, a4, a5, a6, a7] S M = rn ca C_X11_meet 2 [a0, some (.int x), a2, a3, a4, a5, a6, a7] (.int x :: S) M := (rn_at k_X11_meet_1).trans rfl
theorem k_X11_meet_2 : lk 2 C_X11_meet = some (.i2l, (0, 0, 0, 0)) := by decide +kernel
theorem s_X11_meet_2 {ca : Nat → List Value → tM → tO} {M : tM} {L : tL} {x : Int32} {S : List Value} : rn ca C_X11_meet 2 L (.int x :: S) M = rn ca C_X11_meet 3 L (.long x.toInt64 :: S) M := (rn_at k_X11_meet_2).trans rfl
theorem k_X11_meet_3 : lk 3 C_X11_meet = some (.invokevirtual 114, (149, 1, 11, 302)) := by decide +kernel
theorem s_X11_meet_3 {ca : Nat → List Value → tM → tO} {M : tM} {L : tL} {v1 : Value} {b : Nat} : rn ca C_X11_meet 3 L [v1, .ref b] M = if clsO b = some 11 then rnk ca C_X11_meet 6 L [] (ca m_X11_isCapsule [.ref b, v1] M) else none := (rn_at k_X11_meet_3).trans rnx_ite
theorem k_X11_meet_6 : lk 6 C_X11_meet = some (.ifCond .eq 17, (23, 0, 0, 0)) := by decide +kernel
theorem s_X11_meet_6 {ca : Nat → List Value → tM → tO} {M : tM} {L : tL} {x : Int32} {S : List Value} : rn ca C_X11_meet 6 L (.int x :: S) M = if x = iI 0 then rn ca C_X11_meet 23 L S M else rn ca C_X11_meet 9 L S M := (rn_at k_X11_meet_6).trans rnx_ite
theorem k_X11_meet_9 : lk 9 C_X11_meet = some (.aload_n 0, (0, 0, 0, 0)) := by decide +kernel
theorem s_X11_meet_9 {ca : Nat → List Value → tM → tO} {M : tM} {a1 a2 a3 a4 a5 a6 a7 : Option Value} {x : Nat} {S : List Value} : rn ca C_X11_meet 9 [some (.ref x), a1, a2, a3, a4, a5, a6, a7] S M = rn ca C_X11_meet 10 [some (.ref x), a1, a2, a3, a4, a5, a6, a7] (.ref x :: S) M := (rn_at k_X11_meet_9).trans rfl
theorem k_X11_meet_10 : lk 10 C_X11_meet = some (.iload_n 2, (0, 0, 0, 0)) := by decide +kernel
theorem s_X11_meet_10 {ca : Nat → List Value → tM → tO} {M : tM} {a0 a1 a3 a4 a5 a6 a7 : Option Value} {x : Int32} {S : List Value} : rn ca C_X11_meet 10 [a0, a1, some (.int x), a3, a4, a5, a6, a7] S M = rn ca C_X11_meet 11 [a0, a1, some (.int x), a3, a4, a5, a6, a7] (.int x :: S) M := (rn_at k_X11_meet_10).trans rfl
theorem k_X11_meet_11 : lk 11 C_X11_meet = some (.i2l, (0, 0, 0, 0)) := by decide +kernel
theorem s_X11_meet_11 {ca : Nat → List Value → tM → tO} {M : tM} {L : tL} {x : Int32} {S : List Value} : rn ca C_X11_meet 11 L (.int x :: S) M = rn ca C_X11_meet 12 L (.long x.toInt64 :: S) M := (rn_at k_X11_meet_11).trans rfl
theorem k_X11_meet_12 : lk 12 C_X11_meet = some (.invokevirtual 114, (149, 1, 11, 302)) := by decide +kernel
theorem s_X11_meet_12 {ca : Nat → List Value → tM → tO} {M : tM} {L : tL} {v1 : Value} {b : Nat} : rn ca C_X11_meet 12 L [v1, .ref b] M = if clsO b = some 11 then rnk ca C_X11_meet 15 L [] (ca m_X11_isCapsule [.ref b, v1] M) else none := (rn_at k_X11_meet_12).trans rnx_ite
theorem k_X11_meet_15 : lk 15 C_X11_meet = some (.ifCond .eq 8, (23, 0, 0, 0)) := by decide +kernel
theorem s_X11_meet_15 {ca : Nat → List Value → tM → tO} {M : tM} {L : tL} {x : Int32} {S : List Value} : rn ca C_X11_meet 15 L (.int x :: S) M = if x = iI 0 then rn ca C_X11_meet 23 L S M else rn ca C_X11_meet 18 L S M := (rn_at k_X11_meet_15).trans rnx_ite
theorem k_X11_meet_18 : lk 18 C_X11_meet = some (.iload_n 1, (0, 0, 0, 0)) := by decide +kernel
theorem s_X11_meet_18 {ca : Nat → List Value → tM → tO} {M : tM} {a0 a2 a3 a4 a5 a6 a7 : Option Value} {x : Int32} {S : List Value} : rn ca C_X11_meet 18 [a0, some (.int x), a2, a3, a4, a5, a6, a7] S M = rn ca C_X11_meet 19 [a0, some (.int x), a2, a3, a4, a5, a6, a7] (.int x :: S) M := (rn_at k_X11_meet_18).trans rfl
theorem k_X11_meet_19 : lk 19 C_X11_meet = some (.iload_n 2, (0, 0, 0, 0)) := by decide +kernel
theorem s_X11_meet_19 {ca : Nat → List Value → tM → tO} {M : tM} {a0 a1 a3 a4 a5 a6 a7 : Option Value} {x : Int32} {S : List Value} : rn ca C_X11_meet 19 [a0, a1, some (.int x), a3, a4, a5, a6, a7] S M = rn ca C_X11_meet 20 [a0, a1, some (.int x), a3, a4, a5, a6, a7] (.int x :: S) M := (rn_at k_X11_meet_19).trans rfl
theorem k_X11_meet_20 : lk 20 C_X11_meet = some (.if_icmp .ne 9, (29, 0, 0, 0)) := by decide +kernel
theorem s_X11_meet_20 {ca : Nat → List Value → tM → tO} {M : tM} {L : tL} {x y : Int32} {S : List Value} : rn ca C_X11_meet 20 L (.int y :: .int x :: S) M = if ¬ x = y then rn ca C_X11_meet 29 L S M else rn ca C_X11_meet 23 L S M := (rn_at k_X11_meet_20).trans rnx_ite
theorem k_X11_meet_23 : lk 23 C_X11_meet = some (.aload_n 0, (0, 0, 0, 0)) := by decide +kernel
theorem s_X11_meet_23 {ca : Nat → List Value → tM → tO} {M : tM} {a1 a2 a3 a4 a5 a6 a7 : Option Value} {x : Nat} {S : List Value} : rn ca C_X11_meet 23 [some (.ref x), a1, a2, a3, a4, a5, a6, a7] S M = rn ca C_X11_meet 24 [some (.ref x), a1, a2, a3, a4, a5, a6, a7] (.ref x :: S) M := (rn_at k_X11_meet_23).trans rfl
theorem k_X11_meet_24 : lk 24 C_X11_meet = some (.iconst (-1), (0, 0, 0, 0)) := by decide +kernel
theorem s_X11_meet_24 {ca : Nat → List Value → tM → tO} {M : tM} {L : tL} {S : List Value} : rn ca C_X11_meet 24 L S M = rn ca C_X11_meet 25 L (.int (iI (-1)) :: S) M := (rn_at k_X11_meet_24).trans rfl
theorem k_X11_meet_25 : lk 25 C_X11_meet = some (.invokevirtual 233, (145, 1, 11, 749)) := by decide +kernel
theorem s_X11_meet_25 {ca : Nat → List Value → tM → tO} {M : tM} {L : tL} {v1 : Value} {b : Nat} : rn ca C_X11_meet 25 L [v1, .ref b] M = if clsO b = some 11 then rnk ca C_X11_meet 28 L [] (ca m_X11_refuseBy10 [.ref b, v1] M) else none := (rn_at k_X11_meet_25).trans rnx_ite
theorem k_X11_meet_28 : lk 28 C_X11_meet = some (.ireturn, (0, 0, 0, 0)) := by decide +kernel
theorem s_X11_meet_28 {ca : Nat → List Value → tM → tO} {M : tM} {L : tL} {x : Int32} : rn ca C_X11_meet 28 L [.int x] M = some (some (.int x), M) := (rn_at k_X11_meet_28).trans rfl
theorem k_X11_meet_29 : lk 29 C_X11_meet = some (.iload_n 3, (0, 0, 0, 0)) := by decide +kernel
theorem s_X11_meet_29 {ca : Nat → List Value → tM → tO} {M : tM} {a0 a1 a2 a4 a5 a6 a7 : Option Value} {x : Int32} {S : List Value} : rn ca C_X11_meet 29 [a0, a1, a2, some (.int x), a4, a5, a6, a7] S M = rn ca C_X11_meet 30 [a0, a1, a2, some (.int x), a4, a5, a6, a7] (.int x :: S) M := (rn_at k_X11_meet_29).trans rfl
theorem k_X11_meet_30 : lk 30 C_X11_meet = some (.i2l, (0, 0, 0, 0)) := by decide +kernel
theorem s_X11_meet_30 {ca : Nat → List Value → tM → tO} {M : tM} {L : tL} {x : Int32} {S : List Value} : rn ca C_X11_meet 30 L (.int x :: S) M = rn ca C_X11_meet 31 L (.long x.toInt64 :: S) M := (rn_at k_X11_meet_30).trans rfl
theorem k_X11_meet_31 : lk 31 C_X11_meet = some (.lconst 0, (0, 0, 0, 0)) := by decide +kernel
theorem s_X11_meet_31 {ca : Nat → List Value → tM → tO} {M : tM} {L : tL} {S : List Value} : rn ca C_X11_meet 31 L S M = rn ca C_X11_meet 32 L (.long (jJ 0) :: S) M := (rn_at k_X11_meet_31).trans rfl
theorem k_X11_meet_32 : lk 32 C_X11_meet = some (.lconst 1, (0, 0, 0, 0)) := by decide +kernel
theorem s_X11_meet_32 {ca : Nat → List Value → tM → tO} {M : tM} {L : tL} {S : List Value} : rn ca C_X11_meet 32 L S M = rn ca C_X11_meet 33 L (.long (jJ 1) :: S) M := (rn_at k_X11_meet_32).trans rfl
theorem k_X11_meet_33 : lk 33 C_X11_meet = some (.invokestatic 87, (143, 3, 0, 197)) := by decide +kernel
theorem s_X11_meet_33 {ca : Nat → List Value → tM → tO} {M : tM} {L : tL} {v1 v2 v3 : Value} : rn ca C_X11_meet 33 L [v3, v2, v1] M = rnk ca C_X11_meet 36 L [] (ca m_X11_isIn [v1, v2, v3] M) := (rn_at k_X11_meet_33).trans rfl
theorem k_X11_meet_36 : lk 36 C_X11_meet = some (.ifCond .ne 10, (46, 0, 0, 0)) := by decide +kernel
theorem s_X11_meet_36 {ca : Nat → List Value → tM → tO} {M : tM} {L : tL} {x : Int32} {S : List Value} : rn ca C_X11_meet 36 L (.int x :: S) M = if ¬ x = iI 0 then rn ca C_X11_meet 46 L S M else rn ca C_X11_meet 39 L S M := (rn_at k_X11_meet_36).trans rnx_ite
theorem k_X11_meet_39 : lk 39 C_X11_meet = some (.aload_n 0, (0, 0, 0, 0)) := by decide +kernel
theorem s_X11_meet_39 {ca : Nat → List Value → tM → tO} {M : tM} {a1 a2 a3 a4 a5 a6 a7 : Option Value} {x : Nat} {S : List Value} : rn ca C_X11_meet 39 [some (.ref x), a1, a2, a3, a4, a5, a6, a7] S M = rn ca C_X11_meet 40 [some (.ref x), a1, a2, a3, a4, a5, a6, a7] (.ref x :: S) M := (rn_at k_X11_meet_39).trans rfl
theorem k_X11_meet_40 : lk 40 C_X11_meet = some (.bipush (-5), (0, 0, 0, 0)) := by decide +kernel
theorem s_X11_meet_40 {ca : Nat → List Value → tM → tO} {M : tM} {L : tL} {S : List Value} : rn ca C_X11_meet 40 L S M = rn ca C_X11_meet 42 L (.int (iI (-5)) :: S) M := (rn_at k_X11_meet_40).trans rfl
theorem k_X11_meet_42 : lk 42 C_X11_meet = some (.invokevirtual 233, (145, 1, 11, 749)) := by decide +kernel
theorem s_X11_meet_42 {ca : Nat → List Value → tM → tO} {M : tM} {L : tL} {v1 : Value} {b : Nat} : rn ca C_X11_meet 42 L [v1, .ref b] M = if clsO b = some 11 then rnk ca C_X11_meet 45 L [] (ca m_X11_refuseBy10 [.ref b, v1] M) else none := (rn_at k_X11_meet_42).trans rnx_ite
theorem k_X11_meet_45 : lk 45 C_X11_meet = some (.ireturn, (0, 0, 0, 0)) := by decide +kernel
theorem s_X11_meet_45 {ca : Nat → List Value → tM → tO} {M : tM} {L : tL} {x : Int32} : rn ca C_X11_meet 45 L [.int x] M = some (some (.int x), M) := (rn_at k_X11_meet_45).trans rfl
theorem k_X11_meet_46 : lk 46 C_X11_meet = some (.aload_n 0, (0, 0, 0, 0)) := by decide +kernel
theorem s_X11_meet_46 {ca : Nat → List Value → tM → tO} {M : tM} {a1 a2 a3 a4 a5 a6 a7 : Option Value} {x : Nat} {S : List Value} : rn ca C_X11_meet 46 [some (.ref x), a1, a2, a3, a4, a5, a6, a7] S M = rn ca C_X11_meet 47 [some (.ref x), a1, a2, a3, a4, a5, a6, a7] (.ref x :: S) M := (rn_at k_X11_meet_46).trans rfl
theorem k_X11_meet_47 : lk 47 C_X11_meet = some (.iload_n 2, (0, 0, 0, 0)) := by decide +kernel
theorem s_X11_meet_47 {ca : Nat → List Value → tM → tO} {M : tM} {a0 a1 a3 a4 a5 a6 a7 : Option Value} {x : Int32} {S : List Value} : rn ca C_X11_meet 47 [a0, a1, some (.int x), a3, a4, a5, a6, a7] S M = rn ca C_X11_meet 48 [a0, a1, some (.int x), a3, a4, a5, a6, a7] (.int x :: S) M := (rn_at k_X11_meet_47).trans rfl
theorem k_X11_meet_48 : lk 48 C_X11_meet = some (.iconst 0, (0, 0, 0, 0)) := by decide +kernel
theorem s_X11_meet_48 {ca : Nat → List Value → tM → tO} {M : tM} {L : tL} {S : List Value} : rn ca C_X11_meet 48 L S M = rn ca C_X11_meet 49 L (.int (iI 0) :: S) M := (rn_at k_X11_meet_48).trans rfl
theorem k_X11_meet_49 : lk 49 C_X11_meet = some (.invokevirtual 238, (195, 2, 11, 753)) := by decide +kernel
theorem s_X11_meet_49 {ca : Nat → List Value → tM → tO} {M : tM} {L : tL} {v1 v2 : Value} {b : Nat} : rn ca C_X11_meet 49 L [v2, v1, .ref b] M = if clsO b = some 11 then rnk ca C_X11_meet 52 L [] (ca m_X11_fill [.ref b, v1, v2] M) else none := (rn_at k_X11_meet_49).trans rnx_ite
theorem k_X11_meet_52 : lk 52 C_X11_meet = some (.iconst 0, (0, 0, 0, 0)) := by decide +kernel
theorem s_X11_meet_52 {ca : Nat → List Value → tM → tO} {M : tM} {L : tL} {S : List Value} : rn ca C_X11_meet 52 L S M = rn ca C_X11_meet 53 L (.int (iI 0) :: S) M := (rn_at k_X11_meet_52).trans rfl
theorem k_X11_meet_53 : lk 53 C_X11_meet = some (.istore 4, (0, 0, 0, 0)) := by decide +kernel
theorem s_X11_meet_53 {ca : Nat → List Value → tM → tO} {M : tM} {a0 a1 a2 a3 a4 a5 a6 a7 : Option Value} {x : Int32} {S : List Value} : rn ca C_X11_meet 53 [a0, a1, a2, a3, a4, a5, a6, a7] (.int x :: S) M = rn ca C_X11_meet 55 [a0, a1, a2, a3, some (.int x), a5, a6, a7] S M := (rn_at k_X11_meet_53).trans rfl
theorem k_X11_meet_55 : lk 55 C_X11_meet = some (.iload 4, (0, 0, 0, 0)) := by decide +kernel
theorem s_X11_meet_55 {ca : Nat → List Value → tM → tO} {M : tM} {a0 a1 a2 a3 a5 a6 a7 : Option Value} {x : Int32} {S : List Value} : rn ca C_X11_meet 55 [a0, a1, a2, a3, some (.int x), a5, a6, a7] S M = rn ca C_X11_meet 57 [a0, a1, a2, a3, some (.int x), a5, a6, a7] (.int x :: S) M := (rn_at k_X11_meet_55).trans rfl
theorem k_X11_meet_57 : lk 57 C_X11_meet = some (.aload_n 0, (0, 0, 0, 0)) := by decide +kernel
theorem s_X11_meet_57 {ca : Nat → List Value → tM → tO} {M : tM} {a1 a2 a3 a4 a5 a6 a7 : Option Value} {x : Nat} {S : List Value} : rn ca C_X11_meet 57 [some (.ref x), a1, a2, a3, a4, a5, a6, a7] S M = rn ca C_X11_meet 58 [some (.ref x), a1, a2, a3, a4, a5, a6, a7] (.ref x :: S) M := (rn_at k_X11_meet_57).trans rfl
theorem k_X11_meet_58 : lk 58 C_X11_meet = some (.getfield 17, (11, 1, 0, 147)) := by decide +kernel
theorem s_X11_meet_58 {ca : Nat → List Value → tM → tO} {M : tM} {L : tL} {b : Nat} {S : List Value} : rn ca C_X11_meet 58 L (.ref b :: S) M = if clsO b = some 11 then rn ca C_X11_meet 61 L (fv M b 1 :: S) M else none := (rn_at k_X11_meet_58).trans rnx_ite
theorem k_X11_meet_61 : lk 61 C_X11_meet = some (.bipush 108, (0, 0, 0, 0)) := by decide +kernel
theorem s_X11_meet_61 {ca : Nat → List Value → tM → tO} {M : tM} {L : tL} {S : List Value} : rn ca C_X11_meet 61 L S M = rn ca C_X11_meet 63 L (.int (iI 108) :: S) M := (rn_at k_X11_meet_61).trans rfl
theorem k_X11_meet_63 : lk 63 C_X11_meet = some (.iaload, (0, 0, 0, 0)) := by decide +kernel
theorem s_X11_meet_63 {ca : Nat → List Value → tM → tO} {M : tM} {L : tL} {a : Nat} {i : Int32} {S : List Value} : rn ca C_X11_meet 63 L (.int i :: .ref a :: S) M = if (akind a = 0 ∨ akind a = 6 ∨ akind a = 7) ∧ inb i (alen M a) then rn ca C_X11_meet 64 L (.int (M.1 a i.toInt.toNat) :: S) M else none := (rn_at k_X11_meet_63).trans rnx_ite
theorem k_X11_meet_64 : lk 64 C_X11_meet = some (.if_icmp .ge 23, (87, 0, 0, 0)) := by decide +kernel
theorem s_X11_meet_64 {ca : Nat → List Value → tM → tO} {M : tM} {L : tL} {x y : Int32} {S : List Value} : rn ca C_X11_meet 64 L (.int y :: .int x :: S) M = if y ≤ x then rn ca C_X11_meet 87 L S M else rn ca C_X11_meet 67 L S M := (rn_at k_X11_meet_64).trans rnx_ite
theorem k_X11_meet_67 : lk 67 C_X11_meet = some (.aload_n 0, (0, 0, 0, 0)) := by decide +kernel
theorem s_X11_meet_67 {ca : Nat → List Value → tM → tO} {M : tM} {a1 a2 a3 a4 a5 a6 a7 : Option Value} {x : Nat} {S : List Value} : rn ca C_X11_meet 67 [some (.ref x), a1, a2, a3, a4, a5, a6, a7] S M = rn ca C_X11_meet 68 [some (.ref x), a1, a2, a3, a4, a5, a6, a7] (.ref x :: S) M := (rn_at k_X11_meet_67).trans rfl
theorem k_X11_meet_68 : lk 68 C_X11_meet = some (.getfield 70, (11, 16, 0, 160)) := by decide +kernel
theorem s_X11_meet_68 {ca : Nat → List Value → tM → tO} {M : tM} {L : tL} {b : Nat} {S : List Value} : rn ca C_X11_meet 68 L (.ref b :: S) M = if clsO b = some 11 then rn ca C_X11_meet 71 L (fv M b 16 :: S) M else none := (rn_at k_X11_meet_68).trans rnx_ite
theorem k_X11_meet_71 : lk 71 C_X11_meet = some (.iload 4, (0, 0, 0, 0)) := by decide +kernel
theorem s_X11_meet_71 {ca : Nat → List Value → tM → tO} {M : tM} {a0 a1 a2 a3 a5 a6 a7 : Option Value} {x : Int32} {S : List Value} : rn ca C_X11_meet 71 [a0, a1, a2, a3, some (.int x), a5, a6, a7] S M = rn ca C_X11_meet 73 [a0, a1, a2, a3, some (.int x), a5, a6, a7] (.int x :: S) M := (rn_at k_X11_meet_71).trans rfl
theorem k_X11_meet_73 : lk 73 C_X11_meet = some (.aload_n 0, (0, 0, 0, 0)) := by decide +kernel
theorem s_X11_meet_73 {ca : Nat → List Value → tM → tO} {M : tM} {a1 a2 a3 a4 a5 a6 a7 : Option Value} {x : Nat} {S : List Value} : rn ca C_X11_meet 73 [some (.ref x), a1, a2, a3, a4, a5, a6, a7] S M = rn ca C_X11_meet 74 [some (.ref x), a1, a2, a3, a4, a5, a6, a7] (.ref x :: S) M := (rn_at k_X11_meet_73).trans rfl
theorem k_X11_meet_74 : lk 74 C_X11_meet = some (.iload_n 2, (0, 0, 0, 0)) := by decide +kernel
theorem s_X11_meet_74 {ca : Nat → List Value → tM → tO} {M : tM} {a0 a1 a3 a4 a5 a6 a7 : Option Value} {x : Int32} {S : List Value} : rn ca C_X11_meet 74 [a0, a1, some (.int x), a3, a4, a5, a6, a7] S M = rn ca C_X11_meet 75 [a0, a1, some (.int x), a3, a4, a5, a6, a7] (.int x :: S) M := (rn_at k_X11_meet_74).trans rfl
theorem k_X11_meet_75 : lk 75 C_X11_meet = some (.iload 4, (0, 0, 0, 0)) := by decide +kernel
theorem s_X11_meet_75 {ca : Nat → List Value → tM → tO} {M : tM} {a0 a1 a2 a3 a5 a6 a7 : Option Value} {x : Int32} {S : List Value} : rn ca C_X11_meet 75 [a0, a1, a2, a3, some (.int x), a5, a6, a7] S M = rn ca C_X11_meet 77 [a0, a1, a2, a3, some (.int x), a5, a6, a7] (.int x :: S) M := (rn_at k_X11_meet_75).trans rfl
theorem k_X11_meet_77 : lk 77 C_X11_meet = some (.invokevirtual 230, (196, 2, 11, 790)) := by decide +kernel
theorem s_X11_meet_77 {ca : Nat → List Value → tM → tO} {M : tM} {L : tL} {v1 v2 : Value} {r0 : Int32} {r1 : Nat} {b : Nat} : rn ca C_X11_meet 77 L [v2, v1, .ref b, .int r0, .ref r1] M = if clsO b = some 11 then rnk ca C_X11_meet 80 L [.int r0, .ref r1] (ca m_X11_way [.ref b, v1, v2] M) else none := (rn_at k_X11_meet_77).trans rnx_ite
theorem k_X11_meet_80 : lk 80 C_X11_meet = some (.iastore, (0, 0, 0, 0)) := by decide +kernel
theorem s_X11_meet_80 {ca : Nat → List Value → tM → tO} {M : tM} {L : tL} {a : Nat} {i x : Int32} {S : List Value} : rn ca C_X11_meet 80 L (.int x :: .int i :: .ref a :: S) M = if akind a = 0 ∧ inb i (alen M a) then rn ca C_X11_meet 81 L S (sI M a i.toInt.toNat x) else none := (rn_at k_X11_meet_80).trans rnx_ite
theorem k_X11_meet_81 : lk 81 C_X11_meet = some (.iinc 4 1, (0, 0, 0, 0)) := by decide +kernel
theorem s_X11_meet_81 {ca : Nat → List Value → tM → tO} {M : tM} {a0 a1 a2 a3 a5 a6 a7 : Option Value} {x : Int32} {S : List Value} : rn ca C_X11_meet 81 [a0, a1, a2, a3, some (.int x), a5, a6, a7] S M = rn ca C_X11_meet 84 [a0, a1, a2, a3, some (.int (x + iI 1)), a5, a6, a7] S M := (rn_at k_X11_meet_81).trans rfl
theorem k_X11_meet_84 : lk 84 C_X11_meet = some (.goto (-29), (55, 0, 0, 0)) := by decide +kernel
theorem s_X11_meet_84 {ca : Nat → List Value → tM → tO} {M : tM} {L : tL} {S : List Value} : rn ca C_X11_meet 84 L S M = rn ca C_X11_meet 55 L S M := (rn_at k_X11_meet_84).trans rfl
theorem k_X11_meet_87 : lk 87 C_X11_meet = some (.aload_n 0, (0, 0, 0, 0)) := by decide +kernel
theorem s_X11_meet_87 {ca : Nat → List Value → tM → tO} {M : tM} {a1 a2 a3 a4 a5 a6 a7 : Option Value} {x : Nat} {S : List Value} : rn ca C_X11_meet 87 [some (.ref x), a1, a2, a3, a4, a5, a6, a7] S M = rn ca C_X11_meet 88 [some (.ref x), a1, a2, a3, a4, a5, a6, a7] (.ref x :: S) M := (rn_at k_X11_meet_87).trans rfl
theorem k_X11_meet_88 : lk 88 C_X11_meet = some (.iload_n 1, (0, 0, 0, 0)) := by decide +kernel
theorem s_X11_meet_88 {ca : Nat → List Value → tM → tO} {M : tM} {a0 a2 a3 a4 a5 a6 a7 : Option Value} {x : Int32} {S : List Value} : rn ca C_X11_meet 88 [a0, some (.int x), a2, a3, a4, a5, a6, a7] S M = rn ca C_X11_meet 89 [a0, some (.int x), a2, a3, a4, a5, a6, a7] (.int x :: S) M := (rn_at k_X11_meet_88).trans rfl
theorem k_X11_meet_89 : lk 89 C_X11_meet = some (.iconst 0, (0, 0, 0, 0)) := by decide +kernel
theorem s_X11_meet_89 {ca : Nat → List Value → tM → tO} {M : tM} {L : tL} {S : List Value} : rn ca C_X11_meet 89 L S M = rn ca C_X11_meet 90 L (.int (iI 0) :: S) M := (rn_at k_X11_meet_89).trans rfl
theorem k_X11_meet_90 : lk 90 C_X11_meet = some (.invokevirtual 238, (195, 2, 11, 753)) := by decide +kernel
theorem s_X11_meet_90 {ca : Nat → List Value → tM → tO} {M : tM} {L : tL} {v1 v2 : Value} {b : Nat} : rn ca C_X11_meet 90 L [v2, v1, .ref b] M = if clsO b = some 11 then rnk ca C_X11_meet 93 L [] (ca m_X11_fill [.ref b, v1, v2] M) else none := (rn_at k_X11_meet_90).trans rnx_ite
theorem k_X11_meet_93 : lk 93 C_X11_meet = some (.iconst (-1), (0, 0, 0, 0)) := by decide +kernel
theorem s_X11_meet_93 {ca : Nat → List Value → tM → tO} {M : tM} {L : tL} {S : List Value} : rn ca C_X11_meet 93 L S M = rn ca C_X11_meet 94 L (.int (iI (-1)) :: S) M := (rn_at k_X11_meet_93).trans rfl
theorem k_X11_meet_94 : lk 94 C_X11_meet = some (.istore 4, (0, 0, 0, 0)) := by decide +kernel
theorem s_X11_meet_94 {ca : Nat → List Value → tM → tO} {M : tM} {a0 a1 a2 a3 a4 a5 a6 a7 : Option Value} {x : Int32} {S : List Value} : rn ca C_X11_meet 94 [a0, a1, a2, a3, a4, a5, a6, a7] (.int x :: S) M = rn ca C_X11_meet 96 [a0, a1, a2, a3, some (.int x), a5, a6, a7] S M := (rn_at k_X11_meet_94).trans rfl
theorem k_X11_meet_96 : lk 96 C_X11_meet = some (.sipush 9999, (0, 0, 0, 0)) := by decide +kernel
theorem s_X11_meet_96 {ca : Nat → List Value → tM → tO} {M : tM} {L : tL} {S : List Value} : rn ca C_X11_meet 96 L S M = rn ca C_X11_meet 99 L (.int (iI 9999) :: S) M := (rn_at k_X11_meet_96).trans rfl
theorem k_X11_meet_99 : lk 99 C_X11_meet = some (.istore 5, (0, 0, 0, 0)) := by decide +kernel
theorem s_X11_meet_99 {ca : Nat → List Value → tM → tO} {M : tM} {a0 a1 a2 a3 a4 a5 a6 a7 : Option Value} {x : Int32} {S : List Value} : rn ca C_X11_meet 99 [a0, a1, a2, a3, a4, a5, a6, a7] (.int x :: S) M = rn ca C_X11_meet 101 [a0, a1, a2, a3, a4, some (.int x), a6, a7] S M := (rn_at k_X11_meet_99).trans rfl
theorem k_X11_meet_101 : lk 101 C_X11_meet = some (.iconst 0, (0, 0, 0, 0)) := by decide +kernel
theorem s_X11_meet_101 {ca : Nat → List Value → tM → tO} {M : tM} {L : tL} {S : List Value} : rn ca C_X11_meet 101 L S M = rn ca C_X11_meet 102 L (.int (iI 0) :: S) M := (rn_at k_X11_meet_101).trans rfl
theorem k_X11_meet_102 : lk 102 C_X11_meet = some (.istore 6, (0, 0, 0, 0)) := by decide +kernel
theorem s_X11_meet_102 {ca : Nat → List Value → tM → tO} {M : tM} {a0 a1 a2 a3 a4 a5 a6 a7 : Option Value} {x : Int32} {S : List Value} : rn ca C_X11_meet 102 [a0, a1, a2, a3, a4, a5, a6, a7] (.int x :: S) M = rn ca C_X11_meet 104 [a0, a1, a2, a3, a4, a5, some (.int x), a7] S M := (rn_at k_X11_meet_102).trans rfl
theorem k_X11_meet_104 : lk 104 C_X11_meet = some (.iload 6, (0, 0, 0, 0)) := by decide +kernel
theorem s_X11_meet_104 {ca : Nat → List Value → tM → tO} {M : tM} {a0 a1 a2 a3 a4 a5 a7 : Option Value} {x : Int32} {S : List Value} : rn ca C_X11_meet 104 [a0, a1, a2, a3, a4, a5, some (.int x), a7] S M = rn ca C_X11_meet 106 [a0, a1, a2, a3, a4, a5, some (.int x), a7] (.int x :: S) M := (rn_at k_X11_meet_104).trans rfl
theorem k_X11_meet_106 : lk 106 C_X11_meet = some (.aload_n 0, (0, 0, 0, 0)) := by decide +kernel
theorem s_X11_meet_106 {ca : Nat → List Value → tM → tO} {M : tM} {a1 a2 a3 a4 a5 a6 a7 : Option Value} {x : Nat} {S : List Value} : rn ca C_X11_meet 106 [some (.ref x), a1, a2, a3, a4, a5, a6, a7] S M = rn ca C_X11_meet 107 [some (.ref x), a1, a2, a3, a4, a5, a6, a7] (.ref x :: S) M := (rn_at k_X11_meet_106).trans rfl
theorem k_X11_meet_107 : lk 107 C_X11_meet = some (.getfield 17, (11, 1, 0, 147)) := by decide +kernel
theorem s_X11_meet_107 {ca : Nat → List Value → tM → tO} {M : tM} {L : tL} {b : Nat} {S : List Value} : rn ca C_X11_meet 107 L (.ref b :: S) M = if clsO b = some 11 then rn ca C_X11_meet 110 L (fv M b 1 :: S) M else none := (rn_at k_X11_meet_107).trans rnx_ite
theorem k_X11_meet_110 : lk 110 C_X11_meet = some (.bipush 108, (0, 0, 0, 0)) := by decide +kernel
theorem s_X11_meet_110 {ca : Nat → List Value → tM → tO} {M : tM} {L : tL} {S : List Value} : rn ca C_X11_meet 110 L S M = rn ca C_X11_meet 112 L (.int (iI 108) :: S) M := (rn_at k_X11_meet_110).trans rfl
theorem k_X11_meet_112 : lk 112 C_X11_meet = some (.iaload, (0, 0, 0, 0)) := by decide +kernel
theorem s_X11_meet_112 {ca : Nat → List Value → tM → tO} {M : tM} {L : tL} {a : Nat} {i : Int32} {S : List Value} : rn ca C_X11_meet 112 L (.int i :: .ref a :: S) M = if (akind a = 0 ∨ akind a = 6 ∨ akind a = 7) ∧ inb i (alen M a) then rn ca C_X11_meet 113 L (.int (M.1 a i.toInt.toNat) :: S) M else none := (rn_at k_X11_meet_112).trans rnx_ite
theorem k_X11_meet_113 : lk 113 C_X11_meet = some (.if_icmp .ge 53, (166, 0, 0, 0)) := by decide +kernel
theorem s_X11_meet_113 {ca : Nat → List Value → tM → tO} {M : tM} {L : tL} {x y : Int32} {S : List Value} : rn ca C_X11_meet 113 L (.int y :: .int x :: S) M = if y ≤ x then rn ca C_X11_meet 166 L S M else rn ca C_X11_meet 116 L S M := (rn_at k_X11_meet_113).trans rnx_ite
theorem k_X11_meet_116 : lk 116 C_X11_meet = some (.aload_n 0, (0, 0, 0, 0)) := by decide +kernel
theorem s_X11_meet_116 {ca : Nat → List Value → tM → tO} {M : tM} {a1 a2 a3 a4 a5 a6 a7 : Option Value} {x : Nat} {S : List Value} : rn ca C_X11_meet 116 [some (.ref x), a1, a2, a3, a4, a5, a6, a7] S M = rn ca C_X11_meet 117 [some (.ref x), a1, a2, a3, a4, a5, a6, a7] (.ref x :: S) M := (rn_at k_X11_meet_116).trans rfl
theorem k_X11_meet_117 : lk 117 C_X11_meet = some (.iload_n 1, (0, 0, 0, 0)) := by decide +kernel
theorem s_X11_meet_117 {ca : Nat → List Value → tM → tO} {M : tM} {a0 a2 a3 a4 a5 a6 a7 : Option Value} {x : Int32} {S : List Value} : rn ca C_X11_meet 117 [a0, some (.int x), a2, a3, a4, a5, a6, a7] S M = rn ca C_X11_meet 118 [a0, some (.int x), a2, a3, a4, a5, a6, a7] (.int x :: S) M := (rn_at k_X11_meet_117).trans rfl
theorem k_X11_meet_118 : lk 118 C_X11_meet = some (.iload 6, (0, 0, 0, 0)) := by decide +kernel
theorem s_X11_meet_118 {ca : Nat → List Value → tM → tO} {M : tM} {a0 a1 a2 a3 a4 a5 a7 : Option Value} {x : Int32} {S : List Value} : rn ca C_X11_meet 118 [a0, a1, a2, a3, a4, a5, some (.int x), a7] S M = rn ca C_X11_meet 120 [a0, a1, a2, a3, a4, a5, some (.int x), a7] (.int x :: S) M := (rn_at k_X11_meet_118).trans rfl
theorem k_X11_meet_120 : lk 120 C_X11_meet = some (.invokevirtual 230, (196, 2, 11, 790)) := by decide +kernel
theorem s_X11_meet_120 {ca : Nat → List Value → tM → tO} {M : tM} {L : tL} {v1 v2 : Value} {b : Nat} : rn ca C_X11_meet 120 L [v2, v1, .ref b] M = if clsO b = some 11 then rnk ca C_X11_meet 123 L [] (ca m_X11_way [.ref b, v1, v2] M) else none := (rn_at k_X11_meet_120).trans rnx_ite
theorem k_X11_meet_123 : lk 123 C_X11_meet = some (.aload_n 0, (0, 0, 0, 0)) := by decide +kernel
theorem s_X11_meet_123 {ca : Nat → List Value → tM → tO} {M : tM} {a1 a2 a3 a4 a5 a6 a7 : Option Value} {x : Nat} {S : List Value} : rn ca C_X11_meet 123 [some (.ref x), a1, a2, a3, a4, a5, a6, a7] S M = rn ca C_X11_meet 124 [some (.ref x), a1, a2, a3, a4, a5, a6, a7] (.ref x :: S) M := (rn_at k_X11_meet_123).trans rfl
theorem k_X11_meet_124 : lk 124 C_X11_meet = some (.getfield 70, (11, 16, 0, 160)) := by decide +kernel
theorem s_X11_meet_124 {ca : Nat → List Value → tM → tO} {M : tM} {L : tL} {b : Nat} {S : List Value} : rn ca C_X11_meet 124 L (.ref b :: S) M = if clsO b = some 11 then rn ca C_X11_meet 127 L (fv M b 16 :: S) M else none := (rn_at k_X11_meet_124).trans rnx_ite
theorem k_X11_meet_127 : lk 127 C_X11_meet = some (.iload 6, (0, 0, 0, 0)) := by decide +kernel
theorem s_X11_meet_127 {ca : Nat → List Value → tM → tO} {M : tM} {a0 a1 a2 a3 a4 a5 a7 : Option Value} {x : Int32} {S : List Value} : rn ca C_X11_meet 127 [a0, a1, a2, a3, a4, a5, some (.int x), a7] S M = rn ca C_X11_meet 129 [a0, a1, a2, a3, a4, a5, some (.int x), a7] (.int x :: S) M := (rn_at k_X11_meet_127).trans rfl
theorem k_X11_meet_129 : lk 129 C_X11_meet = some (.iaload, (0, 0, 0, 0)) := by decide +kernel
theorem s_X11_meet_129 {ca : Nat → List Value → tM → tO} {M : tM} {L : tL} {a : Nat} {i : Int32} {S : List Value} : rn ca C_X11_meet 129 L (.int i :: .ref a :: S) M = if (akind a = 0 ∨ akind a = 6 ∨ akind a = 7) ∧ inb i (alen M a) then rn ca C_X11_meet 130 L (.int (M.1 a i.toInt.toNat) :: S) M else none := (rn_at k_X11_meet_129).trans rnx_ite
theorem k_X11_meet_130 : lk 130 C_X11_meet = some (.invokestatic 199, (0, 2, 2, 682)) := by decide +kernel
theorem s_X11_meet_130 {ca : Nat → List Value → tM → tO} {M : tM} {L : tL} {x y : Int32} : rn ca C_X11_meet 130 L [.int y, .int x] M = rn ca C_X11_meet 133 L [.int (mxI x y)] M := (rn_at k_X11_meet_130).trans rfl
theorem k_X11_meet_133 : lk 133 C_X11_meet = some (.istore 7, (0, 0, 0, 0)) := by decide +kernel
theorem s_X11_meet_133 {ca : Nat → List Value → tM → tO} {M : tM} {a0 a1 a2 a3 a4 a5 a6 a7 : Option Value} {x : Int32} {S : List Value} : rn ca C_X11_meet 133 [a0, a1, a2, a3, a4, a5, a6, a7] (.int x :: S) M = rn ca C_X11_meet 135 [a0, a1, a2, a3, a4, a5, a6, some (.int x)] S M := (rn_at k_X11_meet_133).trans rfl
theorem k_X11_meet_135 : lk 135 C_X11_meet = some (.iload 7, (0, 0, 0, 0)) := by decide +kernel
theorem s_X11_meet_135 {ca : Nat → List Value → tM → tO} {M : tM} {a0 a1 a2 a3 a4 a5 a6 : Option Value} {x : Int32} {S : List Value} : rn ca C_X11_meet 135 [a0, a1, a2, a3, a4, a5, a6, some (.int x)] S M = rn ca C_X11_meet 137 [a0, a1, a2, a3, a4, a5, a6, some (.int x)] (.int x :: S) M := (rn_at k_X11_meet_135).trans rfl
theorem k_X11_meet_137 : lk 137 C_X11_meet = some (.iload 5, (0, 0, 0, 0)) := by decide +kernel
theorem s_X11_meet_137 {ca : Nat → List Value → tM → tO} {M : tM} {a0 a1 a2 a3 a4 a6 a7 : Option Value} {x : Int32} {S : List Value} : rn ca C_X11_meet 137 [a0, a1, a2, a3, a4, some (.int x), a6, a7] S M = rn ca C_X11_meet 139 [a0, a1, a2, a3, a4, some (.int x), a6, a7] (.int x :: S) M := (rn_at k_X11_meet_137).trans rfl
theorem k_X11_meet_139 : lk 139 C_X11_meet = some (.if_icmp .ge 8, (147, 0, 0, 0)) := by decide +kernel
theorem s_X11_meet_139 {ca : Nat → List Value → tM → tO} {M : tM} {L : tL} {x y : Int32} {S : List Value} : rn ca C_X11_meet 139 L (.int y :: .int x :: S) M = if y ≤ x then rn ca C_X11_meet 147 L S M else rn ca C_X11_meet 142 L S M := (rn_at k_X11_meet_139).trans rnx_ite
theorem k_X11_meet_142 : lk 142 C_X11_meet = some (.iload 6, (0, 0, 0, 0)) := by decide +kernel
theorem s_X11_meet_142 {ca : Nat → List Value → tM → tO} {M : tM} {a0 a1 a2 a3 a4 a5 a7 : Option Value} {x : Int32} {S : List Value} : rn ca C_X11_meet 142 [a0, a1, a2, a3, a4, a5, some (.int x), a7] S M = rn ca C_X11_meet 144 [a0, a1, a2, a3, a4, a5, some (.int x), a7] (.int x :: S) M := (rn_at k_X11_meet_142).trans rfl
theorem k_X11_meet_144 : lk 144 C_X11_meet = some (.goto 5, (149, 0, 0, 0)) := by decide +kernel
theorem s_X11_meet_144 {ca : Nat → List Value → tM → tO} {M : tM} {L : tL} {S : List Value} : rn ca C_X11_meet 144 L S M = rn ca C_X11_meet 149 L S M := (rn_at k_X11_meet_144).trans rfl
theorem k_X11_meet_147 : lk 147 C_X11_meet = some (.iload 4, (0, 0, 0, 0)) := by decide +kernel
theorem s_X11_meet_147 {ca : Nat → List Value → tM → tO} {M : tM} {a0 a1 a2 a3 a5 a6 a7 : Option Value} {x : Int32} {S : List Value} : rn ca C_X11_meet 147 [a0, a1, a2, a3, some (.int x), a5, a6, a7] S M = rn ca C_X11_meet 149 [a0, a1, a2, a3, some (.int x), a5, a6, a7] (.int x :: S) M := (rn_at k_X11_meet_147).trans rfl
theorem k_X11_meet_149 : lk 149 C_X11_meet = some (.istore 4, (0, 0, 0, 0)) := by decide +kernel
theorem s_X11_meet_149 {ca : Nat → List Value → tM → tO} {M : tM} {a0 a1 a2 a3 a4 a5 a6 a7 : Option Value} {x : Int32} {S : List Value} : rn ca C_X11_meet 149 [a0, a1, a2, a3, a4, a5, a6, a7] (.int x :: S) M = rn ca C_X11_meet 151 [a0, a1, a2, a3, some (.int x), a5, a6, a7] S M := (rn_at k_X11_meet_149).trans rfl
theorem k_X11_meet_151 : lk 151 C_X11_meet = some (.iload 7, (0, 0, 0, 0)) := by decide +kernel
theorem s_X11_meet_151 {ca : Nat → List Value → tM → tO} {M : tM} {a0 a1 a2 a3 a4 a5 a6 : Option Value} {x : Int32} {S : List Value} : rn ca C_X11_meet 151 [a0, a1, a2, a3, a4, a5, a6, some (.int x)] S M = rn ca C_X11_meet 153 [a0, a1, a2, a3, a4, a5, a6, some (.int x)] (.int x :: S) M := (rn_at k_X11_meet_151).trans rfl
theorem k_X11_meet_153 : lk 153 C_X11_meet = some (.iload 5, (0, 0, 0, 0)) := by decide +kernel
theorem s_X11_meet_153 {ca : Nat → List Value → tM → tO} {M : tM} {a0 a1 a2 a3 a4 a6 a7 : Option Value} {x : Int32} {S : List Value} : rn ca C_X11_meet 153 [a0, a1, a2, a3, a4, some (.int x), a6, a7] S M = rn ca C_X11_meet 155 [a0, a1, a2, a3, a4, some (.int x), a6, a7] (.int x :: S) M := (rn_at k_X11_meet_153).trans rfl
theorem k_X11_meet_155 : lk 155 C_X11_meet = some (.invokestatic 207, (0, 2, 3, 781)) := by decide +kernel
theorem s_X11_meet_155 {ca : Nat → List Value → tM → tO} {M : tM} {L : tL} {x y : Int32} : rn ca C_X11_meet 155 L [.int y, .int x] M = rn ca C_X11_meet 158 L [.int (mnI x y)] M := (rn_at k_X11_meet_155).trans rfl
theorem k_X11_meet_158 : lk 158 C_X11_meet = some (.istore 5, (0, 0, 0, 0)) := by decide +kernel
theorem s_X11_meet_158 {ca : Nat → List Value → tM → tO} {M : tM} {a0 a1 a2 a3 a4 a5 a6 a7 : Option Value} {x : Int32} {S : List Value} : rn ca C_X11_meet 158 [a0, a1, a2, a3, a4, a5, a6, a7] (.int x :: S) M = rn ca C_X11_meet 160 [a0, a1, a2, a3, a4, some (.int x), a6, a7] S M := (rn_at k_X11_meet_158).trans rfl
theorem k_X11_meet_160 : lk 160 C_X11_meet = some (.iinc 6 1, (0, 0, 0, 0)) := by decide +kernel
theorem s_X11_meet_160 {ca : Nat → List Value → tM → tO} {M : tM} {a0 a1 a2 a3 a4 a5 a7 : Option Value} {x : Int32} {S : List Value} : rn ca C_X11_meet 160 [a0, a1, a2, a3, a4, a5, some (.int x), a7] S M = rn ca C_X11_meet 163 [a0, a1, a2, a3, a4, a5, some (.int (x + iI 1)), a7] S M := (rn_at k_X11_meet_160).trans rfl
theorem k_X11_meet_163 : lk 163 C_X11_meet = some (.goto (-59), (104, 0, 0, 0)) := by decide +kernel
theorem s_X11_meet_163 {ca : Nat → List Value → tM → tO} {M : tM} {L : tL} {S : List Value} : rn ca C_X11_meet 163 L S M = rn ca C_X11_meet 104 L S M := (rn_at k_X11_meet_163).trans rfl
theorem k_X11_meet_166 : lk 166 C_X11_meet = some (.iload_n 3, (0, 0, 0, 0)) := by decide +kernel
theorem s_X11_meet_166 {ca : Nat → List Value → tM → tO} {M : tM} {a0 a1 a2 a4 a5 a6 a7 : Option Value} {x : Int32} {S : List Value} : rn ca C_X11_meet 166 [a0, a1, a2, some (.int x), a4, a5, a6, a7] S M = rn ca C_X11_meet 167 [a0, a1, a2, some (.int x), a4, a5, a6, a7] (.int x :: S) M := (rn_at k_X11_meet_166).trans rfl
theorem k_X11_meet_167 : lk 167 C_X11_meet = some (.ifCond .ne 8, (175, 0, 0, 0)) := by decide +kernel
theorem s_X11_meet_167 {ca : Nat → List Value → tM → tO} {M : tM} {L : tL} {x : Int32} {S : List Value} : rn ca C_X11_meet 167 L (.int x :: S) M = if ¬ x = iI 0 then rn ca C_X11_meet 175 L S M else rn ca C_X11_meet 170 L S M := (rn_at k_X11_meet_167).trans rnx_ite
theorem k_X11_meet_170 : lk 170 C_X11_meet = some (.iload 4, (0, 0, 0, 0)) := by decide +kernel
theorem s_X11_meet_170 {ca : Nat → List Value → tM → tO} {M : tM} {a0 a1 a2 a3 a5 a6 a7 : Option Value} {x : Int32} {S : List Value} : rn ca C_X11_meet 170 [a0, a1, a2, a3, some (.int x), a5, a6, a7] S M = rn ca C_X11_meet 172 [a0, a1, a2, a3, some (.int x), a5, a6, a7] (.int x :: S) M := (rn_at k_X11_meet_170).trans rfl
theorem k_X11_meet_172 : lk 172 C_X11_meet = some (.goto 8, (180, 0, 0, 0)) := by decide +kernel
theorem s_X11_meet_172 {ca : Nat → List Value → tM → tO} {M : tM} {L : tL} {S : List Value} : rn ca C_X11_meet 172 L S M = rn ca C_X11_meet 180 L S M := (rn_at k_X11_meet_172).trans rfl
theorem k_X11_meet_175 : lk 175 C_X11_meet = some (.iload 5, (0, 0, 0, 0)) := by decide +kernel
theorem s_X11_meet_175 {ca : Nat → List Value → tM → tO} {M : tM} {a0 a1 a2 a3 a4 a6 a7 : Option Value} {x : Int32} {S : List Value} : rn ca C_X11_meet 175 [a0, a1, a2, a3, a4, some (.int x), a6, a7] S M = rn ca C_X11_meet 177 [a0, a1, a2, a3, a4, some (.int x), a6, a7] (.int x :: S) M := (rn_at k_X11_meet_175).trans rfl
theorem k_X11_meet_177 : lk 177 C_X11_meet = some (.invokestatic 245, (197, 1, 0, 794)) := by decide +kernel
theorem s_X11_meet_177 {ca : Nat → List Value → tM → tO} {M : tM} {L : tL} {v1 : Value} : rn ca C_X11_meet 177 L [v1] M = rnk ca C_X11_meet 180 L [] (ca m_X11_orNone [v1] M) := (rn_at k_X11_meet_177).trans rfl
theorem k_X11_meet_180 : lk 180 C_X11_meet = some (.ireturn, (0, 0, 0, 0)) := by decide +kernel
theorem s_X11_meet_180 {ca : Nat → List Value → tM → tO} {M : tM} {L : tL} {x : Int32} : rn ca C_X11_meet 180 L [.int x] M = some (some (.int x), M) := (rn_at k_X11_meet_180).trans rfl
theorem k_X11_push_0 : lk 0 C_X11_push = some (.iload_n 2, (0, 0, 0, 0)) := by decide +kernel
theorem s_X11_push_0 {ca : Nat → List Value → tM → tO} {M : tM} {a0 a1 a3 a4 a5 a6 a7 a8 a9 a10 : Option Value} {x : Int32} {S : List Value} : rn ca C_X11_push 0 [a0, a1, some (.int x), a3, a4, a5, a6, a7, a8, a9, a10] S M = rn ca C_X11_push 1 [a0, a1, some (.int x), a3, a4, a5, a6, a7, a8, a9, a10] (.int x :: S) M := (rn_at k_X11_push_0).trans rfl
theorem k_X11_push_1 : lk 1 C_X11_push = some (.iload_n 3, (0, 0, 0, 0)) := by decide +kernel
theorem s_X11_push_1 {ca : Nat → List Value → tM → tO} {M : tM} {a0 a1 a2 a4 a5 a6 a7 a8 a9 a10 : Option Value} {x : Int32} {S : List Value} : rn ca C_X11_push 1 [a0, a1, a2, some (.int x), a4, a5, a6, a7, a8, a9, a10] S M = rn ca C_X11_push 2 [a0, a1, a2, some (.int x), a4, a5, a6, a7, a8, a9, a10] (.int x :: S) M := (rn_at k_X11_push_1).trans rfl
theorem k_X11_push_2 : lk 2 C_X11_push = some (.if_icmp .ne 5, (7, 0, 0, 0)) := by decide +kernel
theorem s_X11_push_2 {ca : Nat → List Value → tM → tO} {M : tM} {L : tL} {x y : Int32} {S : List Value} : rn ca C_X11_push 2 L (.int y :: .int x :: S) M = if ¬ x = y then rn ca C_X11_push 7 L S M else rn ca C_X11_push 5 L S M := (rn_at k_X11_push_2).trans rnx_ite
theorem k_X11_push_5 : lk 5 C_X11_push = some (.iconst 1, (0, 0, 0, 0)) := by decide +kernel
theorem s_X11_push_5 {ca : Nat → List Value → tM → tO} {M : tM} {L : tL} {S : List Value} : rn ca C_X11_push 5 L S M = rn ca C_X11_push 6 L (.int (iI 1) :: S) M := (rn_at k_X11_push_5).trans rfl
theorem k_X11_push_6 : lk 6 C_X11_push = some (.ireturn, (1, 0, 0, 0)) := by decide +kernel
theorem s_X11_push_6 {ca : Nat → List Value → tM → tO} {M : tM} {L : tL} {x : Int32} : rn ca C_X11_push 6 L [.int x] M = if x = iI 0 ∨ x = iI 1 then some (some (.int x), M) else none := (rn_at k_X11_push_6).trans rnx_ite
theorem k_X11_push_7 : lk 7 C_X11_push = some (.aload 4, (0, 0, 0, 0)) := by decide +kernel
theorem s_X11_push_7 {ca : Nat → List Value → tM → tO} {M : tM} {a0 a1 a2 a3 a5 a6 a7 a8 a9 a10 : Option Value} {x : Nat} {S : List Value} : rn ca C_X11_push 7 [a0, a1, a2, a3, some (.ref x), a5, a6, a7, a8, a9, a10] S M = rn ca C_X11_push 9 [a0, a1, a2, a3, some (.ref x), a5, a6, a7, a8, a9, a10] (.ref x :: S) M := (rn_at k_X11_push_7).trans rfl
theorem k_X11_push_9 : lk 9 C_X11_push = some (.iload_n 2, (0, 0, 0, 0)) := by decide +kernel
theorem s_X11_push_9 {ca : Nat → List Value → tM → tO} {M : tM} {a0 a1 a3 a4 a5 a6 a7 a8 a9 a10 : Option Value} {x : Int32} {S : List Value} : rn ca C_X11_push 9 [a0, a1, some (.int x), a3, a4, a5, a6, a7, a8, a9, a10] S M = rn ca C_X11_push 10 [a0, a1, some (.int x), a3, a4, a5, a6, a7, a8, a9, a10] (.int x :: S) M := (rn_at k_X11_push_9).trans rfl
theorem k_X11_push_10 : lk 10 C_X11_push = some (.iconst 1, (0, 0, 0, 0)) := by decide +kernel
theorem s_X11_push_10 {ca : Nat → List Value → tM → tO} {M : tM} {L : tL} {S : List Value} : rn ca C_X11_push 10 L S M = rn ca C_X11_push 11 L (.int (iI 1) :: S) M := (rn_at k_X11_push_10).trans rfl
theorem k_X11_push_11 : lk 11 C_X11_push = some (.bastore, (0, 0, 0, 0)) := by decide +kernel
theorem s_X11_push_11 {ca : Nat → List Value → tM → tO} {M : tM} {L : tL} {a : Nat} {i x : Int32} {S : List Value} : rn ca C_X11_push 11 L (.int x :: .int i :: .ref a :: S) M = if akind a = 1 ∧ inb i (alen M a) then (if x = iI 0 ∨ x = iI 1 then rn ca C_X11_push 12 L S (sI M a i.toInt.toNat x) else none) else none := by rw [rn_at k_X11_push_11]; simp only [ta, rnx_ite]; rfl
theorem k_X11_push_12 : lk 12 C_X11_push = some (.iconst 0, (0, 0, 0, 0)) := by decide +kernel
theorem s_X11_push_12 {ca : Nat → List Value → tM → tO} {M : tM} {L : tL} {S : List Value} : rn ca C_X11_push 12 L S M = rn ca C_X11_push 13 L (.int (iI 0) :: S) M := (rn_at k_X11_push_12).trans rfl
theorem k_X11_push_13 : lk 13 C_X11_push = some (.istore 5, (0, 0, 0, 0)) := by decide +kernel
theorem s_X11_push_13 {ca : Nat → List Value → tM → tO} {M : tM} {a0 a1 a2 a3 a4 a5 a6 a7 a8 a9 a10 : Option Value} {x : Int32} {S : List Value} : rn ca C_X11_push 13 [a0, a1, a2, a3, a4, a5, a6, a7, a8, a9, a10] (.int x :: S) M = rn ca C_X11_push 15 [a0, a1, a2, a3, a4, some (.int x), a6, a7, a8, a9, a10] S M := (rn_at k_X11_push_13).trans rfl
theorem k_X11_push_15 : lk 15 C_X11_push = some (.iload 5, (0, 0, 0, 0)) := by decide +kernel
theorem s_X11_push_15 {ca : Nat → List Value → tM → tO} {M : tM} {a0 a1 a2 a3 a4 a6 a7 a8 a9 a10 : Option Value} {x : Int32} {S : List Value} : rn ca C_X11_push 15 [a0, a1, a2, a3, a4, some (.int x), a6, a7, a8, a9, a10] S M = rn ca C_X11_push 17 [a0, a1, a2, a3, a4, some (.int x), a6, a7, a8, a9, a10] (.int x :: S) M := (rn_at k_X11_push_15).trans rfl
theorem k_X11_push_17 : lk 17 C_X11_push = some (.aload_n 0, (0, 0, 0, 0)) := by decide +kernel
theorem s_X11_push_17 {ca : Nat → List Value → tM → tO} {M : tM} {a1 a2 a3 a4 a5 a6 a7 a8 a9 a10 : Option Value} {x : Nat} {S : List Value} : rn ca C_X11_push 17 [some (.ref x), a1, a2, a3, a4, a5, a6, a7, a8, a9, a10] S M = rn ca C_X11_push 18 [some (.ref x), a1, a2, a3, a4, a5, a6, a7, a8, a9, a10] (.ref x :: S) M := (rn_at k_X11_push_17).trans rfl
theorem k_X11_push_18 : lk 18 C_X11_push = some (.getfield 17, (11, 1, 0, 147)) := by decide +kernel
theorem s_X11_push_18 {ca : Nat → List Value → tM → tO} {M : tM} {L : tL} {b : Nat} {S : List Value} : rn ca C_X11_push 18 L (.ref b :: S) M = if clsO b = some 11 then rn ca C_X11_push 21 L (fv M b 1 :: S) M else none := (rn_at k_X11_push_18).trans rnx_ite
theorem k_X11_push_21 : lk 21 C_X11_push = some (.bipush 109, (0, 0, 0, 0)) := by decide +kernel
theorem s_X11_push_21 {ca : Nat → List Value → tM → tO} {M : tM} {L : tL} {S : List Value} : rn ca C_X11_push 21 L S M = rn ca C_X11_push 23 L (.int (iI 109) :: S) M := (rn_at k_X11_push_21).trans rfl
theorem k_X11_push_23 : lk 23 C_X11_push = some (.iaload, (0, 0, 0, 0)) := by decide +kernel
theorem s_X11_push_23 {ca : Nat → List Value → tM → tO} {M : tM} {L : tL} {a : Nat} {i : Int32} {S : List Value} : rn ca C_X11_push 23 L (.int i :: .ref a :: S) M = if (akind a = 0 ∨ akind a = 6 ∨ akind a = 7) ∧ inb i (alen M a) then rn ca C_X11_push 24 L (.int (M.1 a i.toInt.toNat) :: S) M else none := (rn_at k_X11_push_23).trans rnx_ite
theorem k_X11_push_24 : lk 24 C_X11_push = some (.if_icmp .ge 185, (209, 0, 0, 0)) := by decide +kernel
theorem s_X11_push_24 {ca : Nat → List Value → tM → tO} {M : tM} {L : tL} {x y : Int32} {S : List Value} : rn ca C_X11_push 24 L (.int y :: .int x :: S) M = if y ≤ x then rn ca C_X11_push 209 L S M else rn ca C_X11_push 27 L S M := (rn_at k_X11_push_24).trans rnx_ite
theorem k_X11_push_27 : lk 27 C_X11_push = some (.iconst 0, (0, 0, 0, 0)) := by decide +kernel
theorem s_X11_push_27 {ca : Nat → List Value → tM → tO} {M : tM} {L : tL} {S : List Value} : rn ca C_X11_push 27 L S M = rn ca C_X11_push 28 L (.int (iI 0) :: S) M := (rn_at k_X11_push_27).trans rfl
theorem k_X11_push_28 : lk 28 C_X11_push = some (.istore 6, (0, 0, 0, 0)) := by decide +kernel
theorem s_X11_push_28 {ca : Nat → List Value → tM → tO} {M : tM} {a0 a1 a2 a3 a4 a5 a6 a7 a8 a9 a10 : Option Value} {x : Int32} {S : List Value} : rn ca C_X11_push 28 [a0, a1, a2, a3, a4, a5, a6, a7, a8, a9, a10] (.int x :: S) M = rn ca C_X11_push 30 [a0, a1, a2, a3, a4, a5, some (.int x), a7, a8, a9, a10] S M := (rn_at k_X11_push_28).trans rfl
theorem k_X11_push_30 : lk 30 C_X11_push = some (.iload 6, (0, 0, 0, 0)) := by decide +kernel
theorem s_X11_push_30 {ca : Nat → List Value → tM → tO} {M : tM} {a0 a1 a2 a3 a4 a5 a7 a8 a9 a10 : Option Value} {x : Int32} {S : List Value} : rn ca C_X11_push 30 [a0, a1, a2, a3, a4, a5, some (.int x), a7, a8, a9, a10] S M = rn ca C_X11_push 32 [a0, a1, a2, a3, a4, a5, some (.int x), a7, a8, a9, a10] (.int x :: S) M := (rn_at k_X11_push_30).trans rfl
theorem k_X11_push_32 : lk 32 C_X11_push = some (.iconst 2, (0, 0, 0, 0)) := by decide +kernel
theorem s_X11_push_32 {ca : Nat → List Value → tM → tO} {M : tM} {L : tL} {S : List Value} : rn ca C_X11_push 32 L S M = rn ca C_X11_push 33 L (.int (iI 2) :: S) M := (rn_at k_X11_push_32).trans rfl
theorem k_X11_push_33 : lk 33 C_X11_push = some (.if_icmp .ge 170, (203, 0, 0, 0)) := by decide +kernel
theorem s_X11_push_33 {ca : Nat → List Value → tM → tO} {M : tM} {L : tL} {x y : Int32} {S : List Value} : rn ca C_X11_push 33 L (.int y :: .int x :: S) M = if y ≤ x then rn ca C_X11_push 203 L S M else rn ca C_X11_push 36 L S M := (rn_at k_X11_push_33).trans rnx_ite
theorem k_X11_push_36 : lk 36 C_X11_push = some (.iload 6, (0, 0, 0, 0)) := by decide +kernel
theorem s_X11_push_36 {ca : Nat → List Value → tM → tO} {M : tM} {a0 a1 a2 a3 a4 a5 a7 a8 a9 a10 : Option Value} {x : Int32} {S : List Value} : rn ca C_X11_push 36 [a0, a1, a2, a3, a4, a5, some (.int x), a7, a8, a9, a10] S M = rn ca C_X11_push 38 [a0, a1, a2, a3, a4, a5, some (.int x), a7, a8, a9, a10] (.int x :: S) M := (rn_at k_X11_push_36).trans rfl
theorem k_X11_push_38 : lk 38 C_X11_push = some (.ifCond .ne 12, (50, 0, 0, 0)) := by decide +kernel
theorem s_X11_push_38 {ca : Nat → List Value → tM → tO} {M : tM} {L : tL} {x : Int32} {S : List Value} : rn ca C_X11_push 38 L (.int x :: S) M = if ¬ x = iI 0 then rn ca C_X11_push 50 L S M else rn ca C_X11_push 41 L S M := (rn_at k_X11_push_38).trans rnx_ite
theorem k_X11_push_41 : lk 41 C_X11_push = some (.aload_n 0, (0, 0, 0, 0)) := by decide +kernel
theorem s_X11_push_41 {ca : Nat → List Value → tM → tO} {M : tM} {a1 a2 a3 a4 a5 a6 a7 a8 a9 a10 : Option Value} {x : Nat} {S : List Value} : rn ca C_X11_push 41 [some (.ref x), a1, a2, a3, a4, a5, a6, a7, a8, a9, a10] S M = rn ca C_X11_push 42 [some (.ref x), a1, a2, a3, a4, a5, a6, a7, a8, a9, a10] (.ref x :: S) M := (rn_at k_X11_push_41).trans rfl
theorem k_X11_push_42 : lk 42 C_X11_push = some (.iload 5, (0, 0, 0, 0)) := by decide +kernel
theorem s_X11_push_42 {ca : Nat → List Value → tM → tO} {M : tM} {a0 a1 a2 a3 a4 a6 a7 a8 a9 a10 : Option Value} {x : Int32} {S : List Value} : rn ca C_X11_push 42 [a0, a1, a2, a3, a4, some (.int x), a6, a7, a8, a9, a10] S M = rn ca C_X11_push 44 [a0, a1, a2, a3, a4, some (.int x), a6, a7, a8, a9, a10] (.int x :: S) M := (rn_at k_X11_push_42).trans rfl
theorem k_X11_push_44 : lk 44 C_X11_push = some (.invokevirtual 221, (150, 1, 11, 769)) := by decide +kernel
theorem s_X11_push_44 {ca : Nat → List Value → tM → tO} {M : tM} {L : tL} {v1 : Value} {b : Nat} : rn ca C_X11_push 44 L [v1, .ref b] M = if clsO b = some 11 then rnk ca C_X11_push 47 L [] (ca m_X11_from [.ref b, v1] M) else none := (rn_at k_X11_push_44).trans rnx_ite
theorem k_X11_push_47 : lk 47 C_X11_push = some (.goto 9, (56, 0, 0, 0)) := by decide +kernel
theorem s_X11_push_47 {ca : Nat → List Value → tM → tO} {M : tM} {L : tL} {S : List Value} : rn ca C_X11_push 47 L S M = rn ca C_X11_push 56 L S M := (rn_at k_X11_push_47).trans rfl
theorem k_X11_push_50 : lk 50 C_X11_push = some (.aload_n 0, (0, 0, 0, 0)) := by decide +kernel
theorem s_X11_push_50 {ca : Nat → List Value → tM → tO} {M : tM} {a1 a2 a3 a4 a5 a6 a7 a8 a9 a10 : Option Value} {x : Nat} {S : List Value} : rn ca C_X11_push 50 [some (.ref x), a1, a2, a3, a4, a5, a6, a7, a8, a9, a10] S M = rn ca C_X11_push 51 [some (.ref x), a1, a2, a3, a4, a5, a6, a7, a8, a9, a10] (.ref x :: S) M := (rn_at k_X11_push_50).trans rfl
theorem k_X11_push_51 : lk 51 C_X11_push = some (.iload 5, (0, 0, 0, 0)) := by decide +kernel
theorem s_X11_push_51 {ca : Nat → List Value → tM → tO} {M : tM} {a0 a1 a2 a3 a4 a6 a7 a8 a9 a10 : Option Value} {x : Int32} {S : List Value} : rn ca C_X11_push 51 [a0, a1, a2, a3, a4, some (.int x), a6, a7, a8, a9, a10] S M = rn ca C_X11_push 53 [a0, a1, a2, a3, a4, some (.int x), a6, a7, a8, a9, a10] (.int x :: S) M := (rn_at k_X11_push_51).trans rfl
theorem k_X11_push_53 : lk 53 C_X11_push = some (.invokevirtual 224, (151, 1, 11, 773)) := by decide +kernel
theorem s_X11_push_53 {ca : Nat → List Value → tM → tO} {M : tM} {L : tL} {v1 : Value} {b : Nat} : rn ca C_X11_push 53 L [v1, .ref b] M = if clsO b = some 11 then rnk ca C_X11_push 56 L [] (ca m_X11_to [.ref b, v1] M) else none := (rn_at k_X11_push_53).trans rnx_ite
theorem k_X11_push_56 : lk 56 C_X11_push = some (.istore 7, (0, 0, 0, 0)) := by decide +kernel
theorem s_X11_push_56 {ca : Nat → List Value → tM → tO} {M : tM} {a0 a1 a2 a3 a4 a5 a6 a7 a8 a9 a10 : Option Value} {x : Int32} {S : List Value} : rn ca C_X11_push 56 [a0, a1, a2, a3, a4, a5, a6, a7, a8, a9, a10] (.int x :: S) M = rn ca C_X11_push 58 [a0, a1, a2, a3, a4, a5, a6, some (.int x), a8, a9, a10] S M := (rn_at k_X11_push_56).trans rfl
theorem k_X11_push_58 : lk 58 C_X11_push = some (.iload 6, (0, 0, 0, 0)) := by decide +kernel
theorem s_X11_push_58 {ca : Nat → List Value → tM → tO} {M : tM} {a0 a1 a2 a3 a4 a5 a7 a8 a9 a10 : Option Value} {x : Int32} {S : List Value} : rn ca C_X11_push 58 [a0, a1, a2, a3, a4, a5, some (.int x), a7, a8, a9, a10] S M = rn ca C_X11_push 60 [a0, a1, a2, a3, a4, a5, some (.int x), a7, a8, a9, a10] (.int x :: S) M := (rn_at k_X11_push_58).trans rfl
theorem k_X11_push_60 : lk 60 C_X11_push = some (.ifCond .ne 12, (72, 0, 0, 0)) := by decide +kernel
theorem s_X11_push_60 {ca : Nat → List Value → tM → tO} {M : tM} {L : tL} {x : Int32} {S : List Value} : rn ca C_X11_push 60 L (.int x :: S) M = if ¬ x = iI 0 then rn ca C_X11_push 72 L S M else rn ca C_X11_push 63 L S M := (rn_at k_X11_push_60).trans rnx_ite
theorem k_X11_push_63 : lk 63 C_X11_push = some (.aload_n 0, (0, 0, 0, 0)) := by decide +kernel
theorem s_X11_push_63 {ca : Nat → List Value → tM → tO} {M : tM} {a1 a2 a3 a4 a5 a6 a7 a8 a9 a10 : Option Value} {x : Nat} {S : List Value} : rn ca C_X11_push 63 [some (.ref x), a1, a2, a3, a4, a5, a6, a7, a8, a9, a10] S M = rn ca C_X11_push 64 [some (.ref x), a1, a2, a3, a4, a5, a6, a7, a8, a9, a10] (.ref x :: S) M := (rn_at k_X11_push_63).trans rfl
theorem k_X11_push_64 : lk 64 C_X11_push = some (.iload 5, (0, 0, 0, 0)) := by decide +kernel
theorem s_X11_push_64 {ca : Nat → List Value → tM → tO} {M : tM} {a0 a1 a2 a3 a4 a6 a7 a8 a9 a10 : Option Value} {x : Int32} {S : List Value} : rn ca C_X11_push 64 [a0, a1, a2, a3, a4, some (.int x), a6, a7, a8, a9, a10] S M = rn ca C_X11_push 66 [a0, a1, a2, a3, a4, some (.int x), a6, a7, a8, a9, a10] (.int x :: S) M := (rn_at k_X11_push_64).trans rfl
theorem k_X11_push_66 : lk 66 C_X11_push = some (.invokevirtual 224, (151, 1, 11, 773)) := by decide +kernel
theorem s_X11_push_66 {ca : Nat → List Value → tM → tO} {M : tM} {L : tL} {v1 : Value} {b : Nat} : rn ca C_X11_push 66 L [v1, .ref b] M = if clsO b = some 11 then rnk ca C_X11_push 69 L [] (ca m_X11_to [.ref b, v1] M) else none := (rn_at k_X11_push_66).trans rnx_ite
theorem k_X11_push_69 : lk 69 C_X11_push = some (.goto 9, (78, 0, 0, 0)) := by decide +kernel
theorem s_X11_push_69 {ca : Nat → List Value → tM → tO} {M : tM} {L : tL} {S : List Value} : rn ca C_X11_push 69 L S M = rn ca C_X11_push 78 L S M := (rn_at k_X11_push_69).trans rfl
theorem k_X11_push_72 : lk 72 C_X11_push = some (.aload_n 0, (0, 0, 0, 0)) := by decide +kernel
theorem s_X11_push_72 {ca : Nat → List Value → tM → tO} {M : tM} {a1 a2 a3 a4 a5 a6 a7 a8 a9 a10 : Option Value} {x : Nat} {S : List Value} : rn ca C_X11_push 72 [some (.ref x), a1, a2, a3, a4, a5, a6, a7, a8, a9, a10] S M = rn ca C_X11_push 73 [some (.ref x), a1, a2, a3, a4, a5, a6, a7, a8, a9, a10] (.ref x :: S) M := (rn_at k_X11_push_72).trans rfl
theorem k_X11_push_73 : lk 73 C_X11_push = some (.iload 5, (0, 0, 0, 0)) := by decide +kernel
theorem s_X11_push_73 {ca : Nat → List Value → tM → tO} {M : tM} {a0 a1 a2 a3 a4 a6 a7 a8 a9 a10 : Option Value} {x : Int32} {S : List Value} : rn ca C_X11_push 73 [a0, a1, a2, a3, a4, some (.int x), a6, a7, a8, a9, a10] S M = rn ca C_X11_push 75 [a0, a1, a2, a3, a4, some (.int x), a6, a7, a8, a9, a10] (.int x :: S) M := (rn_at k_X11_push_73).trans rfl
theorem k_X11_push_75 : lk 75 C_X11_push = some (.invokevirtual 221, (150, 1, 11, 769)) := by decide +kernel
theorem s_X11_push_75 {ca : Nat → List Value → tM → tO} {M : tM} {L : tL} {v1 : Value} {b : Nat} : rn ca C_X11_push 75 L [v1, .ref b] M = if clsO b = some 11 then rnk ca C_X11_push 78 L [] (ca m_X11_from [.ref b, v1] M) else none := (rn_at k_X11_push_75).trans rnx_ite
theorem k_X11_push_78 : lk 78 C_X11_push = some (.istore 8, (0, 0, 0, 0)) := by decide +kernel
theorem s_X11_push_78 {ca : Nat → List Value → tM → tO} {M : tM} {a0 a1 a2 a3 a4 a5 a6 a7 a8 a9 a10 : Option Value} {x : Int32} {S : List Value} : rn ca C_X11_push 78 [a0, a1, a2, a3, a4, a5, a6, a7, a8, a9, a10] (.int x :: S) M = rn ca C_X11_push 80 [a0, a1, a2, a3, a4, a5, a6, a7, some (.int x), a9, a10] S M := (rn_at k_X11_push_78).trans rfl
theorem k_X11_push_80 : lk 80 C_X11_push = some (.iload 6, (0, 0, 0, 0)) := by decide +kernel
theorem s_X11_push_80 {ca : Nat → List Value → tM → tO} {M : tM} {a0 a1 a2 a3 a4 a5 a7 a8 a9 a10 : Option Value} {x : Int32} {S : List Value} : rn ca C_X11_push 80 [a0, a1, a2, a3, a4, a5, some (.int x), a7, a8, a9, a10] S M = rn ca C_X11_push 82 [a0, a1, a2, a3, a4, a5, some (.int x), a7, a8, a9, a10] (.int x :: S) M := (rn_at k_X11_push_80).trans rfl
theorem k_X11_push_82 : lk 82 C_X11_push = some (.ifCond .ne 13, (95, 0, 0, 0)) := by decide +kernel
theorem s_X11_push_82 {ca : Nat → List Value → tM → tO} {M : tM} {L : tL} {x : Int32} {S : List Value} : rn ca C_X11_push 82 L (.int x :: S) M = if ¬ x = iI 0 then rn ca C_X11_push 95 L S M else rn ca C_X11_push 85 L S M := (rn_at k_X11_push_82).trans rnx_ite
theorem k_X11_push_85 : lk 85 C_X11_push = some (.aload_n 0, (0, 0, 0, 0)) := by decide +kernel
theorem s_X11_push_85 {ca : Nat → List Value → tM → tO} {M : tM} {a1 a2 a3 a4 a5 a6 a7 a8 a9 a10 : Option Value} {x : Nat} {S : List Value} : rn ca C_X11_push 85 [some (.ref x), a1, a2, a3, a4, a5, a6, a7, a8, a9, a10] S M = rn ca C_X11_push 86 [some (.ref x), a1, a2, a3, a4, a5, a6, a7, a8, a9, a10] (.ref x :: S) M := (rn_at k_X11_push_85).trans rfl
theorem k_X11_push_86 : lk 86 C_X11_push = some (.getfield 73, (11, 17, 0, 161)) := by decide +kernel
theorem s_X11_push_86 {ca : Nat → List Value → tM → tO} {M : tM} {L : tL} {b : Nat} {S : List Value} : rn ca C_X11_push 86 L (.ref b :: S) M = if clsO b = some 11 then rn ca C_X11_push 89 L (fv M b 17 :: S) M else none := (rn_at k_X11_push_86).trans rnx_ite
theorem k_X11_push_89 : lk 89 C_X11_push = some (.iload 5, (0, 0, 0, 0)) := by decide +kernel
theorem s_X11_push_89 {ca : Nat → List Value → tM → tO} {M : tM} {a0 a1 a2 a3 a4 a6 a7 a8 a9 a10 : Option Value} {x : Int32} {S : List Value} : rn ca C_X11_push 89 [a0, a1, a2, a3, a4, some (.int x), a6, a7, a8, a9, a10] S M = rn ca C_X11_push 91 [a0, a1, a2, a3, a4, some (.int x), a6, a7, a8, a9, a10] (.int x :: S) M := (rn_at k_X11_push_89).trans rfl
theorem k_X11_push_91 : lk 91 C_X11_push = some (.iaload, (0, 0, 0, 0)) := by decide +kernel
theorem s_X11_push_91 {ca : Nat → List Value → tM → tO} {M : tM} {L : tL} {a : Nat} {i : Int32} {S : List Value} : rn ca C_X11_push 91 L (.int i :: .ref a :: S) M = if (akind a = 0 ∨ akind a = 6 ∨ akind a = 7) ∧ inb i (alen M a) then rn ca C_X11_push 92 L (.int (M.1 a i.toInt.toNat) :: S) M else none := (rn_at k_X11_push_91).trans rnx_ite
theorem k_X11_push_92 : lk 92 C_X11_push = some (.goto 11, (103, 0, 0, 0)) := by decide +kernel
theorem s_X11_push_92 {ca : Nat → List Value → tM → tO} {M : tM} {L : tL} {S : List Value} : rn ca C_X11_push 92 L S M = rn ca C_X11_push 103 L S M := (rn_at k_X11_push_92).trans rfl
theorem k_X11_push_95 : lk 95 C_X11_push = some (.aload_n 0, (0, 0, 0, 0)) := by decide +kernel
theorem s_X11_push_95 {ca : Nat → List Value → tM → tO} {M : tM} {a1 a2 a3 a4 a5 a6 a7 a8 a9 a10 : Option Value} {x : Nat} {S : List Value} : rn ca C_X11_push 95 [some (.ref x), a1, a2, a3, a4, a5, a6, a7, a8, a9, a10] S M = rn ca C_X11_push 96 [some (.ref x), a1, a2, a3, a4, a5, a6, a7, a8, a9, a10] (.ref x :: S) M := (rn_at k_X11_push_95).trans rfl
theorem k_X11_push_96 : lk 96 C_X11_push = some (.getfield 73, (11, 17, 0, 161)) := by decide +kernel
theorem s_X11_push_96 {ca : Nat → List Value → tM → tO} {M : tM} {L : tL} {b : Nat} {S : List Value} : rn ca C_X11_push 96 L (.ref b :: S) M = if clsO b = some 11 then rn ca C_X11_push 99 L (fv M b 17 :: S) M else none := (rn_at k_X11_push_96).trans rnx_ite
theorem k_X11_push_99 : lk 99 C_X11_push = some (.iload 5, (0, 0, 0, 0)) := by decide +kernel
theorem s_X11_push_99 {ca : Nat → List Value → tM → tO} {M : tM} {a0 a1 a2 a3 a4 a6 a7 a8 a9 a10 : Option Value} {x : Int32} {S : List Value} : rn ca C_X11_push 99 [a0, a1, a2, a3, a4, some (.int x), a6, a7, a8, a9, a10] S M = rn ca C_X11_push 101 [a0, a1, a2, a3, a4, some (.int x), a6, a7, a8, a9, a10] (.int x :: S) M := (rn_at k_X11_push_99).trans rfl
theorem k_X11_push_101 : lk 101 C_X11_push = some (.iaload, (0, 0, 0, 0)) := by decide +kernel
theorem s_X11_push_101 {ca : Nat → List Value → tM → tO} {M : tM} {L : tL} {a : Nat} {i : Int32} {S : List Value} : rn ca C_X11_push 101 L (.int i :: .ref a :: S) M = if (akind a = 0 ∨ akind a = 6 ∨ akind a = 7) ∧ inb i (alen M a) then rn ca C_X11_push 102 L (.int (M.1 a i.toInt.toNat) :: S) M else none := (rn_at k_X11_push_101).trans rnx_ite
theorem k_X11_push_102 : lk 102 C_X11_push = some (.ineg, (0, 0, 0, 0)) := by decide +kernel
theorem s_X11_push_102 {ca : Nat → List Value → tM → tO} {M : tM} {L : tL} {x : Int32} {S : List Value} : rn ca C_X11_push 102 L (.int x :: S) M = rn ca C_X11_push 103 L (.int (-x) :: S) M := (rn_at k_X11_push_102).trans rfl
theorem k_X11_push_103 : lk 103 C_X11_push = some (.istore 9, (0, 0, 0, 0)) := by decide +kernel
theorem s_X11_push_103 {ca : Nat → List Value → tM → tO} {M : tM} {a0 a1 a2 a3 a4 a5 a6 a7 a8 a9 a10 : Option Value} {x : Int32} {S : List Value} : rn ca C_X11_push 103 [a0, a1, a2, a3, a4, a5, a6, a7, a8, a9, a10] (.int x :: S) M = rn ca C_X11_push 105 [a0, a1, a2, a3, a4, a5, a6, a7, a8, some (.int x), a10] S M := (rn_at k_X11_push_103).trans rfl
theorem k_X11_push_105 : lk 105 C_X11_push = some (.iload 9, (0, 0, 0, 0)) := by decide +kernel
theorem s_X11_push_105 {ca : Nat → List Value → tM → tO} {M : tM} {a0 a1 a2 a3 a4 a5 a6 a7 a8 a10 : Option Value} {x : Int32} {S : List Value} : rn ca C_X11_push 105 [a0, a1, a2, a3, a4, a5, a6, a7, a8, some (.int x), a10] S M = rn ca C_X11_push 107 [a0, a1, a2, a3, a4, a5, a6, a7, a8, some (.int x), a10] (.int x :: S) M := (rn_at k_X11_push_105).trans rfl
theorem k_X11_push_107 : lk 107 C_X11_push = some (.ifCond .lt 29, (136, 0, 0, 0)) := by decide +kernel
theorem s_X11_push_107 {ca : Nat → List Value → tM → tO} {M : tM} {L : tL} {x : Int32} {S : List Value} : rn ca C_X11_push 107 L (.int x :: S) M = if x < iI 0 then rn ca C_X11_push 136 L S M else rn ca C_X11_push 110 L S M := (rn_at k_X11_push_107).trans rnx_ite
theorem k_X11_push_110 : lk 110 C_X11_push = some (.iload 9, (0, 0, 0, 0)) := by decide +kernel
theorem s_X11_push_110 {ca : Nat → List Value → tM → tO} {M : tM} {a0 a1 a2 a3 a4 a5 a6 a7 a8 a10 : Option Value} {x : Int32} {S : List Value} : rn ca C_X11_push 110 [a0, a1, a2, a3, a4, a5, a6, a7, a8, some (.int x), a10] S M = rn ca C_X11_push 112 [a0, a1, a2, a3, a4, a5, a6, a7, a8, some (.int x), a10] (.int x :: S) M := (rn_at k_X11_push_110).trans rfl
theorem k_X11_push_112 : lk 112 C_X11_push = some (.ifCond .ne 28, (140, 0, 0, 0)) := by decide +kernel
theorem s_X11_push_112 {ca : Nat → List Value → tM → tO} {M : tM} {L : tL} {x : Int32} {S : List Value} : rn ca C_X11_push 112 L (.int x :: S) M = if ¬ x = iI 0 then rn ca C_X11_push 140 L S M else rn ca C_X11_push 115 L S M := (rn_at k_X11_push_112).trans rnx_ite
theorem k_X11_push_115 : lk 115 C_X11_push = some (.aload_n 0, (0, 0, 0, 0)) := by decide +kernel
theorem s_X11_push_115 {ca : Nat → List Value → tM → tO} {M : tM} {a1 a2 a3 a4 a5 a6 a7 a8 a9 a10 : Option Value} {x : Nat} {S : List Value} : rn ca C_X11_push 115 [some (.ref x), a1, a2, a3, a4, a5, a6, a7, a8, a9, a10] S M = rn ca C_X11_push 116 [some (.ref x), a1, a2, a3, a4, a5, a6, a7, a8, a9, a10] (.ref x :: S) M := (rn_at k_X11_push_115).trans rfl
theorem k_X11_push_116 : lk 116 C_X11_push = some (.iload_n 1, (0, 0, 0, 0)) := by decide +kernel
theorem s_X11_push_116 {ca : Nat → List Value → tM → tO} {M : tM} {a0 a2 a3 a4 a5 a6 a7 a8 a9 a10 : Option Value} {x : Int32} {S : List Value} : rn ca C_X11_push 116 [a0, some (.int x), a2, a3, a4, a5, a6, a7, a8, a9, a10] S M = rn ca C_X11_push 117 [a0, some (.int x), a2, a3, a4, a5, a6, a7, a8, a9, a10] (.int x :: S) M := (rn_at k_X11_push_116).trans rfl
theorem k_X11_push_117 : lk 117 C_X11_push = some (.iload 5, (0, 0, 0, 0)) := by decide +kernel
theorem s_X11_push_117 {ca : Nat → List Value → tM → tO} {M : tM} {a0 a1 a2 a3 a4 a6 a7 a8 a9 a10 : Option Value} {x : Int32} {S : List Value} : rn ca C_X11_push 117 [a0, a1, a2, a3, a4, some (.int x), a6, a7, a8, a9, a10] S M = rn ca C_X11_push 119 [a0, a1, a2, a3, a4, some (.int x), a6, a7, a8, a9, a10] (.int x :: S) M := (rn_at k_X11_push_117).trans rfl
theorem k_X11_push_119 : lk 119 C_X11_push = some (.iload 6, (0, 0, 0, 0)) := by decide +kernel
theorem s_X11_push_119 {ca : Nat → List Value → tM → tO} {M : tM} {a0 a1 a2 a3 a4 a5 a7 a8 a9 a10 : Option Value} {x : Int32} {S : List Value} : rn ca C_X11_push 119 [a0, a1, a2, a3, a4, a5, some (.int x), a7, a8, a9, a10] S M = rn ca C_X11_push 121 [a0, a1, a2, a3, a4, a5, some (.int x), a7, a8, a9, a10] (.int x :: S) M := (rn_at k_X11_push_119).trans rfl
theorem k_X11_push_121 : lk 121 C_X11_push = some (.iconst 1, (0, 0, 0, 0)) := by decide +kernel
theorem s_X11_push_121 {ca : Nat → List Value → tM → tO} {M : tM} {L : tL} {S : List Value} : rn ca C_X11_push 121 L S M = rn ca C_X11_push 122 L (.int (iI 1) :: S) M := (rn_at k_X11_push_121).trans rfl
theorem k_X11_push_122 : lk 122 C_X11_push = some (.if_icmp .ne 7, (129, 0, 0, 0)) := by decide +kernel
theorem s_X11_push_122 {ca : Nat → List Value → tM → tO} {M : tM} {L : tL} {x y : Int32} {S : List Value} : rn ca C_X11_push 122 L (.int y :: .int x :: S) M = if ¬ x = y then rn ca C_X11_push 129 L S M else rn ca C_X11_push 125 L S M := (rn_at k_X11_push_122).trans rnx_ite
theorem k_X11_push_125 : lk 125 C_X11_push = some (.iconst 1, (0, 0, 0, 0)) := by decide +kernel
theorem s_X11_push_125 {ca : Nat → List Value → tM → tO} {M : tM} {L : tL} {S : List Value} : rn ca C_X11_push 125 L S M = rn ca C_X11_push 126 L (.int (iI 1) :: S) M := (rn_at k_X11_push_125).trans rfl
theorem k_X11_push_126 : lk 126 C_X11_push = some (.goto 4, (130, 0, 0, 0)) := by decide +kernel
theorem s_X11_push_126 {ca : Nat → List Value → tM → tO} {M : tM} {L : tL} {S : List Value} : rn ca C_X11_push 126 L S M = rn ca C_X11_push 130 L S M := (rn_at k_X11_push_126).trans rfl
theorem k_X11_push_129 : lk 129 C_X11_push = some (.iconst 0, (0, 0, 0, 0)) := by decide +kernel
theorem s_X11_push_129 {ca : Nat → List Value → tM → tO} {M : tM} {L : tL} {S : List Value} : rn ca C_X11_push 129 L S M = rn ca C_X11_push 130 L (.int (iI 0) :: S) M := (rn_at k_X11_push_129).trans rfl
theorem k_X11_push_130 : lk 130 C_X11_push = some (.invokevirtual 217, (189, 3, 11, 761)) := by decide +kernel
theorem s_X11_push_130 {ca : Nat → List Value → tM → tO} {M : tM} {L : tL} {v1 v2 v3 : Value} {b : Nat} : rn ca C_X11_push 130 L [v3, v2, v1, .ref b] M = if clsO b = some 11 then rnk ca C_X11_push 133 L [] (ca m_X11_may [.ref b, v1, v2, v3] M) else none := (rn_at k_X11_push_130).trans rnx_ite
theorem k_X11_push_133 : lk 133 C_X11_push = some (.ifCond .eq 7, (140, 0, 0, 0)) := by decide +kernel
theorem s_X11_push_133 {ca : Nat → List Value → tM → tO} {M : tM} {L : tL} {x : Int32} {S : List Value} : rn ca C_X11_push 133 L (.int x :: S) M = if x = iI 0 then rn ca C_X11_push 140 L S M else rn ca C_X11_push 136 L S M := (rn_at k_X11_push_133).trans rnx_ite
theorem k_X11_push_136 : lk 136 C_X11_push = some (.iconst 1, (0, 0, 0, 0)) := by decide +kernel
theorem s_X11_push_136 {ca : Nat → List Value → tM → tO} {M : tM} {L : tL} {S : List Value} : rn ca C_X11_push 136 L S M = rn ca C_X11_push 137 L (.int (iI 1) :: S) M := (rn_at k_X11_push_136).trans rfl
theorem k_X11_push_137 : lk 137 C_X11_push = some (.goto 4, (141, 0, 0, 0)) := by decide +kernel
theorem s_X11_push_137 {ca : Nat → List Value → tM → tO} {M : tM} {L : tL} {S : List Value} : rn ca C_X11_push 137 L S M = rn ca C_X11_push 141 L S M := (rn_at k_X11_push_137).trans rfl
theorem k_X11_push_140 : lk 140 C_X11_push = some (.iconst 0, (0, 0, 0, 0)) := by decide +kernel
theorem s_X11_push_140 {ca : Nat → List Value → tM → tO} {M : tM} {L : tL} {S : List Value} : rn ca C_X11_push 140 L S M = rn ca C_X11_push 141 L (.int (iI 0) :: S) M := (rn_at k_X11_push_140).trans rfl
theorem k_X11_push_141 : lk 141 C_X11_push = some (.istore 10, (0, 0, 0, 0)) := by decide +kernel
theorem s_X11_push_141 {ca : Nat → List Value → tM → tO} {M : tM} {a0 a1 a2 a3 a4 a5 a6 a7 a8 a9 a10 : Option Value} {x : Int32} {S : List Value} : rn ca C_X11_push 141 [a0, a1, a2, a3, a4, a5, a6, a7, a8, a9, a10] (.int x :: S) M = rn ca C_X11_push 143 [a0, a1, a2, a3, a4, a5, a6, a7, a8, a9, some (.int x)] S M := (rn_at k_X11_push_141).trans rfl
theorem k_X11_push_143 : lk 143 C_X11_push = some (.iload 7, (0, 0, 0, 0)) := by decide +kernel
theorem s_X11_push_143 {ca : Nat → List Value → tM → tO} {M : tM} {a0 a1 a2 a3 a4 a5 a6 a8 a9 a10 : Option Value} {x : Int32} {S : List Value} : rn ca C_X11_push 143 [a0, a1, a2, a3, a4, a5, a6, some (.int x), a8, a9, a10] S M = rn ca C_X11_push 145 [a0, a1, a2, a3, a4, a5, a6, some (.int x), a8, a9, a10] (.int x :: S) M := (rn_at k_X11_push_143).trans rfl
theorem k_X11_push_145 : lk 145 C_X11_push = some (.iload_n 2, (0, 0, 0, 0)) := by decide +kernel
theorem s_X11_push_145 {ca : Nat → List Value → tM → tO} {M : tM} {a0 a1 a3 a4 a5 a6 a7 a8 a9 a10 : Option Value} {x : Int32} {S : List Value} : rn ca C_X11_push 145 [a0, a1, some (.int x), a3, a4, a5, a6, a7, a8, a9, a10] S M = rn ca C_X11_push 146 [a0, a1, some (.int x), a3, a4, a5, a6, a7, a8, a9, a10] (.int x :: S) M := (rn_at k_X11_push_145).trans rfl
theorem k_X11_push_146 : lk 146 C_X11_push = some (.if_icmp .ne 51, (197, 0, 0, 0)) := by decide +kernel
theorem s_X11_push_146 {ca : Nat → List Value → tM → tO} {M : tM} {L : tL} {x y : Int32} {S : List Value} : rn ca C_X11_push 146 L (.int y :: .int x :: S) M = if ¬ x = y then rn ca C_X11_push 197 L S M else rn ca C_X11_push 149 L S M := (rn_at k_X11_push_146).trans rnx_ite
theorem k_X11_push_149 : lk 149 C_X11_push = some (.iload 10, (0, 0, 0, 0)) := by decide +kernel
theorem s_X11_push_149 {ca : Nat → List Value → tM → tO} {M : tM} {a0 a1 a2 a3 a4 a5 a6 a7 a8 a9 : Option Value} {x : Int32} {S : List Value} : rn ca C_X11_push 149 [a0, a1, a2, a3, a4, a5, a6, a7, a8, a9, some (.int x)] S M = rn ca C_X11_push 151 [a0, a1, a2, a3, a4, a5, a6, a7, a8, a9, some (.int x)] (.int x :: S) M := (rn_at k_X11_push_149).trans rfl
theorem k_X11_push_151 : lk 151 C_X11_push = some (.ifCond .eq 46, (197, 0, 0, 0)) := by decide +kernel
theorem s_X11_push_151 {ca : Nat → List Value → tM → tO} {M : tM} {L : tL} {x : Int32} {S : List Value} : rn ca C_X11_push 151 L (.int x :: S) M = if x = iI 0 then rn ca C_X11_push 197 L S M else rn ca C_X11_push 154 L S M := (rn_at k_X11_push_151).trans rnx_ite
theorem k_X11_push_154 : lk 154 C_X11_push = some (.aload 4, (0, 0, 0, 0)) := by decide +kernel
theorem s_X11_push_154 {ca : Nat → List Value → tM → tO} {M : tM} {a0 a1 a2 a3 a5 a6 a7 a8 a9 a10 : Option Value} {x : Nat} {S : List Value} : rn ca C_X11_push 154 [a0, a1, a2, a3, some (.ref x), a5, a6, a7, a8, a9, a10] S M = rn ca C_X11_push 156 [a0, a1, a2, a3, some (.ref x), a5, a6, a7, a8, a9, a10] (.ref x :: S) M := (rn_at k_X11_push_154).trans rfl
theorem k_X11_push_156 : lk 156 C_X11_push = some (.iload 8, (0, 0, 0, 0)) := by decide +kernel
theorem s_X11_push_156 {ca : Nat → List Value → tM → tO} {M : tM} {a0 a1 a2 a3 a4 a5 a6 a7 a9 a10 : Option Value} {x : Int32} {S : List Value} : rn ca C_X11_push 156 [a0, a1, a2, a3, a4, a5, a6, a7, some (.int x), a9, a10] S M = rn ca C_X11_push 158 [a0, a1, a2, a3, a4, a5, a6, a7, some (.int x), a9, a10] (.int x :: S) M := (rn_at k_X11_push_156).trans rfl
theorem k_X11_push_158 : lk 158 C_X11_push = some (.baload, (0, 0, 0, 0)) := by decide +kernel
theorem s_X11_push_158 {ca : Nat → List Value → tM → tO} {M : tM} {L : tL} {a : Nat} {i : Int32} {S : List Value} : rn ca C_X11_push 158 L (.int i :: .ref a :: S) M = if akind a = 1 ∧ inb i (alen M a) then rn ca C_X11_push 159 L (.int (M.1 a i.toInt.toNat) :: S) M else none := (rn_at k_X11_push_158).trans rnx_ite
theorem k_X11_push_159 : lk 159 C_X11_push = some (.ifCond .ne 38, (197, 0, 0, 0)) := by decide +kernel
theorem s_X11_push_159 {ca : Nat → List Value → tM → tO} {M : tM} {L : tL} {x : Int32} {S : List Value} : rn ca C_X11_push 159 L (.int x :: S) M = if ¬ x = iI 0 then rn ca C_X11_push 197 L S M else rn ca C_X11_push 162 L S M := (rn_at k_X11_push_159).trans rnx_ite
theorem k_X11_push_162 : lk 162 C_X11_push = some (.aload_n 0, (0, 0, 0, 0)) := by decide +kernel
theorem s_X11_push_162 {ca : Nat → List Value → tM → tO} {M : tM} {a1 a2 a3 a4 a5 a6 a7 a8 a9 a10 : Option Value} {x : Nat} {S : List Value} : rn ca C_X11_push 162 [some (.ref x), a1, a2, a3, a4, a5, a6, a7, a8, a9, a10] S M = rn ca C_X11_push 163 [some (.ref x), a1, a2, a3, a4, a5, a6, a7, a8, a9, a10] (.ref x :: S) M := (rn_at k_X11_push_162).trans rfl
theorem k_X11_push_163 : lk 163 C_X11_push = some (.iload_n 1, (0, 0, 0, 0)) := by decide +kernel
theorem s_X11_push_163 {ca : Nat → List Value → tM → tO} {M : tM} {a0 a2 a3 a4 a5 a6 a7 a8 a9 a10 : Option Value} {x : Int32} {S : List Value} : rn ca C_X11_push 163 [a0, some (.int x), a2, a3, a4, a5, a6, a7, a8, a9, a10] S M = rn ca C_X11_push 164 [a0, some (.int x), a2, a3, a4, a5, a6, a7, a8, a9, a10] (.int x :: S) M := (rn_at k_X11_push_163).trans rfl
theorem k_X11_push_164 : lk 164 C_X11_push = some (.iload 8, (0, 0, 0, 0)) := by decide +kernel
theorem s_X11_push_164 {ca : Nat → List Value → tM → tO} {M : tM} {a0 a1 a2 a3 a4 a5 a6 a7 a9 a10 : Option Value} {x : Int32} {S : List Value} : rn ca C_X11_push 164 [a0, a1, a2, a3, a4, a5, a6, a7, some (.int x), a9, a10] S M = rn ca C_X11_push 166 [a0, a1, a2, a3, a4, a5, a6, a7, some (.int x), a9, a10] (.int x :: S) M := (rn_at k_X11_push_164).trans rfl
theorem k_X11_push_166 : lk 166 C_X11_push = some (.iload_n 3, (0, 0, 0, 0)) := by decide +kernel
theorem s_X11_push_166 {ca : Nat → List Value → tM → tO} {M : tM} {a0 a1 a2 a4 a5 a6 a7 a8 a9 a10 : Option Value} {x : Int32} {S : List Value} : rn ca C_X11_push 166 [a0, a1, a2, some (.int x), a4, a5, a6, a7, a8, a9, a10] S M = rn ca C_X11_push 167 [a0, a1, a2, some (.int x), a4, a5, a6, a7, a8, a9, a10] (.int x :: S) M := (rn_at k_X11_push_166).trans rfl
theorem k_X11_push_167 : lk 167 C_X11_push = some (.aload 4, (0, 0, 0, 0)) := by decide +kernel
theorem s_X11_push_167 {ca : Nat → List Value → tM → tO} {M : tM} {a0 a1 a2 a3 a5 a6 a7 a8 a9 a10 : Option Value} {x : Nat} {S : List Value} : rn ca C_X11_push 167 [a0, a1, a2, a3, some (.ref x), a5, a6, a7, a8, a9, a10] S M = rn ca C_X11_push 169 [a0, a1, a2, a3, some (.ref x), a5, a6, a7, a8, a9, a10] (.ref x :: S) M := (rn_at k_X11_push_167).trans rfl
theorem k_X11_push_169 : lk 169 C_X11_push = some (.invokevirtual 260, (205, 4, 11, 932)) := by decide +kernel
theorem s_X11_push_169 {ca : Nat → List Value → tM → tO} {M : tM} {L : tL} {v1 v2 v3 v4 : Value} {b : Nat} : rn ca C_X11_push 169 L [v4, v3, v2, v1, .ref b] M = if clsO b = some 11 then rnk ca C_X11_push 172 L [] (ca m_X11_push [.ref b, v1, v2, v3, v4] M) else none := (rn_at k_X11_push_169).trans rnx_ite
theorem k_X11_push_172 : lk 172 C_X11_push = some (.ifCond .eq 25, (197, 0, 0, 0)) := by decide +kernel
theorem s_X11_push_172 {ca : Nat → List Value → tM → tO} {M : tM} {L : tL} {x : Int32} {S : List Value} : rn ca C_X11_push 172 L (.int x :: S) M = if x = iI 0 then rn ca C_X11_push 197 L S M else rn ca C_X11_push 175 L S M := (rn_at k_X11_push_172).trans rnx_ite
theorem k_X11_push_175 : lk 175 C_X11_push = some (.aload_n 0, (0, 0, 0, 0)) := by decide +kernel
theorem s_X11_push_175 {ca : Nat → List Value → tM → tO} {M : tM} {a1 a2 a3 a4 a5 a6 a7 a8 a9 a10 : Option Value} {x : Nat} {S : List Value} : rn ca C_X11_push 175 [some (.ref x), a1, a2, a3, a4, a5, a6, a7, a8, a9, a10] S M = rn ca C_X11_push 176 [some (.ref x), a1, a2, a3, a4, a5, a6, a7, a8, a9, a10] (.ref x :: S) M := (rn_at k_X11_push_175).trans rfl
theorem k_X11_push_176 : lk 176 C_X11_push = some (.getfield 73, (11, 17, 0, 161)) := by decide +kernel
theorem s_X11_push_176 {ca : Nat → List Value → tM → tO} {M : tM} {L : tL} {b : Nat} {S : List Value} : rn ca C_X11_push 176 L (.ref b :: S) M = if clsO b = some 11 then rn ca C_X11_push 179 L (fv M b 17 :: S) M else none := (rn_at k_X11_push_176).trans rnx_ite
theorem k_X11_push_179 : lk 179 C_X11_push = some (.iload 5, (0, 0, 0, 0)) := by decide +kernel
theorem s_X11_push_179 {ca : Nat → List Value → tM → tO} {M : tM} {a0 a1 a2 a3 a4 a6 a7 a8 a9 a10 : Option Value} {x : Int32} {S : List Value} : rn ca C_X11_push 179 [a0, a1, a2, a3, a4, some (.int x), a6, a7, a8, a9, a10] S M = rn ca C_X11_push 181 [a0, a1, a2, a3, a4, some (.int x), a6, a7, a8, a9, a10] (.int x :: S) M := (rn_at k_X11_push_179).trans rfl
theorem k_X11_push_181 : lk 181 C_X11_push = some (.dup2, (0, 0, 0, 0)) := by decide +kernel
theorem s_X11_push_181 {ca : Nat → List Value → tM → tO} {M : tM} {L : tL} {x : Nat} {y : Int32} {S : List Value} : rn ca C_X11_push 181 L (.int y :: .ref x :: S) M = rn ca C_X11_push 182 L (.int y :: .ref x :: .int y :: .ref x :: S) M := (rn_at k_X11_push_181).trans rfl
theorem k_X11_push_182 : lk 182 C_X11_push = some (.iaload, (0, 0, 0, 0)) := by decide +kernel
theorem s_X11_push_182 {ca : Nat → List Value → tM → tO} {M : tM} {L : tL} {a : Nat} {i : Int32} {S : List Value} : rn ca C_X11_push 182 L (.int i :: .ref a :: S) M = if (akind a = 0 ∨ akind a = 6 ∨ akind a = 7) ∧ inb i (alen M a) then rn ca C_X11_push 183 L (.int (M.1 a i.toInt.toNat) :: S) M else none := (rn_at k_X11_push_182).trans rnx_ite
theorem k_X11_push_183 : lk 183 C_X11_push = some (.iload 6, (0, 0, 0, 0)) := by decide +kernel
theorem s_X11_push_183 {ca : Nat → List Value → tM → tO} {M : tM} {a0 a1 a2 a3 a4 a5 a7 a8 a9 a10 : Option Value} {x : Int32} {S : List Value} : rn ca C_X11_push 183 [a0, a1, a2, a3, a4, a5, some (.int x), a7, a8, a9, a10] S M = rn ca C_X11_push 185 [a0, a1, a2, a3, a4, a5, some (.int x), a7, a8, a9, a10] (.int x :: S) M := (rn_at k_X11_push_183).trans rfl
theorem k_X11_push_185 : lk 185 C_X11_push = some (.ifCond .ne 7, (192, 0, 0, 0)) := by decide +kernel
theorem s_X11_push_185 {ca : Nat → List Value → tM → tO} {M : tM} {L : tL} {x : Int32} {S : List Value} : rn ca C_X11_push 185 L (.int x :: S) M = if ¬ x = iI 0 then rn ca C_X11_push 192 L S M else rn ca C_X11_push 188 L S M := (rn_at k_X11_push_185).trans rnx_ite
theorem k_X11_push_188 : lk 188 C_X11_push = some (.iconst 1, (0, 0, 0, 0)) := by decide +kernel
theorem s_X11_push_188 {ca : Nat → List Value → tM → tO} {M : tM} {L : tL} {S : List Value} : rn ca C_X11_push 188 L S M = rn ca C_X11_push 189 L (.int (iI 1) :: S) M := (rn_at k_X11_push_188).trans rfl
theorem k_X11_push_189 : lk 189 C_X11_push = some (.goto 4, (193, 0, 0, 0)) := by decide +kernel
theorem s_X11_push_189 {ca : Nat → List Value → tM → tO} {M : tM} {L : tL} {S : List Value} : rn ca C_X11_push 189 L S M = rn ca C_X11_push 193 L S M := (rn_at k_X11_push_189).trans rfl
theorem k_X11_push_192 : lk 192 C_X11_push = some (.iconst (-1), (0, 0, 0, 0)) := by decide +kernel
theorem s_X11_push_192 {ca : Nat → List Value → tM → tO} {M : tM} {L : tL} {S : List Value} : rn ca C_X11_push 192 L S M = rn ca C_X11_push 193 L (.int (iI (-1)) :: S) M := (rn_at k_X11_push_192).trans rfl
theorem k_X11_push_193 : lk 193 C_X11_push = some (.iadd, (0, 0, 0, 0)) := by decide +kernel
theorem s_X11_push_193 {ca : Nat → List Value → tM → tO} {M : tM} {L : tL} {x y : Int32} {S : List Value} : rn ca C_X11_push 193 L (.int y :: .int x :: S) M = rn ca C_X11_push 194 L (.int (x + y) :: S) M := (rn_at k_X11_push_193).trans rfl
theorem k_X11_push_194 : lk 194 C_X11_push = some (.iastore, (0, 0, 0, 0)) := by decide +kernel
theorem s_X11_push_194 {ca : Nat → List Value → tM → tO} {M : tM} {L : tL} {a : Nat} {i x : Int32} {S : List Value} : rn ca C_X11_push 194 L (.int x :: .int i :: .ref a :: S) M = if akind a = 0 ∧ inb i (alen M a) then rn ca C_X11_push 195 L S (sI M a i.toInt.toNat x) else none := (rn_at k_X11_push_194).trans rnx_ite
theorem k_X11_push_195 : lk 195 C_X11_push = some (.iconst 1, (0, 0, 0, 0)) := by decide +kernel
theorem s_X11_push_195 {ca : Nat → List Value → tM → tO} {M : tM} {L : tL} {S : List Value} : rn ca C_X11_push 195 L S M = rn ca C_X11_push 196 L (.int (iI 1) :: S) M := (rn_at k_X11_push_195).trans rfl
theorem k_X11_push_196 : lk 196 C_X11_push = some (.ireturn, (1, 0, 0, 0)) := by decide +kernel
theorem s_X11_push_196 {ca : Nat → List Value → tM → tO} {M : tM} {L : tL} {x : Int32} : rn ca C_X11_push 196 L [.int x] M = if x = iI 0 ∨ x = iI 1 then some (some (.int x), M) else none := (rn_at k_X11_push_196).trans rnx_ite
theorem k_X11_push_197 : lk 197 C_X11_push = some (.iinc 6 1, (0, 0, 0, 0)) := by decide +kernel
theorem s_X11_push_197 {ca : Nat → List Value → tM → tO} {M : tM} {a0 a1 a2 a3 a4 a5 a7 a8 a9 a10 : Option Value} {x : Int32} {S : List Value} : rn ca C_X11_push 197 [a0, a1, a2, a3, a4, a5, some (.int x), a7, a8, a9, a10] S M = rn ca C_X11_push 200 [a0, a1, a2, a3, a4, a5, some (.int (x + iI 1)), a7, a8, a9, a10] S M := (rn_at k_X11_push_197).trans rfl
theorem k_X11_push_200 : lk 200 C_X11_push = some (.goto (-170), (30, 0, 0, 0)) := by decide +kernel
theorem s_X11_push_200 {ca : Nat → List Value → tM → tO} {M : tM} {L : tL} {S : List Value} : rn ca C_X11_push 200 L S M = rn ca C_X11_push 30 L S M := (rn_at k_X11_push_200).trans rfl
theorem k_X11_push_203 : lk 203 C_X11_push = some (.iinc 5 1, (0, 0, 0, 0)) := by decide +kernel
theorem s_X11_push_203 {ca : Nat → List Value → tM → tO} {M : tM} {a0 a1 a2 a3 a4 a6 a7 a8 a9 a10 : Option Value} {x : Int32} {S : List Value} : rn ca C_X11_push 203 [a0, a1, a2, a3, a4, some (.int x), a6, a7, a8, a9, a10] S M = rn ca C_X11_push 206 [a0, a1, a2, a3, a4, some (.int (x + iI 1)), a6, a7, a8, a9, a10] S M := (rn_at k_X11_push_203).trans rfl
theorem k_X11_push_206 : lk 206 C_X11_push = some (.goto (-191), (15, 0, 0, 0)) := by decide +kernel
theorem s_X11_push_206 {ca : Nat → List Value → tM → tO} {M : tM} {L : tL} {S : List Value} : rn ca C_X11_push 206 L S M = rn ca C_X11_push 15 L S M := (rn_at k_X11_push_206).trans rfl
theorem k_X11_push_209 : lk 209 C_X11_push = some (.iconst 0, (0, 0, 0, 0)) := by decide +kernel
theorem s_X11_push_209 {ca : Nat → List Value → tM → tO} {M : tM} {L : tL} {S : List Value} : rn ca C_X11_push 209 L S M = rn ca C_X11_push 210 L (.int (iI 0) :: S) M := (rn_at k_X11_push_209).trans rfl
theorem k_X11_push_210 : lk 210 C_X11_push = some (.ireturn, (1, 0, 0, 0)) := by decide +kernel
theorem s_X11_push_210 {ca : Nat → List Value → tM → tO} {M : tM} {L : tL} {x : Int32} : rn ca C_X11_push 210 L [.int x] M = if x = iI 0 ∨ x = iI 1 then some (some (.int x), M) else none := (rn_at k_X11_push_210).trans rnx_ite
theorem k_X11_pushes_0 : lk 0 C_X11_pushes = some (.iconst 0, (0, 0, 0, 0)) := by decide +kernel
theorem s_X11_pushes_0 {ca : Nat → List Value → tM → tO} {M : tM} {L : tL} {S : List Value} : rn ca C_X11_pushes 0 L S M = rn ca C_X11_pushes 1 L (.int (iI 0) :: S) M := (rn_at k_X11_pushes_0).trans rfl
theorem k_X11_pushes_1 : lk 1 C_X11_pushes = some (.istore_n 3, (0, 0, 0, 0)) := by decide +kernel
theorem s_X11_pushes_1 {ca : Nat → List Value → tM → tO} {M : tM} {a0 a1 a2 a3 : Option Value} {x : Int32} {S : List Value} : rn ca C_X11_pushes 1 [a0, a1, a2, a3] (.int x :: S) M = rn ca C_X11_pushes 2 [a0, a1, a2, some (.int x)] S M := (rn_at k_X11_pushes_1).trans rfl
theorem k_X11_pushes_2 : lk 2 C_X11_pushes = some (.iload_n 3, (0, 0, 0, 0)) := by decide +kernel
theorem s_X11_pushes_2 {ca : Nat → List Value → tM → tO} {M : tM} {a0 a1 a2 : Option Value} {x : Int32} {S : List Value} : rn ca C_X11_pushes 2 [a0, a1, a2, some (.int x)] S M = rn ca C_X11_pushes 3 [a0, a1, a2, some (.int x)] (.int x :: S) M := (rn_at k_X11_pushes_2).trans rfl
theorem k_X11_pushes_3 : lk 3 C_X11_pushes = some (.bipush 8, (0, 0, 0, 0)) := by decide +kernel
theorem s_X11_pushes_3 {ca : Nat → List Value → tM → tO} {M : tM} {L : tL} {S : List Value} : rn ca C_X11_pushes 3 L S M = rn ca C_X11_pushes 5 L (.int (iI 8) :: S) M := (rn_at k_X11_pushes_3).trans rfl
theorem k_X11_pushes_5 : lk 5 C_X11_pushes = some (.if_icmp .ge 16, (21, 0, 0, 0)) := by decide +kernel
theorem s_X11_pushes_5 {ca : Nat → List Value → tM → tO} {M : tM} {L : tL} {x y : Int32} {S : List Value} : rn ca C_X11_pushes 5 L (.int y :: .int x :: S) M = if y ≤ x then rn ca C_X11_pushes 21 L S M else rn ca C_X11_pushes 8 L S M := (rn_at k_X11_pushes_5).trans rnx_ite
theorem k_X11_pushes_8 : lk 8 C_X11_pushes = some (.aload_n 0, (0, 0, 0, 0)) := by decide +kernel
theorem s_X11_pushes_8 {ca : Nat → List Value → tM → tO} {M : tM} {a1 a2 a3 : Option Value} {x : Nat} {S : List Value} : rn ca C_X11_pushes 8 [some (.ref x), a1, a2, a3] S M = rn ca C_X11_pushes 9 [some (.ref x), a1, a2, a3] (.ref x :: S) M := (rn_at k_X11_pushes_8).trans rfl
theorem k_X11_pushes_9 : lk 9 C_X11_pushes = some (.getfield 76, (11, 18, 0, 162)) := by decide +kernel
theorem s_X11_pushes_9 {ca : Nat → List Value → tM → tO} {M : tM} {L : tL} {b : Nat} {S : List Value} : rn ca C_X11_pushes 9 L (.ref b :: S) M = if clsO b = some 11 then rn ca C_X11_pushes 12 L (fv M b 18 :: S) M else none := (rn_at k_X11_pushes_9).trans rnx_ite
theorem k_X11_pushes_12 : lk 12 C_X11_pushes = some (.iload_n 3, (0, 0, 0, 0)) := by decide +kernel
theorem s_X11_pushes_12 {ca : Nat → List Value → tM → tO} {M : tM} {a0 a1 a2 : Option Value} {x : Int32} {S : List Value} : rn ca C_X11_pushes 12 [a0, a1, a2, some (.int x)] S M = rn ca C_X11_pushes 13 [a0, a1, a2, some (.int x)] (.int x :: S) M := (rn_at k_X11_pushes_12).trans rfl
theorem k_X11_pushes_13 : lk 13 C_X11_pushes = some (.iconst 0, (0, 0, 0, 0)) := by decide +kernel
theorem s_X11_pushes_13 {ca : Nat → List Value → tM → tO} {M : tM} {L : tL} {S : List Value} : rn ca C_X11_pushes 13 L S M = rn ca C_X11_pushes 14 L (.int (iI 0) :: S) M := (rn_at k_X11_pushes_13).trans rfl
theorem k_X11_pushes_14 : lk 14 C_X11_pushes = some (.bastore, (0, 0, 0, 0)) := by decide +kernel
theorem s_X11_pushes_14 {ca : Nat → List Value → tM → tO} {M : tM} {L : tL} {a : Nat} {i x : Int32} {S : List Value} : rn ca C_X11_pushes 14 L (.int x :: .int i :: .ref a :: S) M = if akind a = 1 ∧ inb i (alen M a) then (if x = iI 0 ∨ x = iI 1 then rn ca C_X11_pushes 15 L S (sI M a i.toInt.toNat x) else none) else none := by rw [rn_at k_X11_pushes_14]; simp only [ta, rnx_ite]; rfl
theorem k_X11_pushes_15 : lk 15 C_X11_pushes = some (.iinc 3 1, (0, 0, 0, 0)) := by decide +kernel
theorem s_X11_pushes_15 {ca : Nat → List Value → tM → tO} {M : tM} {a0 a1 a2 : Option Value} {x : Int32} {S : List Value} : rn ca C_X11_pushes 15 [a0, a1, a2, some (.int x)] S M = rn ca C_X11_pushes 18 [a0, a1, a2, some (.int (x + iI 1))] S M := (rn_at k_X11_pushes_15).trans rfl
theorem k_X11_pushes_18 : lk 18 C_X11_pushes = some (.goto (-16), (2, 0, 0, 0)) := by decide +kernel
theorem s_X11_pushes_18 {ca : Nat → List Value → tM → tO} {M : tM} {L : tL} {S : List Value} : rn ca C_X11_pushes 18 L S M = rn ca C_X11_pushes 2 L S M := (rn_at k_X11_pushes_18).trans rfl
theorem k_X11_pushes_21 : lk 21 C_X11_pushes = some (.aload_n 0, (0, 0, 0, 0)) := by decide +kernel
theorem s_X11_pushes_21 {ca : Nat → List Value → tM → tO} {M : tM} {a1 a2 a3 : Option Value} {x : Nat} {S : List Value} : rn ca C_X11_pushes 21 [some (.ref x), a1, a2, a3] S M = rn ca C_X11_pushes 22 [some (.ref x), a1, a2, a3] (.ref x :: S) M := (rn_at k_X11_pushes_21).trans rfl
theorem k_X11_pushes_22 : lk 22 C_X11_pushes = some (.iload_n 1, (0, 0, 0, 0)) := by decide +kernel
theorem s_X11_pushes_22 {ca : Nat → List Value → tM → tO} {M : tM} {a0 a2 a3 : Option Value} {x : Int32} {S : List Value} : rn ca C_X11_pushes 22 [a0, some (.int x), a2, a3] S M = rn ca C_X11_pushes 23 [a0, some (.int x), a2, a3] (.int x :: S) M := (rn_at k_X11_pushes_22).trans rfl
theorem k_X11_pushes_23 : lk 23 C_X11_pushes = some (.aload_n 0, (0, 0, 0, 0)) := by decide +kernel
theorem s_X11_pushes_23 {ca : Nat → List Value → tM → tO} {M : tM} {a1 a2 a3 : Option Value} {x : Nat} {S : List Value} : rn ca C_X11_pushes 23 [some (.ref x), a1, a2, a3] S M = rn ca C_X11_pushes 24 [some (.ref x), a1, a2, a3] (.ref x :: S) M := (rn_at k_X11_pushes_23).trans rfl
theorem k_X11_pushes_24 : lk 24 C_X11_pushes = some (.iload_n 1, (0, 0, 0, 0)) := by decide +kernel
theorem s_X11_pushes_24 {ca : Nat → List Value → tM → tO} {M : tM} {a0 a2 a3 : Option Value} {x : Int32} {S : List Value} : rn ca C_X11_pushes 24 [a0, some (.int x), a2, a3] S M = rn ca C_X11_pushes 25 [a0, some (.int x), a2, a3] (.int x :: S) M := (rn_at k_X11_pushes_24).trans rfl
theorem k_X11_pushes_25 : lk 25 C_X11_pushes = some (.invokevirtual 137, (158, 1, 11, 331)) := by decide +kernel
theorem s_X11_pushes_25 {ca : Nat → List Value → tM → tO} {M : tM} {L : tL} {v1 : Value} {r0 : Int32} {r1 : Nat} {b : Nat} : rn ca C_X11_pushes 25 L [v1, .ref b, .int r0, .ref r1] M = if clsO b = some 11 then rnk ca C_X11_pushes 28 L [.int r0, .ref r1] (ca m_X11_at [.ref b, v1] M) else none := (rn_at k_X11_pushes_25).trans rnx_ite
theorem k_X11_pushes_28 : lk 28 C_X11_pushes = some (.iload_n 2, (0, 0, 0, 0)) := by decide +kernel
theorem s_X11_pushes_28 {ca : Nat → List Value → tM → tO} {M : tM} {a0 a1 a3 : Option Value} {x : Int32} {S : List Value} : rn ca C_X11_pushes 28 [a0, a1, some (.int x), a3] S M = rn ca C_X11_pushes 29 [a0, a1, some (.int x), a3] (.int x :: S) M := (rn_at k_X11_pushes_28).trans rfl
theorem k_X11_pushes_29 : lk 29 C_X11_pushes = some (.aload_n 0, (0, 0, 0, 0)) := by decide +kernel
theorem s_X11_pushes_29 {ca : Nat → List Value → tM → tO} {M : tM} {a1 a2 a3 : Option Value} {x : Nat} {S : List Value} : rn ca C_X11_pushes 29 [some (.ref x), a1, a2, a3] S M = rn ca C_X11_pushes 30 [some (.ref x), a1, a2, a3] (.ref x :: S) M := (rn_at k_X11_pushes_29).trans rfl
theorem k_X11_pushes_30 : lk 30 C_X11_pushes = some (.getfield 76, (11, 18, 0, 162)) := by decide +kernel
theorem s_X11_pushes_30 {ca : Nat → List Value → tM → tO} {M : tM} {L : tL} {b : Nat} {S : List Value} : rn ca C_X11_pushes 30 L (.ref b :: S) M = if clsO b = some 11 then rn ca C_X11_pushes 33 L (fv M b 18 :: S) M else none := (rn_at k_X11_pushes_30).trans rnx_ite
theorem k_X11_pushes_33 : lk 33 C_X11_pushes = some (.invokevirtual 260, (205, 4, 11, 932)) := by decide +kernel
theorem s_X11_pushes_33 {ca : Nat → List Value → tM → tO} {M : tM} {L : tL} {v1 v2 v3 v4 : Value} {b : Nat} : rn ca C_X11_pushes 33 L [v4, v3, v2, v1, .ref b] M = if clsO b = some 11 then rnk ca C_X11_pushes 36 L [] (ca m_X11_push [.ref b, v1, v2, v3, v4] M) else none := (rn_at k_X11_pushes_33).trans rnx_ite
theorem k_X11_pushes_36 : lk 36 C_X11_pushes = some (.ireturn, (1, 0, 0, 0)) := by decide +kernel
theorem s_X11_pushes_36 {ca : Nat → List Value → tM → tO} {M : tM} {L : tL} {x : Int32} : rn ca C_X11_pushes 36 L [.int x] M = if x = iI 0 ∨ x = iI 1 then some (some (.int x), M) else none := (rn_at k_X11_pushes_36).trans rnx_ite
theorem k_X11_keep_0 : lk 0 C_X11_keep = some (.aload_n 0, (0, 0, 0, 0)) := by decide +kernel
theorem s_X11_keep_0 {ca : Nat → List Value → tM → tO} {M : tM} {a1 a2 a3 a4 a5 : Option Value} {x : Nat} {S : List Value} : rn ca C_X11_keep 0 [some (.ref x), a1, a2, a3, a4, a5] S M = rn ca C_X11_keep 1 [some (.ref x), a1, a2, a3, a4, a5] (.ref x :: S) M := (rn_at k_X11_keep_0).trans rfl
theorem k_X11_keep_1 : lk 1 C_X11_keep = some (.iload_n 1, (0, 0, 0, 0)) := by decide +kernel
theorem s_X11_keep_1 {ca : Nat → List Value → tM → tO} {M : tM} {a0 a2 a3 a4 a5 : Option Value} {x : Int32} {S : List Value} : rn ca C_X11_keep 1 [a0, some (.int x), a2, a3, a4, a5] S M = rn ca C_X11_keep 2 [a0, some (.int x), a2, a3, a4, a5] (.int x :: S) M := (rn_at k_X11_keep_1).trans rfl
theorem k_X11_keep_2 : lk 2 C_X11_keep = some (.iconst 0, (0, 0, 0, 0)) := by decide +kernel
theorem s_X11_keep_2 {ca : Nat → List Value → tM → tO} {M : tM} {L : tL} {S : List Value} : rn ca C_X11_keep 2 L S M = rn ca C_X11_keep 3 L (.int (iI 0) :: S) M := (rn_at k_X11_keep_2).trans rfl
theorem k_X11_keep_3 : lk 3 C_X11_keep = some (.invokevirtual 238, (195, 2, 11, 753)) := by decide +kernel
theorem s_X11_keep_3 {ca : Nat → List Value → tM → tO} {M : tM} {L : tL} {v1 v2 : Value} {b : Nat} : rn ca C_X11_keep 3 L [v2, v1, .ref b] M = if clsO b = some 11 then rnk ca C_X11_keep 6 L [] (ca m_X11_fill [.ref b, v1, v2] M) else none := (rn_at k_X11_keep_3).trans rnx_ite
theorem k_X11_keep_6 : lk 6 C_X11_keep = some (.aload_n 0, (0, 0, 0, 0)) := by decide +kernel
theorem s_X11_keep_6 {ca : Nat → List Value → tM → tO} {M : tM} {a1 a2 a3 a4 a5 : Option Value} {x : Nat} {S : List Value} : rn ca C_X11_keep 6 [some (.ref x), a1, a2, a3, a4, a5] S M = rn ca C_X11_keep 7 [some (.ref x), a1, a2, a3, a4, a5] (.ref x :: S) M := (rn_at k_X11_keep_6).trans rfl
theorem k_X11_keep_7 : lk 7 C_X11_keep = some (.iload_n 1, (0, 0, 0, 0)) := by decide +kernel
theorem s_X11_keep_7 {ca : Nat → List Value → tM → tO} {M : tM} {a0 a2 a3 a4 a5 : Option Value} {x : Int32} {S : List Value} : rn ca C_X11_keep 7 [a0, some (.int x), a2, a3, a4, a5] S M = rn ca C_X11_keep 8 [a0, some (.int x), a2, a3, a4, a5] (.int x :: S) M := (rn_at k_X11_keep_7).trans rfl
theorem k_X11_keep_8 : lk 8 C_X11_keep = some (.iload_n 2, (0, 0, 0, 0)) := by decide +kernel
theorem s_X11_keep_8 {ca : Nat → List Value → tM → tO} {M : tM} {a0 a1 a3 a4 a5 : Option Value} {x : Int32} {S : List Value} : rn ca C_X11_keep 8 [a0, a1, some (.int x), a3, a4, a5] S M = rn ca C_X11_keep 9 [a0, a1, some (.int x), a3, a4, a5] (.int x :: S) M := (rn_at k_X11_keep_8).trans rfl
theorem k_X11_keep_9 : lk 9 C_X11_keep = some (.invokevirtual 230, (196, 2, 11, 790)) := by decide +kernel
theorem s_X11_keep_9 {ca : Nat → List Value → tM → tO} {M : tM} {L : tL} {v1 v2 : Value} {b : Nat} : rn ca C_X11_keep 9 L [v2, v1, .ref b] M = if clsO b = some 11 then rnk ca C_X11_keep 12 L [] (ca m_X11_way [.ref b, v1, v2] M) else none := (rn_at k_X11_keep_9).trans rnx_ite
theorem k_X11_keep_12 : lk 12 C_X11_keep = some (.sipush 9999, (0, 0, 0, 0)) := by decide +kernel
theorem s_X11_keep_12 {ca : Nat → List Value → tM → tO} {M : tM} {L : tL} {S : List Value} : rn ca C_X11_keep 12 L S M = rn ca C_X11_keep 15 L (.int (iI 9999) :: S) M := (rn_at k_X11_keep_12).trans rfl
theorem k_X11_keep_15 : lk 15 C_X11_keep = some (.if_icmp .lt 5, (20, 0, 0, 0)) := by decide +kernel
theorem s_X11_keep_15 {ca : Nat → List Value → tM → tO} {M : tM} {L : tL} {x y : Int32} {S : List Value} : rn ca C_X11_keep 15 L (.int y :: .int x :: S) M = if x < y then rn ca C_X11_keep 20 L S M else rn ca C_X11_keep 18 L S M := (rn_at k_X11_keep_15).trans rnx_ite
theorem k_X11_keep_18 : lk 18 C_X11_keep = some (.iconst 0, (0, 0, 0, 0)) := by decide +kernel
theorem s_X11_keep_18 {ca : Nat → List Value → tM → tO} {M : tM} {L : tL} {S : List Value} : rn ca C_X11_keep 18 L S M = rn ca C_X11_keep 19 L (.int (iI 0) :: S) M := (rn_at k_X11_keep_18).trans rfl
theorem k_X11_keep_19 : lk 19 C_X11_keep = some (.ireturn, (0, 0, 0, 0)) := by decide +kernel
theorem s_X11_keep_19 {ca : Nat → List Value → tM → tO} {M : tM} {L : tL} {x : Int32} : rn ca C_X11_keep 19 L [.int x] M = some (some (.int x), M) := (rn_at k_X11_keep_19).trans rfl
theorem k_X11_keep_20 : lk 20 C_X11_keep = some (.iconst 0, (0, 0, 0, 0)) := by decide +kernel
theorem s_X11_keep_20 {ca : Nat → List Value → tM → tO} {M : tM} {L : tL} {S : List Value} : rn ca C_X11_keep 20 L S M = rn ca C_X11_keep 21 L (.int (iI 0) :: S) M := (rn_at k_X11_keep_20).trans rfl
theorem k_X11_keep_21 : lk 21 C_X11_keep = some (.istore_n 3, (0, 0, 0, 0)) := by decide +kernel
theorem s_X11_keep_21 {ca : Nat → List Value → tM → tO} {M : tM} {a0 a1 a2 a3 a4 a5 : Option Value} {x : Int32} {S : List Value} : rn ca C_X11_keep 21 [a0, a1, a2, a3, a4, a5] (.int x :: S) M = rn ca C_X11_keep 22 [a0, a1, a2, some (.int x), a4, a5] S M := (rn_at k_X11_keep_21).trans rfl
theorem k_X11_keep_22 : lk 22 C_X11_keep = some (.iconst 0, (0, 0, 0, 0)) := by decide +kernel
theorem s_X11_keep_22 {ca : Nat → List Value → tM → tO} {M : tM} {L : tL} {S : List Value} : rn ca C_X11_keep 22 L S M = rn ca C_X11_keep 23 L (.int (iI 0) :: S) M := (rn_at k_X11_keep_22).trans rfl
theorem k_X11_keep_23 : lk 23 C_X11_keep = some (.istore 4, (0, 0, 0, 0)) := by decide +kernel
theorem s_X11_keep_23 {ca : Nat → List Value → tM → tO} {M : tM} {a0 a1 a2 a3 a4 a5 : Option Value} {x : Int32} {S : List Value} : rn ca C_X11_keep 23 [a0, a1, a2, a3, a4, a5] (.int x :: S) M = rn ca C_X11_keep 25 [a0, a1, a2, a3, some (.int x), a5] S M := (rn_at k_X11_keep_23).trans rfl
theorem k_X11_keep_25 : lk 25 C_X11_keep = some (.iload 4, (0, 0, 0, 0)) := by decide +kernel
theorem s_X11_keep_25 {ca : Nat → List Value → tM → tO} {M : tM} {a0 a1 a2 a3 a5 : Option Value} {x : Int32} {S : List Value} : rn ca C_X11_keep 25 [a0, a1, a2, a3, some (.int x), a5] S M = rn ca C_X11_keep 27 [a0, a1, a2, a3, some (.int x), a5] (.int x :: S) M := (rn_at k_X11_keep_25).trans rfl
theorem k_X11_keep_27 : lk 27 C_X11_keep = some (.aload_n 0, (0, 0, 0, 0)) := by decide +kernel
theorem s_X11_keep_27 {ca : Nat → List Value → tM → tO} {M : tM} {a1 a2 a3 a4 a5 : Option Value} {x : Nat} {S : List Value} : rn ca C_X11_keep 27 [some (.ref x), a1, a2, a3, a4, a5] S M = rn ca C_X11_keep 28 [some (.ref x), a1, a2, a3, a4, a5] (.ref x :: S) M := (rn_at k_X11_keep_27).trans rfl
theorem k_X11_keep_28 : lk 28 C_X11_keep = some (.getfield 17, (11, 1, 0, 147)) := by decide +kernel
theorem s_X11_keep_28 {ca : Nat → List Value → tM → tO} {M : tM} {L : tL} {b : Nat} {S : List Value} : rn ca C_X11_keep 28 L (.ref b :: S) M = if clsO b = some 11 then rn ca C_X11_keep 31 L (fv M b 1 :: S) M else none := (rn_at k_X11_keep_28).trans rnx_ite
theorem k_X11_keep_31 : lk 31 C_X11_keep = some (.bipush 109, (0, 0, 0, 0)) := by decide +kernel
theorem s_X11_keep_31 {ca : Nat → List Value → tM → tO} {M : tM} {L : tL} {S : List Value} : rn ca C_X11_keep 31 L S M = rn ca C_X11_keep 33 L (.int (iI 109) :: S) M := (rn_at k_X11_keep_31).trans rfl
theorem k_X11_keep_33 : lk 33 C_X11_keep = some (.iaload, (0, 0, 0, 0)) := by decide +kernel
theorem s_X11_keep_33 {ca : Nat → List Value → tM → tO} {M : tM} {L : tL} {a : Nat} {i : Int32} {S : List Value} : rn ca C_X11_keep 33 L (.int i :: .ref a :: S) M = if (akind a = 0 ∨ akind a = 6 ∨ akind a = 7) ∧ inb i (alen M a) then rn ca C_X11_keep 34 L (.int (M.1 a i.toInt.toNat) :: S) M else none := (rn_at k_X11_keep_33).trans rnx_ite
theorem k_X11_keep_34 : lk 34 C_X11_keep = some (.if_icmp .ge 76, (110, 0, 0, 0)) := by decide +kernel
theorem s_X11_keep_34 {ca : Nat → List Value → tM → tO} {M : tM} {L : tL} {x y : Int32} {S : List Value} : rn ca C_X11_keep 34 L (.int y :: .int x :: S) M = if y ≤ x then rn ca C_X11_keep 110 L S M else rn ca C_X11_keep 37 L S M := (rn_at k_X11_keep_34).trans rnx_ite
theorem k_X11_keep_37 : lk 37 C_X11_keep = some (.aload_n 0, (0, 0, 0, 0)) := by decide +kernel
theorem s_X11_keep_37 {ca : Nat → List Value → tM → tO} {M : tM} {a1 a2 a3 a4 a5 : Option Value} {x : Nat} {S : List Value} : rn ca C_X11_keep 37 [some (.ref x), a1, a2, a3, a4, a5] S M = rn ca C_X11_keep 38 [some (.ref x), a1, a2, a3, a4, a5] (.ref x :: S) M := (rn_at k_X11_keep_37).trans rfl
theorem k_X11_keep_38 : lk 38 C_X11_keep = some (.getfield 17, (11, 1, 0, 147)) := by decide +kernel
theorem s_X11_keep_38 {ca : Nat → List Value → tM → tO} {M : tM} {L : tL} {b : Nat} {S : List Value} : rn ca C_X11_keep 38 L (.ref b :: S) M = if clsO b = some 11 then rn ca C_X11_keep 41 L (fv M b 1 :: S) M else none := (rn_at k_X11_keep_38).trans rnx_ite
theorem k_X11_keep_41 : lk 41 C_X11_keep = some (.iconst 5, (0, 0, 0, 0)) := by decide +kernel
theorem s_X11_keep_41 {ca : Nat → List Value → tM → tO} {M : tM} {L : tL} {S : List Value} : rn ca C_X11_keep 41 L S M = rn ca C_X11_keep 42 L (.int (iI 5) :: S) M := (rn_at k_X11_keep_41).trans rfl
theorem k_X11_keep_42 : lk 42 C_X11_keep = some (.iload 4, (0, 0, 0, 0)) := by decide +kernel
theorem s_X11_keep_42 {ca : Nat → List Value → tM → tO} {M : tM} {a0 a1 a2 a3 a5 : Option Value} {x : Int32} {S : List Value} : rn ca C_X11_keep 42 [a0, a1, a2, a3, some (.int x), a5] S M = rn ca C_X11_keep 44 [a0, a1, a2, a3, some (.int x), a5] (.int x :: S) M := (rn_at k_X11_keep_42).trans rfl
theorem k_X11_keep_44 : lk 44 C_X11_keep = some (.imul, (0, 0, 0, 0)) := by decide +kernel
theorem s_X11_keep_44 {ca : Nat → List Value → tM → tO} {M : tM} {L : tL} {x y : Int32} {S : List Value} : rn ca C_X11_keep 44 L (.int y :: .int x :: S) M = rn ca C_X11_keep 45 L (.int (x * y) :: S) M := (rn_at k_X11_keep_44).trans rfl
theorem k_X11_keep_45 : lk 45 C_X11_keep = some (.iconst 4, (0, 0, 0, 0)) := by decide +kernel
theorem s_X11_keep_45 {ca : Nat → List Value → tM → tO} {M : tM} {L : tL} {S : List Value} : rn ca C_X11_keep 45 L S M = rn ca C_X11_keep 46 L (.int (iI 4) :: S) M := (rn_at k_X11_keep_45).trans rfl
theorem k_X11_keep_46 : lk 46 C_X11_keep = some (.iadd, (0, 0, 0, 0)) := by decide +kernel
theorem s_X11_keep_46 {ca : Nat → List Value → tM → tO} {M : tM} {L : tL} {x y : Int32} {S : List Value} : rn ca C_X11_keep 46 L (.int y :: .int x :: S) M = rn ca C_X11_keep 47 L (.int (x + y) :: S) M := (rn_at k_X11_keep_46).trans rfl
theorem k_X11_keep_47 : lk 47 C_X11_keep = some (.iaload, (0, 0, 0, 0)) := by decide +kernel
theorem s_X11_keep_47 {ca : Nat → List Value → tM → tO} {M : tM} {L : tL} {a : Nat} {i : Int32} {S : List Value} : rn ca C_X11_keep 47 L (.int i :: .ref a :: S) M = if (akind a = 0 ∨ akind a = 6 ∨ akind a = 7) ∧ inb i (alen M a) then rn ca C_X11_keep 48 L (.int (M.1 a i.toInt.toNat) :: S) M else none := (rn_at k_X11_keep_47).trans rnx_ite
theorem k_X11_keep_48 : lk 48 C_X11_keep = some (.istore 5, (0, 0, 0, 0)) := by decide +kernel
theorem s_X11_keep_48 {ca : Nat → List Value → tM → tO} {M : tM} {a0 a1 a2 a3 a4 a5 : Option Value} {x : Int32} {S : List Value} : rn ca C_X11_keep 48 [a0, a1, a2, a3, a4, a5] (.int x :: S) M = rn ca C_X11_keep 50 [a0, a1, a2, a3, a4, some (.int x)] S M := (rn_at k_X11_keep_48).trans rfl
theorem k_X11_keep_50 : lk 50 C_X11_keep = some (.aload_n 0, (0, 0, 0, 0)) := by decide +kernel
theorem s_X11_keep_50 {ca : Nat → List Value → tM → tO} {M : tM} {a1 a2 a3 a4 a5 : Option Value} {x : Nat} {S : List Value} : rn ca C_X11_keep 50 [some (.ref x), a1, a2, a3, a4, a5] S M = rn ca C_X11_keep 51 [some (.ref x), a1, a2, a3, a4, a5] (.ref x :: S) M := (rn_at k_X11_keep_50).trans rfl
theorem k_X11_keep_51 : lk 51 C_X11_keep = some (.getfield 17, (11, 1, 0, 147)) := by decide +kernel
theorem s_X11_keep_51 {ca : Nat → List Value → tM → tO} {M : tM} {L : tL} {b : Nat} {S : List Value} : rn ca C_X11_keep 51 L (.ref b :: S) M = if clsO b = some 11 then rn ca C_X11_keep 54 L (fv M b 1 :: S) M else none := (rn_at k_X11_keep_51).trans rnx_ite
theorem k_X11_keep_54 : lk 54 C_X11_keep = some (.iconst 5, (0, 0, 0, 0)) := by decide +kernel
theorem s_X11_keep_54 {ca : Nat → List Value → tM → tO} {M : tM} {L : tL} {S : List Value} : rn ca C_X11_keep 54 L S M = rn ca C_X11_keep 55 L (.int (iI 5) :: S) M := (rn_at k_X11_keep_54).trans rfl
theorem k_X11_keep_55 : lk 55 C_X11_keep = some (.iload 4, (0, 0, 0, 0)) := by decide +kernel
theorem s_X11_keep_55 {ca : Nat → List Value → tM → tO} {M : tM} {a0 a1 a2 a3 a5 : Option Value} {x : Int32} {S : List Value} : rn ca C_X11_keep 55 [a0, a1, a2, a3, some (.int x), a5] S M = rn ca C_X11_keep 57 [a0, a1, a2, a3, some (.int x), a5] (.int x :: S) M := (rn_at k_X11_keep_55).trans rfl
theorem k_X11_keep_57 : lk 57 C_X11_keep = some (.imul, (0, 0, 0, 0)) := by decide +kernel
theorem s_X11_keep_57 {ca : Nat → List Value → tM → tO} {M : tM} {L : tL} {x y : Int32} {S : List Value} : rn ca C_X11_keep 57 L (.int y :: .int x :: S) M = rn ca C_X11_keep 58 L (.int (x * y) :: S) M := (rn_at k_X11_keep_57).trans rfl
theorem k_X11_keep_58 : lk 58 C_X11_keep = some (.iconst 4, (0, 0, 0, 0)) := by decide +kernel
theorem s_X11_keep_58 {ca : Nat → List Value → tM → tO} {M : tM} {L : tL} {S : List Value} : rn ca C_X11_keep 58 L S M = rn ca C_X11_keep 59 L (.int (iI 4) :: S) M := (rn_at k_X11_keep_58).trans rfl
theorem k_X11_keep_59 : lk 59 C_X11_keep = some (.iadd, (0, 0, 0, 0)) := by decide +kernel
theorem s_X11_keep_59 {ca : Nat → List Value → tM → tO} {M : tM} {L : tL} {x y : Int32} {S : List Value} : rn ca C_X11_keep 59 L (.int y :: .int x :: S) M = rn ca C_X11_keep 60 L (.int (x + y) :: S) M := (rn_at k_X11_keep_59).trans rfl
theorem k_X11_keep_60 : lk 60 C_X11_keep = some (.iconst 1, (0, 0, 0, 0)) := by decide +kernel
theorem s_X11_keep_60 {ca : Nat → List Value → tM → tO} {M : tM} {L : tL} {S : List Value} : rn ca C_X11_keep 60 L S M = rn ca C_X11_keep 61 L (.int (iI 1) :: S) M := (rn_at k_X11_keep_60).trans rfl
theorem k_X11_keep_61 : lk 61 C_X11_keep = some (.iastore, (0, 0, 0, 0)) := by decide +kernel
theorem s_X11_keep_61 {ca : Nat → List Value → tM → tO} {M : tM} {L : tL} {a : Nat} {i x : Int32} {S : List Value} : rn ca C_X11_keep 61 L (.int x :: .int i :: .ref a :: S) M = if akind a = 0 ∧ inb i (alen M a) then rn ca C_X11_keep 62 L S (sI M a i.toInt.toNat x) else none := (rn_at k_X11_keep_61).trans rnx_ite
theorem k_X11_keep_62 : lk 62 C_X11_keep = some (.aload_n 0, (0, 0, 0, 0)) := by decide +kernel
theorem s_X11_keep_62 {ca : Nat → List Value → tM → tO} {M : tM} {a1 a2 a3 a4 a5 : Option Value} {x : Nat} {S : List Value} : rn ca C_X11_keep 62 [some (.ref x), a1, a2, a3, a4, a5] S M = rn ca C_X11_keep 63 [some (.ref x), a1, a2, a3, a4, a5] (.ref x :: S) M := (rn_at k_X11_keep_62).trans rfl
theorem k_X11_keep_63 : lk 63 C_X11_keep = some (.iload_n 1, (0, 0, 0, 0)) := by decide +kernel
theorem s_X11_keep_63 {ca : Nat → List Value → tM → tO} {M : tM} {a0 a2 a3 a4 a5 : Option Value} {x : Int32} {S : List Value} : rn ca C_X11_keep 63 [a0, some (.int x), a2, a3, a4, a5] S M = rn ca C_X11_keep 64 [a0, some (.int x), a2, a3, a4, a5] (.int x :: S) M := (rn_at k_X11_keep_63).trans rfl
theorem k_X11_keep_64 : lk 64 C_X11_keep = some (.iconst 0, (0, 0, 0, 0)) := by decide +kernel
theorem s_X11_keep_64 {ca : Nat → List Value → tM → tO} {M : tM} {L : tL} {S : List Value} : rn ca C_X11_keep 64 L S M = rn ca C_X11_keep 65 L (.int (iI 0) :: S) M := (rn_at k_X11_keep_64).trans rfl
theorem k_X11_keep_65 : lk 65 C_X11_keep = some (.invokevirtual 238, (195, 2, 11, 753)) := by decide +kernel
theorem s_X11_keep_65 {ca : Nat → List Value → tM → tO} {M : tM} {L : tL} {v1 v2 : Value} {b : Nat} : rn ca C_X11_keep 65 L [v2, v1, .ref b] M = if clsO b = some 11 then rnk ca C_X11_keep 68 L [] (ca m_X11_fill [.ref b, v1, v2] M) else none := (rn_at k_X11_keep_65).trans rnx_ite
theorem k_X11_keep_68 : lk 68 C_X11_keep = some (.iload_n 3, (0, 0, 0, 0)) := by decide +kernel
theorem s_X11_keep_68 {ca : Nat → List Value → tM → tO} {M : tM} {a0 a1 a2 a4 a5 : Option Value} {x : Int32} {S : List Value} : rn ca C_X11_keep 68 [a0, a1, a2, some (.int x), a4, a5] S M = rn ca C_X11_keep 69 [a0, a1, a2, some (.int x), a4, a5] (.int x :: S) M := (rn_at k_X11_keep_68).trans rfl
theorem k_X11_keep_69 : lk 69 C_X11_keep = some (.aload_n 0, (0, 0, 0, 0)) := by decide +kernel
theorem s_X11_keep_69 {ca : Nat → List Value → tM → tO} {M : tM} {a1 a2 a3 a4 a5 : Option Value} {x : Nat} {S : List Value} : rn ca C_X11_keep 69 [some (.ref x), a1, a2, a3, a4, a5] S M = rn ca C_X11_keep 70 [some (.ref x), a1, a2, a3, a4, a5] (.ref x :: S) M := (rn_at k_X11_keep_69).trans rfl
theorem k_X11_keep_70 : lk 70 C_X11_keep = some (.iload_n 1, (0, 0, 0, 0)) := by decide +kernel
theorem s_X11_keep_70 {ca : Nat → List Value → tM → tO} {M : tM} {a0 a2 a3 a4 a5 : Option Value} {x : Int32} {S : List Value} : rn ca C_X11_keep 70 [a0, some (.int x), a2, a3, a4, a5] S M = rn ca C_X11_keep 71 [a0, some (.int x), a2, a3, a4, a5] (.int x :: S) M := (rn_at k_X11_keep_70).trans rfl
theorem k_X11_keep_71 : lk 71 C_X11_keep = some (.iload_n 2, (0, 0, 0, 0)) := by decide +kernel
theorem s_X11_keep_71 {ca : Nat → List Value → tM → tO} {M : tM} {a0 a1 a3 a4 a5 : Option Value} {x : Int32} {S : List Value} : rn ca C_X11_keep 71 [a0, a1, some (.int x), a3, a4, a5] S M = rn ca C_X11_keep 72 [a0, a1, some (.int x), a3, a4, a5] (.int x :: S) M := (rn_at k_X11_keep_71).trans rfl
theorem k_X11_keep_72 : lk 72 C_X11_keep = some (.invokevirtual 230, (196, 2, 11, 790)) := by decide +kernel
theorem s_X11_keep_72 {ca : Nat → List Value → tM → tO} {M : tM} {L : tL} {v1 v2 : Value} {r0 : Int32} {b : Nat} : rn ca C_X11_keep 72 L [v2, v1, .ref b, .int r0] M = if clsO b = some 11 then rnk ca C_X11_keep 75 L [.int r0] (ca m_X11_way [.ref b, v1, v2] M) else none := (rn_at k_X11_keep_72).trans rnx_ite
theorem k_X11_keep_75 : lk 75 C_X11_keep = some (.sipush 9999, (0, 0, 0, 0)) := by decide +kernel
theorem s_X11_keep_75 {ca : Nat → List Value → tM → tO} {M : tM} {L : tL} {S : List Value} : rn ca C_X11_keep 75 L S M = rn ca C_X11_keep 78 L (.int (iI 9999) :: S) M := (rn_at k_X11_keep_75).trans rfl
theorem k_X11_keep_78 : lk 78 C_X11_keep = some (.if_icmp .lt 10, (88, 0, 0, 0)) := by decide +kernel
theorem s_X11_keep_78 {ca : Nat → List Value → tM → tO} {M : tM} {L : tL} {x y : Int32} {S : List Value} : rn ca C_X11_keep 78 L (.int y :: .int x :: S) M = if x < y then rn ca C_X11_keep 88 L S M else rn ca C_X11_keep 81 L S M := (rn_at k_X11_keep_78).trans rnx_ite
theorem k_X11_keep_81 : lk 81 C_X11_keep = some (.iconst 1, (0, 0, 0, 0)) := by decide +kernel
theorem s_X11_keep_81 {ca : Nat → List Value → tM → tO} {M : tM} {L : tL} {S : List Value} : rn ca C_X11_keep 81 L S M = rn ca C_X11_keep 82 L (.int (iI 1) :: S) M := (rn_at k_X11_keep_81).trans rfl
theorem k_X11_keep_82 : lk 82 C_X11_keep = some (.iload 4, (0, 0, 0, 0)) := by decide +kernel
theorem s_X11_keep_82 {ca : Nat → List Value → tM → tO} {M : tM} {a0 a1 a2 a3 a5 : Option Value} {x : Int32} {S : List Value} : rn ca C_X11_keep 82 [a0, a1, a2, a3, some (.int x), a5] S M = rn ca C_X11_keep 84 [a0, a1, a2, a3, some (.int x), a5] (.int x :: S) M := (rn_at k_X11_keep_82).trans rfl
theorem k_X11_keep_84 : lk 84 C_X11_keep = some (.ishl, (0, 0, 0, 0)) := by decide +kernel
theorem s_X11_keep_84 {ca : Nat → List Value → tM → tO} {M : tM} {L : tL} {x y : Int32} {S : List Value} : rn ca C_X11_keep 84 L (.int y :: .int x :: S) M = rn ca C_X11_keep 85 L (.int (x <<< (y &&& 31)) :: S) M := (rn_at k_X11_keep_84).trans rfl
theorem k_X11_keep_85 : lk 85 C_X11_keep = some (.goto 4, (89, 0, 0, 0)) := by decide +kernel
theorem s_X11_keep_85 {ca : Nat → List Value → tM → tO} {M : tM} {L : tL} {S : List Value} : rn ca C_X11_keep 85 L S M = rn ca C_X11_keep 89 L S M := (rn_at k_X11_keep_85).trans rfl
theorem k_X11_keep_88 : lk 88 C_X11_keep = some (.iconst 0, (0, 0, 0, 0)) := by decide +kernel
theorem s_X11_keep_88 {ca : Nat → List Value → tM → tO} {M : tM} {L : tL} {S : List Value} : rn ca C_X11_keep 88 L S M = rn ca C_X11_keep 89 L (.int (iI 0) :: S) M := (rn_at k_X11_keep_88).trans rfl
theorem k_X11_keep_89 : lk 89 C_X11_keep = some (.ior, (0, 0, 0, 0)) := by decide +kernel
theorem s_X11_keep_89 {ca : Nat → List Value → tM → tO} {M : tM} {L : tL} {x y : Int32} {S : List Value} : rn ca C_X11_keep 89 L (.int y :: .int x :: S) M = rn ca C_X11_keep 90 L (.int (x ||| y) :: S) M := (rn_at k_X11_keep_89).trans rfl
theorem k_X11_keep_90 : lk 90 C_X11_keep = some (.istore_n 3, (0, 0, 0, 0)) := by decide +kernel
theorem s_X11_keep_90 {ca : Nat → List Value → tM → tO} {M : tM} {a0 a1 a2 a3 a4 a5 : Option Value} {x : Int32} {S : List Value} : rn ca C_X11_keep 90 [a0, a1, a2, a3, a4, a5] (.int x :: S) M = rn ca C_X11_keep 91 [a0, a1, a2, some (.int x), a4, a5] S M := (rn_at k_X11_keep_90).trans rfl
theorem k_X11_keep_91 : lk 91 C_X11_keep = some (.aload_n 0, (0, 0, 0, 0)) := by decide +kernel
theorem s_X11_keep_91 {ca : Nat → List Value → tM → tO} {M : tM} {a1 a2 a3 a4 a5 : Option Value} {x : Nat} {S : List Value} : rn ca C_X11_keep 91 [some (.ref x), a1, a2, a3, a4, a5] S M = rn ca C_X11_keep 92 [some (.ref x), a1, a2, a3, a4, a5] (.ref x :: S) M := (rn_at k_X11_keep_91).trans rfl
theorem k_X11_keep_92 : lk 92 C_X11_keep = some (.getfield 17, (11, 1, 0, 147)) := by decide +kernel
theorem s_X11_keep_92 {ca : Nat → List Value → tM → tO} {M : tM} {L : tL} {b : Nat} {S : List Value} : rn ca C_X11_keep 92 L (.ref b :: S) M = if clsO b = some 11 then rn ca C_X11_keep 95 L (fv M b 1 :: S) M else none := (rn_at k_X11_keep_92).trans rnx_ite
theorem k_X11_keep_95 : lk 95 C_X11_keep = some (.iconst 5, (0, 0, 0, 0)) := by decide +kernel
theorem s_X11_keep_95 {ca : Nat → List Value → tM → tO} {M : tM} {L : tL} {S : List Value} : rn ca C_X11_keep 95 L S M = rn ca C_X11_keep 96 L (.int (iI 5) :: S) M := (rn_at k_X11_keep_95).trans rfl
theorem k_X11_keep_96 : lk 96 C_X11_keep = some (.iload 4, (0, 0, 0, 0)) := by decide +kernel
theorem s_X11_keep_96 {ca : Nat → List Value → tM → tO} {M : tM} {a0 a1 a2 a3 a5 : Option Value} {x : Int32} {S : List Value} : rn ca C_X11_keep 96 [a0, a1, a2, a3, some (.int x), a5] S M = rn ca C_X11_keep 98 [a0, a1, a2, a3, some (.int x), a5] (.int x :: S) M := (rn_at k_X11_keep_96).trans rfl
theorem k_X11_keep_98 : lk 98 C_X11_keep = some (.imul, (0, 0, 0, 0)) := by decide +kernel
theorem s_X11_keep_98 {ca : Nat → List Value → tM → tO} {M : tM} {L : tL} {x y : Int32} {S : List Value} : rn ca C_X11_keep 98 L (.int y :: .int x :: S) M = rn ca C_X11_keep 99 L (.int (x * y) :: S) M := (rn_at k_X11_keep_98).trans rfl
theorem k_X11_keep_99 : lk 99 C_X11_keep = some (.iconst 4, (0, 0, 0, 0)) := by decide +kernel
theorem s_X11_keep_99 {ca : Nat → List Value → tM → tO} {M : tM} {L : tL} {S : List Value} : rn ca C_X11_keep 99 L S M = rn ca C_X11_keep 100 L (.int (iI 4) :: S) M := (rn_at k_X11_keep_99).trans rfl
theorem k_X11_keep_100 : lk 100 C_X11_keep = some (.iadd, (0, 0, 0, 0)) := by decide +kernel
theorem s_X11_keep_100 {ca : Nat → List Value → tM → tO} {M : tM} {L : tL} {x y : Int32} {S : List Value} : rn ca C_X11_keep 100 L (.int y :: .int x :: S) M = rn ca C_X11_keep 101 L (.int (x + y) :: S) M := (rn_at k_X11_keep_100).trans rfl
theorem k_X11_keep_101 : lk 101 C_X11_keep = some (.iload 5, (0, 0, 0, 0)) := by decide +kernel
theorem s_X11_keep_101 {ca : Nat → List Value → tM → tO} {M : tM} {a0 a1 a2 a3 a4 : Option Value} {x : Int32} {S : List Value} : rn ca C_X11_keep 101 [a0, a1, a2, a3, a4, some (.int x)] S M = rn ca C_X11_keep 103 [a0, a1, a2, a3, a4, some (.int x)] (.int x :: S) M := (rn_at k_X11_keep_101).trans rfl
theorem k_X11_keep_103 : lk 103 C_X11_keep = some (.iastore, (0, 0, 0, 0)) := by decide +kernel
theorem s_X11_keep_103 {ca : Nat → List Value → tM → tO} {M : tM} {L : tL} {a : Nat} {i x : Int32} {S : List Value} : rn ca C_X11_keep 103 L (.int x :: .int i :: .ref a :: S) M = if akind a = 0 ∧ inb i (alen M a) then rn ca C_X11_keep 104 L S (sI M a i.toInt.toNat x) else none := (rn_at k_X11_keep_103).trans rnx_ite
theorem k_X11_keep_104 : lk 104 C_X11_keep = some (.iinc 4 1, (0, 0, 0, 0)) := by decide +kernel
theorem s_X11_keep_104 {ca : Nat → List Value → tM → tO} {M : tM} {a0 a1 a2 a3 a5 : Option Value} {x : Int32} {S : List Value} : rn ca C_X11_keep 104 [a0, a1, a2, a3, some (.int x), a5] S M = rn ca C_X11_keep 107 [a0, a1, a2, a3, some (.int (x + iI 1)), a5] S M := (rn_at k_X11_keep_104).trans rfl
theorem k_X11_keep_107 : lk 107 C_X11_keep = some (.goto (-82), (25, 0, 0, 0)) := by decide +kernel
theorem s_X11_keep_107 {ca : Nat → List Value → tM → tO} {M : tM} {L : tL} {S : List Value} : rn ca C_X11_keep 107 L S M = rn ca C_X11_keep 25 L S M := (rn_at k_X11_keep_107).trans rfl
theorem k_X11_keep_110 : lk 110 C_X11_keep = some (.iload_n 3, (0, 0, 0, 0)) := by decide +kernel
theorem s_X11_keep_110 {ca : Nat → List Value → tM → tO} {M : tM} {a0 a1 a2 a4 a5 : Option Value} {x : Int32} {S : List Value} : rn ca C_X11_keep 110 [a0, a1, a2, some (.int x), a4, a5] S M = rn ca C_X11_keep 111 [a0, a1, a2, some (.int x), a4, a5] (.int x :: S) M := (rn_at k_X11_keep_110).trans rfl
theorem k_X11_keep_111 : lk 111 C_X11_keep = some (.ireturn, (0, 0, 0, 0)) := by decide +kernel
theorem s_X11_keep_111 {ca : Nat → List Value → tM → tO} {M : tM} {L : tL} {x : Int32} : rn ca C_X11_keep 111 L [.int x] M = some (some (.int x), M) := (rn_at k_X11_keep_111).trans rfl
theorem k_X11_cut_0 : lk 0 C_X11_cut = some (.aload_n 0, (0, 0, 0, 0)) := by decide +kernel
theorem s_X11_cut_0 {ca : Nat → List Value → tM → tO} {M : tM} {a1 a2 a3 a4 : Option Value} {x : Nat} {S : List Value} : rn ca C_X11_cut 0 [some (.ref x), a1, a2, a3, a4] S M = rn ca C_X11_cut 1 [some (.ref x), a1, a2, a3, a4] (.ref x :: S) M := (rn_at k_X11_cut_0).trans rfl
theorem k_X11_cut_1 : lk 1 C_X11_cut = some (.iload_n 1, (0, 0, 0, 0)) := by decide +kernel
theorem s_X11_cut_1 {ca : Nat → List Value → tM → tO} {M : tM} {a0 a2 a3 a4 : Option Value} {x : Int32} {S : List Value} : rn ca C_X11_cut 1 [a0, some (.int x), a2, a3, a4] S M = rn ca C_X11_cut 2 [a0, some (.int x), a2, a3, a4] (.int x :: S) M := (rn_at k_X11_cut_1).trans rfl
theorem k_X11_cut_2 : lk 2 C_X11_cut = some (.i2l, (0, 0, 0, 0)) := by decide +kernel
theorem s_X11_cut_2 {ca : Nat → List Value → tM → tO} {M : tM} {L : tL} {x : Int32} {S : List Value} : rn ca C_X11_cut 2 L (.int x :: S) M = rn ca C_X11_cut 3 L (.long x.toInt64 :: S) M := (rn_at k_X11_cut_2).trans rfl
theorem k_X11_cut_3 : lk 3 C_X11_cut = some (.invokevirtual 114, (149, 1, 11, 302)) := by decide +kernel
theorem s_X11_cut_3 {ca : Nat → List Value → tM → tO} {M : tM} {L : tL} {v1 : Value} {b : Nat} : rn ca C_X11_cut 3 L [v1, .ref b] M = if clsO b = some 11 then rnk ca C_X11_cut 6 L [] (ca m_X11_isCapsule [.ref b, v1] M) else none := (rn_at k_X11_cut_3).trans rnx_ite
theorem k_X11_cut_6 : lk 6 C_X11_cut = some (.ifCond .eq 12, (18, 0, 0, 0)) := by decide +kernel
theorem s_X11_cut_6 {ca : Nat → List Value → tM → tO} {M : tM} {L : tL} {x : Int32} {S : List Value} : rn ca C_X11_cut 6 L (.int x :: S) M = if x = iI 0 then rn ca C_X11_cut 18 L S M else rn ca C_X11_cut 9 L S M := (rn_at k_X11_cut_6).trans rnx_ite
theorem k_X11_cut_9 : lk 9 C_X11_cut = some (.aload_n 0, (0, 0, 0, 0)) := by decide +kernel
theorem s_X11_cut_9 {ca : Nat → List Value → tM → tO} {M : tM} {a1 a2 a3 a4 : Option Value} {x : Nat} {S : List Value} : rn ca C_X11_cut 9 [some (.ref x), a1, a2, a3, a4] S M = rn ca C_X11_cut 10 [some (.ref x), a1, a2, a3, a4] (.ref x :: S) M := (rn_at k_X11_cut_9).trans rfl
theorem k_X11_cut_10 : lk 10 C_X11_cut = some (.iload_n 2, (0, 0, 0, 0)) := by decide +kernel
theorem s_X11_cut_10 {ca : Nat → List Value → tM → tO} {M : tM} {a0 a1 a3 a4 : Option Value} {x : Int32} {S : List Value} : rn ca C_X11_cut 10 [a0, a1, some (.int x), a3, a4] S M = rn ca C_X11_cut 11 [a0, a1, some (.int x), a3, a4] (.int x :: S) M := (rn_at k_X11_cut_10).trans rfl
theorem k_X11_cut_11 : lk 11 C_X11_cut = some (.i2l, (0, 0, 0, 0)) := by decide +kernel
theorem s_X11_cut_11 {ca : Nat → List Value → tM → tO} {M : tM} {L : tL} {x : Int32} {S : List Value} : rn ca C_X11_cut 11 L (.int x :: S) M = rn ca C_X11_cut 12 L (.long x.toInt64 :: S) M := (rn_at k_X11_cut_11).trans rfl
theorem k_X11_cut_12 : lk 12 C_X11_cut = some (.invokevirtual 95, (147, 1, 11, 397)) := by decide +kernel
theorem s_X11_cut_12 {ca : Nat → List Value → tM → tO} {M : tM} {L : tL} {v1 : Value} {b : Nat} : rn ca C_X11_cut 12 L [v1, .ref b] M = if clsO b = some 11 then rnk ca C_X11_cut 15 L [] (ca m_X11_isDesk [.ref b, v1] M) else none := (rn_at k_X11_cut_12).trans rnx_ite
theorem k_X11_cut_15 : lk 15 C_X11_cut = some (.ifCond .ne 9, (24, 0, 0, 0)) := by decide +kernel
theorem s_X11_cut_15 {ca : Nat → List Value → tM → tO} {M : tM} {L : tL} {x : Int32} {S : List Value} : rn ca C_X11_cut 15 L (.int x :: S) M = if ¬ x = iI 0 then rn ca C_X11_cut 24 L S M else rn ca C_X11_cut 18 L S M := (rn_at k_X11_cut_15).trans rnx_ite
theorem k_X11_cut_18 : lk 18 C_X11_cut = some (.aload_n 0, (0, 0, 0, 0)) := by decide +kernel
theorem s_X11_cut_18 {ca : Nat → List Value → tM → tO} {M : tM} {a1 a2 a3 a4 : Option Value} {x : Nat} {S : List Value} : rn ca C_X11_cut 18 [some (.ref x), a1, a2, a3, a4] S M = rn ca C_X11_cut 19 [some (.ref x), a1, a2, a3, a4] (.ref x :: S) M := (rn_at k_X11_cut_18).trans rfl
theorem k_X11_cut_19 : lk 19 C_X11_cut = some (.iconst (-1), (0, 0, 0, 0)) := by decide +kernel
theorem s_X11_cut_19 {ca : Nat → List Value → tM → tO} {M : tM} {L : tL} {S : List Value} : rn ca C_X11_cut 19 L S M = rn ca C_X11_cut 20 L (.int (iI (-1)) :: S) M := (rn_at k_X11_cut_19).trans rfl
theorem k_X11_cut_20 : lk 20 C_X11_cut = some (.invokevirtual 233, (145, 1, 11, 749)) := by decide +kernel
theorem s_X11_cut_20 {ca : Nat → List Value → tM → tO} {M : tM} {L : tL} {v1 : Value} {b : Nat} : rn ca C_X11_cut 20 L [v1, .ref b] M = if clsO b = some 11 then rnk ca C_X11_cut 23 L [] (ca m_X11_refuseBy10 [.ref b, v1] M) else none := (rn_at k_X11_cut_20).trans rnx_ite
theorem k_X11_cut_23 : lk 23 C_X11_cut = some (.ireturn, (0, 0, 0, 0)) := by decide +kernel
theorem s_X11_cut_23 {ca : Nat → List Value → tM → tO} {M : tM} {L : tL} {x : Int32} : rn ca C_X11_cut 23 L [.int x] M = some (some (.int x), M) := (rn_at k_X11_cut_23).trans rfl
theorem k_X11_cut_24 : lk 24 C_X11_cut = some (.iload_n 3, (0, 0, 0, 0)) := by decide +kernel
theorem s_X11_cut_24 {ca : Nat → List Value → tM → tO} {M : tM} {a0 a1 a2 a4 : Option Value} {x : Int32} {S : List Value} : rn ca C_X11_cut 24 [a0, a1, a2, some (.int x), a4] S M = rn ca C_X11_cut 25 [a0, a1, a2, some (.int x), a4] (.int x :: S) M := (rn_at k_X11_cut_24).trans rfl
theorem k_X11_cut_25 : lk 25 C_X11_cut = some (.i2l, (0, 0, 0, 0)) := by decide +kernel
theorem s_X11_cut_25 {ca : Nat → List Value → tM → tO} {M : tM} {L : tL} {x : Int32} {S : List Value} : rn ca C_X11_cut 25 L (.int x :: S) M = rn ca C_X11_cut 26 L (.long x.toInt64 :: S) M := (rn_at k_X11_cut_25).trans rfl
theorem k_X11_cut_26 : lk 26 C_X11_cut = some (.lconst 0, (0, 0, 0, 0)) := by decide +kernel
theorem s_X11_cut_26 {ca : Nat → List Value → tM → tO} {M : tM} {L : tL} {S : List Value} : rn ca C_X11_cut 26 L S M = rn ca C_X11_cut 27 L (.long (jJ 0) :: S) M := (rn_at k_X11_cut_26).trans rfl
theorem k_X11_cut_27 : lk 27 C_X11_cut = some (.lconst 1, (0, 0, 0, 0)) := by decide +kernel
theorem s_X11_cut_27 {ca : Nat → List Value → tM → tO} {M : tM} {L : tL} {S : List Value} : rn ca C_X11_cut 27 L S M = rn ca C_X11_cut 28 L (.long (jJ 1) :: S) M := (rn_at k_X11_cut_27).trans rfl
theorem k_X11_cut_28 : lk 28 C_X11_cut = some (.invokestatic 87, (143, 3, 0, 197)) := by decide +kernel
theorem s_X11_cut_28 {ca : Nat → List Value → tM → tO} {M : tM} {L : tL} {v1 v2 v3 : Value} : rn ca C_X11_cut 28 L [v3, v2, v1] M = rnk ca C_X11_cut 31 L [] (ca m_X11_isIn [v1, v2, v3] M) := (rn_at k_X11_cut_28).trans rfl
theorem k_X11_cut_31 : lk 31 C_X11_cut = some (.ifCond .ne 10, (41, 0, 0, 0)) := by decide +kernel
theorem s_X11_cut_31 {ca : Nat → List Value → tM → tO} {M : tM} {L : tL} {x : Int32} {S : List Value} : rn ca C_X11_cut 31 L (.int x :: S) M = if ¬ x = iI 0 then rn ca C_X11_cut 41 L S M else rn ca C_X11_cut 34 L S M := (rn_at k_X11_cut_31).trans rnx_ite
theorem k_X11_cut_34 : lk 34 C_X11_cut = some (.aload_n 0, (0, 0, 0, 0)) := by decide +kernel
theorem s_X11_cut_34 {ca : Nat → List Value → tM → tO} {M : tM} {a1 a2 a3 a4 : Option Value} {x : Nat} {S : List Value} : rn ca C_X11_cut 34 [some (.ref x), a1, a2, a3, a4] S M = rn ca C_X11_cut 35 [some (.ref x), a1, a2, a3, a4] (.ref x :: S) M := (rn_at k_X11_cut_34).trans rfl
theorem k_X11_cut_35 : lk 35 C_X11_cut = some (.bipush (-5), (0, 0, 0, 0)) := by decide +kernel
theorem s_X11_cut_35 {ca : Nat → List Value → tM → tO} {M : tM} {L : tL} {S : List Value} : rn ca C_X11_cut 35 L S M = rn ca C_X11_cut 37 L (.int (iI (-5)) :: S) M := (rn_at k_X11_cut_35).trans rfl
theorem k_X11_cut_37 : lk 37 C_X11_cut = some (.invokevirtual 233, (145, 1, 11, 749)) := by decide +kernel
theorem s_X11_cut_37 {ca : Nat → List Value → tM → tO} {M : tM} {L : tL} {v1 : Value} {b : Nat} : rn ca C_X11_cut 37 L [v1, .ref b] M = if clsO b = some 11 then rnk ca C_X11_cut 40 L [] (ca m_X11_refuseBy10 [.ref b, v1] M) else none := (rn_at k_X11_cut_37).trans rnx_ite
theorem k_X11_cut_40 : lk 40 C_X11_cut = some (.ireturn, (0, 0, 0, 0)) := by decide +kernel
theorem s_X11_cut_40 {ca : Nat → List Value → tM → tO} {M : tM} {L : tL} {x : Int32} : rn ca C_X11_cut 40 L [.int x] M = some (some (.int x), M) := (rn_at k_X11_cut_40).trans rfl
theorem k_X11_cut_41 : lk 41 C_X11_cut = some (.aload_n 0, (0, 0, 0, 0)) := by decide +kernel
theorem s_X11_cut_41 {ca : Nat → List Value → tM → tO} {M : tM} {a1 a2 a3 a4 : Option Value} {x : Nat} {S : List Value} : rn ca C_X11_cut 41 [some (.ref x), a1, a2, a3, a4] S M = rn ca C_X11_cut 42 [some (.ref x), a1, a2, a3, a4] (.ref x :: S) M := (rn_at k_X11_cut_41).trans rfl
theorem k_X11_cut_42 : lk 42 C_X11_cut = some (.iload_n 1, (0, 0, 0, 0)) := by decide +kernel
theorem s_X11_cut_42 {ca : Nat → List Value → tM → tO} {M : tM} {a0 a2 a3 a4 : Option Value} {x : Int32} {S : List Value} : rn ca C_X11_cut 42 [a0, some (.int x), a2, a3, a4] S M = rn ca C_X11_cut 43 [a0, some (.int x), a2, a3, a4] (.int x :: S) M := (rn_at k_X11_cut_42).trans rfl
theorem k_X11_cut_43 : lk 43 C_X11_cut = some (.invokevirtual 137, (158, 1, 11, 331)) := by decide +kernel
theorem s_X11_cut_43 {ca : Nat → List Value → tM → tO} {M : tM} {L : tL} {v1 : Value} {b : Nat} : rn ca C_X11_cut 43 L [v1, .ref b] M = if clsO b = some 11 then rnk ca C_X11_cut 46 L [] (ca m_X11_at [.ref b, v1] M) else none := (rn_at k_X11_cut_43).trans rnx_ite
theorem k_X11_cut_46 : lk 46 C_X11_cut = some (.iload_n 2, (0, 0, 0, 0)) := by decide +kernel
theorem s_X11_cut_46 {ca : Nat → List Value → tM → tO} {M : tM} {a0 a1 a3 a4 : Option Value} {x : Int32} {S : List Value} : rn ca C_X11_cut 46 [a0, a1, some (.int x), a3, a4] S M = rn ca C_X11_cut 47 [a0, a1, some (.int x), a3, a4] (.int x :: S) M := (rn_at k_X11_cut_46).trans rfl
theorem k_X11_cut_47 : lk 47 C_X11_cut = some (.if_icmp .ne 10, (57, 0, 0, 0)) := by decide +kernel
theorem s_X11_cut_47 {ca : Nat → List Value → tM → tO} {M : tM} {L : tL} {x y : Int32} {S : List Value} : rn ca C_X11_cut 47 L (.int y :: .int x :: S) M = if ¬ x = y then rn ca C_X11_cut 57 L S M else rn ca C_X11_cut 50 L S M := (rn_at k_X11_cut_47).trans rnx_ite
theorem k_X11_cut_50 : lk 50 C_X11_cut = some (.aload_n 0, (0, 0, 0, 0)) := by decide +kernel
theorem s_X11_cut_50 {ca : Nat → List Value → tM → tO} {M : tM} {a1 a2 a3 a4 : Option Value} {x : Nat} {S : List Value} : rn ca C_X11_cut 50 [some (.ref x), a1, a2, a3, a4] S M = rn ca C_X11_cut 51 [some (.ref x), a1, a2, a3, a4] (.ref x :: S) M := (rn_at k_X11_cut_50).trans rfl
theorem k_X11_cut_51 : lk 51 C_X11_cut = some (.bipush (-6), (0, 0, 0, 0)) := by decide +kernel
theorem s_X11_cut_51 {ca : Nat → List Value → tM → tO} {M : tM} {L : tL} {S : List Value} : rn ca C_X11_cut 51 L S M = rn ca C_X11_cut 53 L (.int (iI (-6)) :: S) M := (rn_at k_X11_cut_51).trans rfl
theorem k_X11_cut_53 : lk 53 C_X11_cut = some (.invokevirtual 233, (145, 1, 11, 749)) := by decide +kernel
theorem s_X11_cut_53 {ca : Nat → List Value → tM → tO} {M : tM} {L : tL} {v1 : Value} {b : Nat} : rn ca C_X11_cut 53 L [v1, .ref b] M = if clsO b = some 11 then rnk ca C_X11_cut 56 L [] (ca m_X11_refuseBy10 [.ref b, v1] M) else none := (rn_at k_X11_cut_53).trans rnx_ite
theorem k_X11_cut_56 : lk 56 C_X11_cut = some (.ireturn, (0, 0, 0, 0)) := by decide +kernel
theorem s_X11_cut_56 {ca : Nat → List Value → tM → tO} {M : tM} {L : tL} {x : Int32} : rn ca C_X11_cut 56 L [.int x] M = some (some (.int x), M) := (rn_at k_X11_cut_56).trans rfl
theorem k_X11_cut_57 : lk 57 C_X11_cut = some (.iload_n 3, (0, 0, 0, 0)) := by decide +kernel
theorem s_X11_cut_57 {ca : Nat → List Value → tM → tO} {M : tM} {a0 a1 a2 a4 : Option Value} {x : Int32} {S : List Value} : rn ca C_X11_cut 57 [a0, a1, a2, some (.int x), a4] S M = rn ca C_X11_cut 58 [a0, a1, a2, some (.int x), a4] (.int x :: S) M := (rn_at k_X11_cut_57).trans rfl
theorem k_X11_cut_58 : lk 58 C_X11_cut = some (.iconst 1, (0, 0, 0, 0)) := by decide +kernel
theorem s_X11_cut_58 {ca : Nat → List Value → tM → tO} {M : tM} {L : tL} {S : List Value} : rn ca C_X11_cut 58 L S M = rn ca C_X11_cut 59 L (.int (iI 1) :: S) M := (rn_at k_X11_cut_58).trans rfl
theorem k_X11_cut_59 : lk 59 C_X11_cut = some (.if_icmp .ne 10, (69, 0, 0, 0)) := by decide +kernel
theorem s_X11_cut_59 {ca : Nat → List Value → tM → tO} {M : tM} {L : tL} {x y : Int32} {S : List Value} : rn ca C_X11_cut 59 L (.int y :: .int x :: S) M = if ¬ x = y then rn ca C_X11_cut 69 L S M else rn ca C_X11_cut 62 L S M := (rn_at k_X11_cut_59).trans rnx_ite
theorem k_X11_cut_62 : lk 62 C_X11_cut = some (.aload_n 0, (0, 0, 0, 0)) := by decide +kernel
theorem s_X11_cut_62 {ca : Nat → List Value → tM → tO} {M : tM} {a1 a2 a3 a4 : Option Value} {x : Nat} {S : List Value} : rn ca C_X11_cut 62 [some (.ref x), a1, a2, a3, a4] S M = rn ca C_X11_cut 63 [some (.ref x), a1, a2, a3, a4] (.ref x :: S) M := (rn_at k_X11_cut_62).trans rfl
theorem k_X11_cut_63 : lk 63 C_X11_cut = some (.iload_n 1, (0, 0, 0, 0)) := by decide +kernel
theorem s_X11_cut_63 {ca : Nat → List Value → tM → tO} {M : tM} {a0 a2 a3 a4 : Option Value} {x : Int32} {S : List Value} : rn ca C_X11_cut 63 [a0, some (.int x), a2, a3, a4] S M = rn ca C_X11_cut 64 [a0, some (.int x), a2, a3, a4] (.int x :: S) M := (rn_at k_X11_cut_63).trans rfl
theorem k_X11_cut_64 : lk 64 C_X11_cut = some (.iload_n 2, (0, 0, 0, 0)) := by decide +kernel
theorem s_X11_cut_64 {ca : Nat → List Value → tM → tO} {M : tM} {a0 a1 a3 a4 : Option Value} {x : Int32} {S : List Value} : rn ca C_X11_cut 64 [a0, a1, some (.int x), a3, a4] S M = rn ca C_X11_cut 65 [a0, a1, some (.int x), a3, a4] (.int x :: S) M := (rn_at k_X11_cut_64).trans rfl
theorem k_X11_cut_65 : lk 65 C_X11_cut = some (.invokevirtual 264, (207, 2, 11, 924)) := by decide +kernel
theorem s_X11_cut_65 {ca : Nat → List Value → tM → tO} {M : tM} {L : tL} {v1 v2 : Value} {b : Nat} : rn ca C_X11_cut 65 L [v2, v1, .ref b] M = if clsO b = some 11 then rnk ca C_X11_cut 68 L [] (ca m_X11_keep [.ref b, v1, v2] M) else none := (rn_at k_X11_cut_65).trans rnx_ite
theorem k_X11_cut_68 : lk 68 C_X11_cut = some (.ireturn, (0, 0, 0, 0)) := by decide +kernel
theorem s_X11_cut_68 {ca : Nat → List Value → tM → tO} {M : tM} {L : tL} {x : Int32} : rn ca C_X11_cut 68 L [.int x] M = some (some (.int x), M) := (rn_at k_X11_cut_68).trans rfl
theorem k_X11_cut_69 : lk 69 C_X11_cut = some (.aload_n 0, (0, 0, 0, 0)) := by decide +kernel
theorem s_X11_cut_69 {ca : Nat → List Value → tM → tO} {M : tM} {a1 a2 a3 a4 : Option Value} {x : Nat} {S : List Value} : rn ca C_X11_cut 69 [some (.ref x), a1, a2, a3, a4] S M = rn ca C_X11_cut 70 [some (.ref x), a1, a2, a3, a4] (.ref x :: S) M := (rn_at k_X11_cut_69).trans rfl
theorem k_X11_cut_70 : lk 70 C_X11_cut = some (.iload_n 1, (0, 0, 0, 0)) := by decide +kernel
theorem s_X11_cut_70 {ca : Nat → List Value → tM → tO} {M : tM} {a0 a2 a3 a4 : Option Value} {x : Int32} {S : List Value} : rn ca C_X11_cut 70 [a0, some (.int x), a2, a3, a4] S M = rn ca C_X11_cut 71 [a0, some (.int x), a2, a3, a4] (.int x :: S) M := (rn_at k_X11_cut_70).trans rfl
theorem k_X11_cut_71 : lk 71 C_X11_cut = some (.iconst 0, (0, 0, 0, 0)) := by decide +kernel
theorem s_X11_cut_71 {ca : Nat → List Value → tM → tO} {M : tM} {L : tL} {S : List Value} : rn ca C_X11_cut 71 L S M = rn ca C_X11_cut 72 L (.int (iI 0) :: S) M := (rn_at k_X11_cut_71).trans rfl
theorem k_X11_cut_72 : lk 72 C_X11_cut = some (.invokevirtual 238, (195, 2, 11, 753)) := by decide +kernel
theorem s_X11_cut_72 {ca : Nat → List Value → tM → tO} {M : tM} {L : tL} {v1 v2 : Value} {b : Nat} : rn ca C_X11_cut 72 L [v2, v1, .ref b] M = if clsO b = some 11 then rnk ca C_X11_cut 75 L [] (ca m_X11_fill [.ref b, v1, v2] M) else none := (rn_at k_X11_cut_72).trans rnx_ite
theorem k_X11_cut_75 : lk 75 C_X11_cut = some (.aload_n 0, (0, 0, 0, 0)) := by decide +kernel
theorem s_X11_cut_75 {ca : Nat → List Value → tM → tO} {M : tM} {a1 a2 a3 a4 : Option Value} {x : Nat} {S : List Value} : rn ca C_X11_cut 75 [some (.ref x), a1, a2, a3, a4] S M = rn ca C_X11_cut 76 [some (.ref x), a1, a2, a3, a4] (.ref x :: S) M := (rn_at k_X11_cut_75).trans rfl
theorem k_X11_cut_76 : lk 76 C_X11_cut = some (.iload_n 1, (0, 0, 0, 0)) := by decide +kernel
theorem s_X11_cut_76 {ca : Nat → List Value → tM → tO} {M : tM} {a0 a2 a3 a4 : Option Value} {x : Int32} {S : List Value} : rn ca C_X11_cut 76 [a0, some (.int x), a2, a3, a4] S M = rn ca C_X11_cut 77 [a0, some (.int x), a2, a3, a4] (.int x :: S) M := (rn_at k_X11_cut_76).trans rfl
theorem k_X11_cut_77 : lk 77 C_X11_cut = some (.invokevirtual 134, (155, 1, 11, 327)) := by decide +kernel
theorem s_X11_cut_77 {ca : Nat → List Value → tM → tO} {M : tM} {L : tL} {v1 : Value} {b : Nat} : rn ca C_X11_cut 77 L [v1, .ref b] M = if clsO b = some 11 then rnk ca C_X11_cut 80 L [] (ca m_X11_kind [.ref b, v1] M) else none := (rn_at k_X11_cut_77).trans rnx_ite
theorem k_X11_cut_80 : lk 80 C_X11_cut = some (.iconst 5, (0, 0, 0, 0)) := by decide +kernel
theorem s_X11_cut_80 {ca : Nat → List Value → tM → tO} {M : tM} {L : tL} {S : List Value} : rn ca C_X11_cut 80 L S M = rn ca C_X11_cut 81 L (.int (iI 5) :: S) M := (rn_at k_X11_cut_80).trans rfl
theorem k_X11_cut_81 : lk 81 C_X11_cut = some (.if_icmp .ne 21, (102, 0, 0, 0)) := by decide +kernel
theorem s_X11_cut_81 {ca : Nat → List Value → tM → tO} {M : tM} {L : tL} {x y : Int32} {S : List Value} : rn ca C_X11_cut 81 L (.int y :: .int x :: S) M = if ¬ x = y then rn ca C_X11_cut 102 L S M else rn ca C_X11_cut 84 L S M := (rn_at k_X11_cut_81).trans rnx_ite
theorem k_X11_cut_84 : lk 84 C_X11_cut = some (.aload_n 0, (0, 0, 0, 0)) := by decide +kernel
theorem s_X11_cut_84 {ca : Nat → List Value → tM → tO} {M : tM} {a1 a2 a3 a4 : Option Value} {x : Nat} {S : List Value} : rn ca C_X11_cut 84 [some (.ref x), a1, a2, a3, a4] S M = rn ca C_X11_cut 85 [some (.ref x), a1, a2, a3, a4] (.ref x :: S) M := (rn_at k_X11_cut_84).trans rfl
theorem k_X11_cut_85 : lk 85 C_X11_cut = some (.iload_n 1, (0, 0, 0, 0)) := by decide +kernel
theorem s_X11_cut_85 {ca : Nat → List Value → tM → tO} {M : tM} {a0 a2 a3 a4 : Option Value} {x : Int32} {S : List Value} : rn ca C_X11_cut 85 [a0, some (.int x), a2, a3, a4] S M = rn ca C_X11_cut 86 [a0, some (.int x), a2, a3, a4] (.int x :: S) M := (rn_at k_X11_cut_85).trans rfl
theorem k_X11_cut_86 : lk 86 C_X11_cut = some (.iload_n 2, (0, 0, 0, 0)) := by decide +kernel
theorem s_X11_cut_86 {ca : Nat → List Value → tM → tO} {M : tM} {a0 a1 a3 a4 : Option Value} {x : Int32} {S : List Value} : rn ca C_X11_cut 86 [a0, a1, some (.int x), a3, a4] S M = rn ca C_X11_cut 87 [a0, a1, some (.int x), a3, a4] (.int x :: S) M := (rn_at k_X11_cut_86).trans rfl
theorem k_X11_cut_87 : lk 87 C_X11_cut = some (.invokevirtual 230, (196, 2, 11, 790)) := by decide +kernel
theorem s_X11_cut_87 {ca : Nat → List Value → tM → tO} {M : tM} {L : tL} {v1 v2 : Value} {b : Nat} : rn ca C_X11_cut 87 L [v2, v1, .ref b] M = if clsO b = some 11 then rnk ca C_X11_cut 90 L [] (ca m_X11_way [.ref b, v1, v2] M) else none := (rn_at k_X11_cut_87).trans rnx_ite
theorem k_X11_cut_90 : lk 90 C_X11_cut = some (.sipush 9999, (0, 0, 0, 0)) := by decide +kernel
theorem s_X11_cut_90 {ca : Nat → List Value → tM → tO} {M : tM} {L : tL} {S : List Value} : rn ca C_X11_cut 90 L S M = rn ca C_X11_cut 93 L (.int (iI 9999) :: S) M := (rn_at k_X11_cut_90).trans rfl
theorem k_X11_cut_93 : lk 93 C_X11_cut = some (.if_icmp .lt 7, (100, 0, 0, 0)) := by decide +kernel
theorem s_X11_cut_93 {ca : Nat → List Value → tM → tO} {M : tM} {L : tL} {x y : Int32} {S : List Value} : rn ca C_X11_cut 93 L (.int y :: .int x :: S) M = if x < y then rn ca C_X11_cut 100 L S M else rn ca C_X11_cut 96 L S M := (rn_at k_X11_cut_93).trans rnx_ite
theorem k_X11_cut_96 : lk 96 C_X11_cut = some (.iconst 0, (0, 0, 0, 0)) := by decide +kernel
theorem s_X11_cut_96 {ca : Nat → List Value → tM → tO} {M : tM} {L : tL} {S : List Value} : rn ca C_X11_cut 96 L S M = rn ca C_X11_cut 97 L (.int (iI 0) :: S) M := (rn_at k_X11_cut_96).trans rfl
theorem k_X11_cut_97 : lk 97 C_X11_cut = some (.goto 4, (101, 0, 0, 0)) := by decide +kernel
theorem s_X11_cut_97 {ca : Nat → List Value → tM → tO} {M : tM} {L : tL} {S : List Value} : rn ca C_X11_cut 97 L S M = rn ca C_X11_cut 101 L S M := (rn_at k_X11_cut_97).trans rfl
theorem k_X11_cut_100 : lk 100 C_X11_cut = some (.iconst (-1), (0, 0, 0, 0)) := by decide +kernel
theorem s_X11_cut_100 {ca : Nat → List Value → tM → tO} {M : tM} {L : tL} {S : List Value} : rn ca C_X11_cut 100 L S M = rn ca C_X11_cut 101 L (.int (iI (-1)) :: S) M := (rn_at k_X11_cut_100).trans rfl
theorem k_X11_cut_101 : lk 101 C_X11_cut = some (.ireturn, (0, 0, 0, 0)) := by decide +kernel
theorem s_X11_cut_101 {ca : Nat → List Value → tM → tO} {M : tM} {L : tL} {x : Int32} : rn ca C_X11_cut 101 L [.int x] M = some (some (.int x), M) := (rn_at k_X11_cut_101).trans rfl
theorem k_X11_cut_102 : lk 102 C_X11_cut = some (.iconst 0, (0, 0, 0, 0)) := by decide +kernel
theorem s_X11_cut_102 {ca : Nat → List Value → tM → tO} {M : tM} {L : tL} {S : List Value} : rn ca C_X11_cut 102 L S M = rn ca C_X11_cut 103 L (.int (iI 0) :: S) M := (rn_at k_X11_cut_102).trans rfl
theorem k_X11_cut_103 : lk 103 C_X11_cut = some (.istore 4, (0, 0, 0, 0)) := by decide +kernel
theorem s_X11_cut_103 {ca : Nat → List Value → tM → tO} {M : tM} {a0 a1 a2 a3 a4 : Option Value} {x : Int32} {S : List Value} : rn ca C_X11_cut 103 [a0, a1, a2, a3, a4] (.int x :: S) M = rn ca C_X11_cut 105 [a0, a1, a2, a3, some (.int x)] S M := (rn_at k_X11_cut_103).trans rfl
theorem k_X11_cut_105 : lk 105 C_X11_cut = some (.iload 4, (0, 0, 0, 0)) := by decide +kernel
theorem s_X11_cut_105 {ca : Nat → List Value → tM → tO} {M : tM} {a0 a1 a2 a3 : Option Value} {x : Int32} {S : List Value} : rn ca C_X11_cut 105 [a0, a1, a2, a3, some (.int x)] S M = rn ca C_X11_cut 107 [a0, a1, a2, a3, some (.int x)] (.int x :: S) M := (rn_at k_X11_cut_105).trans rfl
theorem k_X11_cut_107 : lk 107 C_X11_cut = some (.bipush 16, (0, 0, 0, 0)) := by decide +kernel
theorem s_X11_cut_107 {ca : Nat → List Value → tM → tO} {M : tM} {L : tL} {S : List Value} : rn ca C_X11_cut 107 L S M = rn ca C_X11_cut 109 L (.int (iI 16) :: S) M := (rn_at k_X11_cut_107).trans rfl
theorem k_X11_cut_109 : lk 109 C_X11_cut = some (.if_icmp .ge 17, (126, 0, 0, 0)) := by decide +kernel
theorem s_X11_cut_109 {ca : Nat → List Value → tM → tO} {M : tM} {L : tL} {x y : Int32} {S : List Value} : rn ca C_X11_cut 109 L (.int y :: .int x :: S) M = if y ≤ x then rn ca C_X11_cut 126 L S M else rn ca C_X11_cut 112 L S M := (rn_at k_X11_cut_109).trans rnx_ite
theorem k_X11_cut_112 : lk 112 C_X11_cut = some (.aload_n 0, (0, 0, 0, 0)) := by decide +kernel
theorem s_X11_cut_112 {ca : Nat → List Value → tM → tO} {M : tM} {a1 a2 a3 a4 : Option Value} {x : Nat} {S : List Value} : rn ca C_X11_cut 112 [some (.ref x), a1, a2, a3, a4] S M = rn ca C_X11_cut 113 [some (.ref x), a1, a2, a3, a4] (.ref x :: S) M := (rn_at k_X11_cut_112).trans rfl
theorem k_X11_cut_113 : lk 113 C_X11_cut = some (.getfield 73, (11, 17, 0, 161)) := by decide +kernel
theorem s_X11_cut_113 {ca : Nat → List Value → tM → tO} {M : tM} {L : tL} {b : Nat} {S : List Value} : rn ca C_X11_cut 113 L (.ref b :: S) M = if clsO b = some 11 then rn ca C_X11_cut 116 L (fv M b 17 :: S) M else none := (rn_at k_X11_cut_113).trans rnx_ite
theorem k_X11_cut_116 : lk 116 C_X11_cut = some (.iload 4, (0, 0, 0, 0)) := by decide +kernel
theorem s_X11_cut_116 {ca : Nat → List Value → tM → tO} {M : tM} {a0 a1 a2 a3 : Option Value} {x : Int32} {S : List Value} : rn ca C_X11_cut 116 [a0, a1, a2, a3, some (.int x)] S M = rn ca C_X11_cut 118 [a0, a1, a2, a3, some (.int x)] (.int x :: S) M := (rn_at k_X11_cut_116).trans rfl
theorem k_X11_cut_118 : lk 118 C_X11_cut = some (.iconst 0, (0, 0, 0, 0)) := by decide +kernel
theorem s_X11_cut_118 {ca : Nat → List Value → tM → tO} {M : tM} {L : tL} {S : List Value} : rn ca C_X11_cut 118 L S M = rn ca C_X11_cut 119 L (.int (iI 0) :: S) M := (rn_at k_X11_cut_118).trans rfl
theorem k_X11_cut_119 : lk 119 C_X11_cut = some (.iastore, (0, 0, 0, 0)) := by decide +kernel
theorem s_X11_cut_119 {ca : Nat → List Value → tM → tO} {M : tM} {L : tL} {a : Nat} {i x : Int32} {S : List Value} : rn ca C_X11_cut 119 L (.int x :: .int i :: .ref a :: S) M = if akind a = 0 ∧ inb i (alen M a) then rn ca C_X11_cut 120 L S (sI M a i.toInt.toNat x) else none := (rn_at k_X11_cut_119).trans rnx_ite
theorem k_X11_cut_120 : lk 120 C_X11_cut = some (.iinc 4 1, (0, 0, 0, 0)) := by decide +kernel
theorem s_X11_cut_120 {ca : Nat → List Value → tM → tO} {M : tM} {a0 a1 a2 a3 : Option Value} {x : Int32} {S : List Value} : rn ca C_X11_cut 120 [a0, a1, a2, a3, some (.int x)] S M = rn ca C_X11_cut 123 [a0, a1, a2, a3, some (.int (x + iI 1))] S M := (rn_at k_X11_cut_120).trans rfl
theorem k_X11_cut_123 : lk 123 C_X11_cut = some (.goto (-18), (105, 0, 0, 0)) := by decide +kernel
theorem s_X11_cut_123 {ca : Nat → List Value → tM → tO} {M : tM} {L : tL} {S : List Value} : rn ca C_X11_cut 123 L S M = rn ca C_X11_cut 105 L S M := (rn_at k_X11_cut_123).trans rfl
theorem k_X11_cut_126 : lk 126 C_X11_cut = some (.iconst 0, (0, 0, 0, 0)) := by decide +kernel
theorem s_X11_cut_126 {ca : Nat → List Value → tM → tO} {M : tM} {L : tL} {S : List Value} : rn ca C_X11_cut 126 L S M = rn ca C_X11_cut 127 L (.int (iI 0) :: S) M := (rn_at k_X11_cut_126).trans rfl
theorem k_X11_cut_127 : lk 127 C_X11_cut = some (.istore 4, (0, 0, 0, 0)) := by decide +kernel
theorem s_X11_cut_127 {ca : Nat → List Value → tM → tO} {M : tM} {a0 a1 a2 a3 a4 : Option Value} {x : Int32} {S : List Value} : rn ca C_X11_cut 127 [a0, a1, a2, a3, a4] (.int x :: S) M = rn ca C_X11_cut 129 [a0, a1, a2, a3, some (.int x)] S M := (rn_at k_X11_cut_127).trans rfl
theorem k_X11_cut_129 : lk 129 C_X11_cut = some (.aload_n 0, (0, 0, 0, 0)) := by decide +kernel
theorem s_X11_cut_129 {ca : Nat → List Value → tM → tO} {M : tM} {a1 a2 a3 a4 : Option Value} {x : Nat} {S : List Value} : rn ca C_X11_cut 129 [some (.ref x), a1, a2, a3, a4] S M = rn ca C_X11_cut 130 [some (.ref x), a1, a2, a3, a4] (.ref x :: S) M := (rn_at k_X11_cut_129).trans rfl
theorem k_X11_cut_130 : lk 130 C_X11_cut = some (.iload_n 1, (0, 0, 0, 0)) := by decide +kernel
theorem s_X11_cut_130 {ca : Nat → List Value → tM → tO} {M : tM} {a0 a2 a3 a4 : Option Value} {x : Int32} {S : List Value} : rn ca C_X11_cut 130 [a0, some (.int x), a2, a3, a4] S M = rn ca C_X11_cut 131 [a0, some (.int x), a2, a3, a4] (.int x :: S) M := (rn_at k_X11_cut_130).trans rfl
theorem k_X11_cut_131 : lk 131 C_X11_cut = some (.iload_n 2, (0, 0, 0, 0)) := by decide +kernel
theorem s_X11_cut_131 {ca : Nat → List Value → tM → tO} {M : tM} {a0 a1 a3 a4 : Option Value} {x : Int32} {S : List Value} : rn ca C_X11_cut 131 [a0, a1, some (.int x), a3, a4] S M = rn ca C_X11_cut 132 [a0, a1, some (.int x), a3, a4] (.int x :: S) M := (rn_at k_X11_cut_131).trans rfl
theorem k_X11_cut_132 : lk 132 C_X11_cut = some (.invokevirtual 267, (206, 2, 11, 928)) := by decide +kernel
theorem s_X11_cut_132 {ca : Nat → List Value → tM → tO} {M : tM} {L : tL} {v1 v2 : Value} {b : Nat} : rn ca C_X11_cut 132 L [v2, v1, .ref b] M = if clsO b = some 11 then rnk ca C_X11_cut 135 L [] (ca m_X11_pushes [.ref b, v1, v2] M) else none := (rn_at k_X11_cut_132).trans rnx_ite
theorem k_X11_cut_135 : lk 135 C_X11_cut = some (.ifCond .eq 9, (144, 0, 0, 0)) := by decide +kernel
theorem s_X11_cut_135 {ca : Nat → List Value → tM → tO} {M : tM} {L : tL} {x : Int32} {S : List Value} : rn ca C_X11_cut 135 L (.int x :: S) M = if x = iI 0 then rn ca C_X11_cut 144 L S M else rn ca C_X11_cut 138 L S M := (rn_at k_X11_cut_135).trans rnx_ite
theorem k_X11_cut_138 : lk 138 C_X11_cut = some (.iinc 4 1, (0, 0, 0, 0)) := by decide +kernel
theorem s_X11_cut_138 {ca : Nat → List Value → tM → tO} {M : tM} {a0 a1 a2 a3 : Option Value} {x : Int32} {S : List Value} : rn ca C_X11_cut 138 [a0, a1, a2, a3, some (.int x)] S M = rn ca C_X11_cut 141 [a0, a1, a2, a3, some (.int (x + iI 1))] S M := (rn_at k_X11_cut_138).trans rfl
theorem k_X11_cut_141 : lk 141 C_X11_cut = some (.goto (-12), (129, 0, 0, 0)) := by decide +kernel
theorem s_X11_cut_141 {ca : Nat → List Value → tM → tO} {M : tM} {L : tL} {S : List Value} : rn ca C_X11_cut 141 L S M = rn ca C_X11_cut 129 L S M := (rn_at k_X11_cut_141).trans rfl
theorem k_X11_cut_144 : lk 144 C_X11_cut = some (.iload 4, (0, 0, 0, 0)) := by decide +kernel
theorem s_X11_cut_144 {ca : Nat → List Value → tM → tO} {M : tM} {a0 a1 a2 a3 : Option Value} {x : Int32} {S : List Value} : rn ca C_X11_cut 144 [a0, a1, a2, a3, some (.int x)] S M = rn ca C_X11_cut 146 [a0, a1, a2, a3, some (.int x)] (.int x :: S) M := (rn_at k_X11_cut_144).trans rfl
theorem k_X11_cut_146 : lk 146 C_X11_cut = some (.ireturn, (0, 0, 0, 0)) := by decide +kernel
theorem s_X11_cut_146 {ca : Nat → List Value → tM → tO} {M : tM} {L : tL} {x : Int32} : rn ca C_X11_cut 146 L [.int x] M = some (some (.int x), M) := (rn_at k_X11_cut_146).trans rfl
theorem k_X11_sound_0 : lk 0 C_X11_sound = some (.aload_n 0, (0, 0, 0, 0)) := by decide +kernel
theorem s_X11_sound_0 {ca : Nat → List Value → tM → tO} {M : tM} {a1 : Option Value} {x : Nat} {S : List Value} : rn ca C_X11_sound 0 [some (.ref x), a1] S M = rn ca C_X11_sound 1 [some (.ref x), a1] (.ref x :: S) M := (rn_at k_X11_sound_0).trans rfl
theorem k_X11_sound_1 : lk 1 C_X11_sound = some (.invokevirtual 214, (192, 0, 11, 757)) := by decide +kernel
theorem s_X11_sound_1 {ca : Nat → List Value → tM → tO} {M : tM} {L : tL} {b : Nat} : rn ca C_X11_sound 1 L [.ref b] M = if clsO b = some 11 then rnk ca C_X11_sound 4 L [] (ca m_X11_clear [.ref b] M) else none := (rn_at k_X11_sound_1).trans rnx_ite
theorem k_X11_sound_4 : lk 4 C_X11_sound = some (.iconst 0, (0, 0, 0, 0)) := by decide +kernel
theorem s_X11_sound_4 {ca : Nat → List Value → tM → tO} {M : tM} {L : tL} {S : List Value} : rn ca C_X11_sound 4 L S M = rn ca C_X11_sound 5 L (.int (iI 0) :: S) M := (rn_at k_X11_sound_4).trans rfl
theorem k_X11_sound_5 : lk 5 C_X11_sound = some (.istore_n 1, (0, 0, 0, 0)) := by decide +kernel
theorem s_X11_sound_5 {ca : Nat → List Value → tM → tO} {M : tM} {a0 a1 : Option Value} {x : Int32} {S : List Value} : rn ca C_X11_sound 5 [a0, a1] (.int x :: S) M = rn ca C_X11_sound 6 [a0, some (.int x)] S M := (rn_at k_X11_sound_5).trans rfl
theorem k_X11_sound_6 : lk 6 C_X11_sound = some (.iload_n 1, (0, 0, 0, 0)) := by decide +kernel
theorem s_X11_sound_6 {ca : Nat → List Value → tM → tO} {M : tM} {a0 : Option Value} {x : Int32} {S : List Value} : rn ca C_X11_sound 6 [a0, some (.int x)] S M = rn ca C_X11_sound 7 [a0, some (.int x)] (.int x :: S) M := (rn_at k_X11_sound_6).trans rfl
theorem k_X11_sound_7 : lk 7 C_X11_sound = some (.aload_n 0, (0, 0, 0, 0)) := by decide +kernel
theorem s_X11_sound_7 {ca : Nat → List Value → tM → tO} {M : tM} {a1 : Option Value} {x : Nat} {S : List Value} : rn ca C_X11_sound 7 [some (.ref x), a1] S M = rn ca C_X11_sound 8 [some (.ref x), a1] (.ref x :: S) M := (rn_at k_X11_sound_7).trans rfl
theorem k_X11_sound_8 : lk 8 C_X11_sound = some (.getfield 17, (11, 1, 0, 147)) := by decide +kernel
theorem s_X11_sound_8 {ca : Nat → List Value → tM → tO} {M : tM} {L : tL} {b : Nat} {S : List Value} : rn ca C_X11_sound 8 L (.ref b :: S) M = if clsO b = some 11 then rn ca C_X11_sound 11 L (fv M b 1 :: S) M else none := (rn_at k_X11_sound_8).trans rnx_ite
theorem k_X11_sound_11 : lk 11 C_X11_sound = some (.bipush 109, (0, 0, 0, 0)) := by decide +kernel
theorem s_X11_sound_11 {ca : Nat → List Value → tM → tO} {M : tM} {L : tL} {S : List Value} : rn ca C_X11_sound 11 L S M = rn ca C_X11_sound 13 L (.int (iI 109) :: S) M := (rn_at k_X11_sound_11).trans rfl
theorem k_X11_sound_13 : lk 13 C_X11_sound = some (.iaload, (0, 0, 0, 0)) := by decide +kernel
theorem s_X11_sound_13 {ca : Nat → List Value → tM → tO} {M : tM} {L : tL} {a : Nat} {i : Int32} {S : List Value} : rn ca C_X11_sound 13 L (.int i :: .ref a :: S) M = if (akind a = 0 ∨ akind a = 6 ∨ akind a = 7) ∧ inb i (alen M a) then rn ca C_X11_sound 14 L (.int (M.1 a i.toInt.toNat) :: S) M else none := (rn_at k_X11_sound_13).trans rnx_ite
theorem k_X11_sound_14 : lk 14 C_X11_sound = some (.if_icmp .ge 55, (69, 0, 0, 0)) := by decide +kernel
theorem s_X11_sound_14 {ca : Nat → List Value → tM → tO} {M : tM} {L : tL} {x y : Int32} {S : List Value} : rn ca C_X11_sound 14 L (.int y :: .int x :: S) M = if y ≤ x then rn ca C_X11_sound 69 L S M else rn ca C_X11_sound 17 L S M := (rn_at k_X11_sound_14).trans rnx_ite
theorem k_X11_sound_17 : lk 17 C_X11_sound = some (.aload_n 0, (0, 0, 0, 0)) := by decide +kernel
theorem s_X11_sound_17 {ca : Nat → List Value → tM → tO} {M : tM} {a1 : Option Value} {x : Nat} {S : List Value} : rn ca C_X11_sound 17 [some (.ref x), a1] S M = rn ca C_X11_sound 18 [some (.ref x), a1] (.ref x :: S) M := (rn_at k_X11_sound_17).trans rfl
theorem k_X11_sound_18 : lk 18 C_X11_sound = some (.iload_n 1, (0, 0, 0, 0)) := by decide +kernel
theorem s_X11_sound_18 {ca : Nat → List Value → tM → tO} {M : tM} {a0 : Option Value} {x : Int32} {S : List Value} : rn ca C_X11_sound 18 [a0, some (.int x)] S M = rn ca C_X11_sound 19 [a0, some (.int x)] (.int x :: S) M := (rn_at k_X11_sound_18).trans rfl
theorem k_X11_sound_19 : lk 19 C_X11_sound = some (.invokevirtual 191, (154, 1, 11, 765)) := by decide +kernel
theorem s_X11_sound_19 {ca : Nat → List Value → tM → tO} {M : tM} {L : tL} {v1 : Value} {b : Nat} : rn ca C_X11_sound 19 L [v1, .ref b] M = if clsO b = some 11 then rnk ca C_X11_sound 22 L [] (ca m_X11_isShut [.ref b, v1] M) else none := (rn_at k_X11_sound_19).trans rnx_ite
theorem k_X11_sound_22 : lk 22 C_X11_sound = some (.ifCond .ne 41, (63, 0, 0, 0)) := by decide +kernel
theorem s_X11_sound_22 {ca : Nat → List Value → tM → tO} {M : tM} {L : tL} {x : Int32} {S : List Value} : rn ca C_X11_sound 22 L (.int x :: S) M = if ¬ x = iI 0 then rn ca C_X11_sound 63 L S M else rn ca C_X11_sound 25 L S M := (rn_at k_X11_sound_22).trans rnx_ite
theorem k_X11_sound_25 : lk 25 C_X11_sound = some (.aload_n 0, (0, 0, 0, 0)) := by decide +kernel
theorem s_X11_sound_25 {ca : Nat → List Value → tM → tO} {M : tM} {a1 : Option Value} {x : Nat} {S : List Value} : rn ca C_X11_sound 25 [some (.ref x), a1] S M = rn ca C_X11_sound 26 [some (.ref x), a1] (.ref x :: S) M := (rn_at k_X11_sound_25).trans rfl
theorem k_X11_sound_26 : lk 26 C_X11_sound = some (.aload_n 0, (0, 0, 0, 0)) := by decide +kernel
theorem s_X11_sound_26 {ca : Nat → List Value → tM → tO} {M : tM} {a1 : Option Value} {x : Nat} {S : List Value} : rn ca C_X11_sound 26 [some (.ref x), a1] S M = rn ca C_X11_sound 27 [some (.ref x), a1] (.ref x :: S) M := (rn_at k_X11_sound_26).trans rfl
theorem k_X11_sound_27 : lk 27 C_X11_sound = some (.iload_n 1, (0, 0, 0, 0)) := by decide +kernel
theorem s_X11_sound_27 {ca : Nat → List Value → tM → tO} {M : tM} {a0 : Option Value} {x : Int32} {S : List Value} : rn ca C_X11_sound 27 [a0, some (.int x)] S M = rn ca C_X11_sound 28 [a0, some (.int x)] (.int x :: S) M := (rn_at k_X11_sound_27).trans rfl
theorem k_X11_sound_28 : lk 28 C_X11_sound = some (.invokevirtual 221, (150, 1, 11, 769)) := by decide +kernel
theorem s_X11_sound_28 {ca : Nat → List Value → tM → tO} {M : tM} {L : tL} {v1 : Value} {r0 : Nat} {b : Nat} : rn ca C_X11_sound 28 L [v1, .ref b, .ref r0] M = if clsO b = some 11 then rnk ca C_X11_sound 31 L [.ref r0] (ca m_X11_from [.ref b, v1] M) else none := (rn_at k_X11_sound_28).trans rnx_ite
theorem k_X11_sound_31 : lk 31 C_X11_sound = some (.aload_n 0, (0, 0, 0, 0)) := by decide +kernel
theorem s_X11_sound_31 {ca : Nat → List Value → tM → tO} {M : tM} {a1 : Option Value} {x : Nat} {S : List Value} : rn ca C_X11_sound 31 [some (.ref x), a1] S M = rn ca C_X11_sound 32 [some (.ref x), a1] (.ref x :: S) M := (rn_at k_X11_sound_31).trans rfl
theorem k_X11_sound_32 : lk 32 C_X11_sound = some (.iload_n 1, (0, 0, 0, 0)) := by decide +kernel
theorem s_X11_sound_32 {ca : Nat → List Value → tM → tO} {M : tM} {a0 : Option Value} {x : Int32} {S : List Value} : rn ca C_X11_sound 32 [a0, some (.int x)] S M = rn ca C_X11_sound 33 [a0, some (.int x)] (.int x :: S) M := (rn_at k_X11_sound_32).trans rfl
theorem k_X11_sound_33 : lk 33 C_X11_sound = some (.invokevirtual 224, (151, 1, 11, 773)) := by decide +kernel
theorem s_X11_sound_33 {ca : Nat → List Value → tM → tO} {M : tM} {L : tL} {v1 : Value} {r0 : Int32} {r1 : Nat} {b : Nat} : rn ca C_X11_sound 33 L [v1, .ref b, .int r0, .ref r1] M = if clsO b = some 11 then rnk ca C_X11_sound 36 L [.int r0, .ref r1] (ca m_X11_to [.ref b, v1] M) else none := (rn_at k_X11_sound_33).trans rnx_ite
theorem k_X11_sound_36 : lk 36 C_X11_sound = some (.aload_n 0, (0, 0, 0, 0)) := by decide +kernel
theorem s_X11_sound_36 {ca : Nat → List Value → tM → tO} {M : tM} {a1 : Option Value} {x : Nat} {S : List Value} : rn ca C_X11_sound 36 [some (.ref x), a1] S M = rn ca C_X11_sound 37 [some (.ref x), a1] (.ref x :: S) M := (rn_at k_X11_sound_36).trans rfl
theorem k_X11_sound_37 : lk 37 C_X11_sound = some (.iload_n 1, (0, 0, 0, 0)) := by decide +kernel
theorem s_X11_sound_37 {ca : Nat → List Value → tM → tO} {M : tM} {a0 : Option Value} {x : Int32} {S : List Value} : rn ca C_X11_sound 37 [a0, some (.int x)] S M = rn ca C_X11_sound 38 [a0, some (.int x)] (.int x :: S) M := (rn_at k_X11_sound_37).trans rfl
theorem k_X11_sound_38 : lk 38 C_X11_sound = some (.invokevirtual 197, (152, 1, 11, 683)) := by decide +kernel
theorem s_X11_sound_38 {ca : Nat → List Value → tM → tO} {M : tM} {L : tL} {v1 : Value} {r0 : Int32} {r1 : Int32} {r2 : Nat} {b : Nat} : rn ca C_X11_sound 38 L [v1, .ref b, .int r0, .int r1, .ref r2] M = if clsO b = some 11 then rnk ca C_X11_sound 41 L [.int r0, .int r1, .ref r2] (ca m_X11_length [.ref b, v1] M) else none := (rn_at k_X11_sound_38).trans rnx_ite
theorem k_X11_sound_41 : lk 41 C_X11_sound = some (.invokevirtual 210, (193, 3, 11, 777)) := by decide +kernel
theorem s_X11_sound_41 {ca : Nat → List Value → tM → tO} {M : tM} {L : tL} {v1 v2 v3 : Value} {b : Nat} : rn ca C_X11_sound 41 L [v3, v2, v1, .ref b] M = if clsO b = some 11 then rnk ca C_X11_sound 44 L [] (ca m_X11_nearer [.ref b, v1, v2, v3] M) else none := (rn_at k_X11_sound_41).trans rnx_ite
theorem k_X11_sound_44 : lk 44 C_X11_sound = some (.aload_n 0, (0, 0, 0, 0)) := by decide +kernel
theorem s_X11_sound_44 {ca : Nat → List Value → tM → tO} {M : tM} {a1 : Option Value} {x : Nat} {S : List Value} : rn ca C_X11_sound 44 [some (.ref x), a1] S M = rn ca C_X11_sound 45 [some (.ref x), a1] (.ref x :: S) M := (rn_at k_X11_sound_44).trans rfl
theorem k_X11_sound_45 : lk 45 C_X11_sound = some (.aload_n 0, (0, 0, 0, 0)) := by decide +kernel
theorem s_X11_sound_45 {ca : Nat → List Value → tM → tO} {M : tM} {a1 : Option Value} {x : Nat} {S : List Value} : rn ca C_X11_sound 45 [some (.ref x), a1] S M = rn ca C_X11_sound 46 [some (.ref x), a1] (.ref x :: S) M := (rn_at k_X11_sound_45).trans rfl
theorem k_X11_sound_46 : lk 46 C_X11_sound = some (.iload_n 1, (0, 0, 0, 0)) := by decide +kernel
theorem s_X11_sound_46 {ca : Nat → List Value → tM → tO} {M : tM} {a0 : Option Value} {x : Int32} {S : List Value} : rn ca C_X11_sound 46 [a0, some (.int x)] S M = rn ca C_X11_sound 47 [a0, some (.int x)] (.int x :: S) M := (rn_at k_X11_sound_46).trans rfl
theorem k_X11_sound_47 : lk 47 C_X11_sound = some (.invokevirtual 224, (151, 1, 11, 773)) := by decide +kernel
theorem s_X11_sound_47 {ca : Nat → List Value → tM → tO} {M : tM} {L : tL} {v1 : Value} {r0 : Nat} {b : Nat} : rn ca C_X11_sound 47 L [v1, .ref b, .ref r0] M = if clsO b = some 11 then rnk ca C_X11_sound 50 L [.ref r0] (ca m_X11_to [.ref b, v1] M) else none := (rn_at k_X11_sound_47).trans rnx_ite
theorem k_X11_sound_50 : lk 50 C_X11_sound = some (.aload_n 0, (0, 0, 0, 0)) := by decide +kernel
theorem s_X11_sound_50 {ca : Nat → List Value → tM → tO} {M : tM} {a1 : Option Value} {x : Nat} {S : List Value} : rn ca C_X11_sound 50 [some (.ref x), a1] S M = rn ca C_X11_sound 51 [some (.ref x), a1] (.ref x :: S) M := (rn_at k_X11_sound_50).trans rfl
theorem k_X11_sound_51 : lk 51 C_X11_sound = some (.iload_n 1, (0, 0, 0, 0)) := by decide +kernel
theorem s_X11_sound_51 {ca : Nat → List Value → tM → tO} {M : tM} {a0 : Option Value} {x : Int32} {S : List Value} : rn ca C_X11_sound 51 [a0, some (.int x)] S M = rn ca C_X11_sound 52 [a0, some (.int x)] (.int x :: S) M := (rn_at k_X11_sound_51).trans rfl
theorem k_X11_sound_52 : lk 52 C_X11_sound = some (.invokevirtual 221, (150, 1, 11, 769)) := by decide +kernel
theorem s_X11_sound_52 {ca : Nat → List Value → tM → tO} {M : tM} {L : tL} {v1 : Value} {r0 : Int32} {r1 : Nat} {b : Nat} : rn ca C_X11_sound 52 L [v1, .ref b, .int r0, .ref r1] M = if clsO b = some 11 then rnk ca C_X11_sound 55 L [.int r0, .ref r1] (ca m_X11_from [.ref b, v1] M) else none := (rn_at k_X11_sound_52).trans rnx_ite
theorem k_X11_sound_55 : lk 55 C_X11_sound = some (.aload_n 0, (0, 0, 0, 0)) := by decide +kernel
theorem s_X11_sound_55 {ca : Nat → List Value → tM → tO} {M : tM} {a1 : Option Value} {x : Nat} {S : List Value} : rn ca C_X11_sound 55 [some (.ref x), a1] S M = rn ca C_X11_sound 56 [some (.ref x), a1] (.ref x :: S) M := (rn_at k_X11_sound_55).trans rfl
theorem k_X11_sound_56 : lk 56 C_X11_sound = some (.iload_n 1, (0, 0, 0, 0)) := by decide +kernel
theorem s_X11_sound_56 {ca : Nat → List Value → tM → tO} {M : tM} {a0 : Option Value} {x : Int32} {S : List Value} : rn ca C_X11_sound 56 [a0, some (.int x)] S M = rn ca C_X11_sound 57 [a0, some (.int x)] (.int x :: S) M := (rn_at k_X11_sound_56).trans rfl
theorem k_X11_sound_57 : lk 57 C_X11_sound = some (.invokevirtual 197, (152, 1, 11, 683)) := by decide +kernel
theorem s_X11_sound_57 {ca : Nat → List Value → tM → tO} {M : tM} {L : tL} {v1 : Value} {r0 : Int32} {r1 : Int32} {r2 : Nat} {b : Nat} : rn ca C_X11_sound 57 L [v1, .ref b, .int r0, .int r1, .ref r2] M = if clsO b = some 11 then rnk ca C_X11_sound 60 L [.int r0, .int r1, .ref r2] (ca m_X11_length [.ref b, v1] M) else none := (rn_at k_X11_sound_57).trans rnx_ite
theorem k_X11_sound_60 : lk 60 C_X11_sound = some (.invokevirtual 210, (193, 3, 11, 777)) := by decide +kernel
theorem s_X11_sound_60 {ca : Nat → List Value → tM → tO} {M : tM} {L : tL} {v1 v2 v3 : Value} {b : Nat} : rn ca C_X11_sound 60 L [v3, v2, v1, .ref b] M = if clsO b = some 11 then rnk ca C_X11_sound 63 L [] (ca m_X11_nearer [.ref b, v1, v2, v3] M) else none := (rn_at k_X11_sound_60).trans rnx_ite
theorem k_X11_sound_63 : lk 63 C_X11_sound = some (.iinc 1 1, (0, 0, 0, 0)) := by decide +kernel
theorem s_X11_sound_63 {ca : Nat → List Value → tM → tO} {M : tM} {a0 : Option Value} {x : Int32} {S : List Value} : rn ca C_X11_sound 63 [a0, some (.int x)] S M = rn ca C_X11_sound 66 [a0, some (.int (x + iI 1))] S M := (rn_at k_X11_sound_63).trans rfl
theorem k_X11_sound_66 : lk 66 C_X11_sound = some (.goto (-60), (6, 0, 0, 0)) := by decide +kernel
theorem s_X11_sound_66 {ca : Nat → List Value → tM → tO} {M : tM} {L : tL} {S : List Value} : rn ca C_X11_sound 66 L S M = rn ca C_X11_sound 6 L S M := (rn_at k_X11_sound_66).trans rfl
theorem k_X11_sound_69 : lk 69 C_X11_sound = some (.aload_n 0, (0, 0, 0, 0)) := by decide +kernel
theorem s_X11_sound_69 {ca : Nat → List Value → tM → tO} {M : tM} {a1 : Option Value} {x : Nat} {S : List Value} : rn ca C_X11_sound 69 [some (.ref x), a1] S M = rn ca C_X11_sound 70 [some (.ref x), a1] (.ref x :: S) M := (rn_at k_X11_sound_69).trans rfl
theorem k_X11_sound_70 : lk 70 C_X11_sound = some (.invokevirtual 227, (194, 0, 11, 782)) := by decide +kernel
theorem s_X11_sound_70 {ca : Nat → List Value → tM → tO} {M : tM} {L : tL} {b : Nat} : rn ca C_X11_sound 70 L [.ref b] M = if clsO b = some 11 then rnk ca C_X11_sound 73 L [] (ca m_X11_close [.ref b] M) else none := (rn_at k_X11_sound_70).trans rnx_ite
theorem k_X11_sound_73 : lk 73 C_X11_sound = some (.return_, (0, 0, 0, 0)) := by decide +kernel
theorem s_X11_sound_73 {ca : Nat → List Value → tM → tO} {M : tM} {L : tL} : rn ca C_X11_sound 73 L [] M = some (none, M) := (rn_at k_X11_sound_73).trans rfl
theorem k_X11_heard_0 : lk 0 C_X11_heard = some (.aload_n 0, (0, 0, 0, 0)) := by decide +kernel
theorem s_X11_heard_0 {ca : Nat → List Value → tM → tO} {M : tM} {a1 a2 : Option Value} {x : Nat} {S : List Value} : rn ca C_X11_heard 0 [some (.ref x), a1, a2] S M = rn ca C_X11_heard 1 [some (.ref x), a1, a2] (.ref x :: S) M := (rn_at k_X11_heard_0).trans rfl
theorem k_X11_heard_1 : lk 1 C_X11_heard = some (.getfield 64, (11, 14, 0, 158)) := by decide +kernel
theorem s_X11_heard_1 {ca : Nat → List Value → tM → tO} {M : tM} {L : tL} {b : Nat} {S : List Value} : rn ca C_X11_heard 1 L (.ref b :: S) M = if clsO b = some 11 then rn ca C_X11_heard 4 L (fv M b 14 :: S) M else none := (rn_at k_X11_heard_1).trans rnx_ite
theorem k_X11_heard_4 : lk 4 C_X11_heard = some (.bipush 8, (0, 0, 0, 0)) := by decide +kernel
theorem s_X11_heard_4 {ca : Nat → List Value → tM → tO} {M : tM} {L : tL} {S : List Value} : rn ca C_X11_heard 4 L S M = rn ca C_X11_heard 6 L (.int (iI 8) :: S) M := (rn_at k_X11_heard_4).trans rfl
theorem k_X11_heard_6 : lk 6 C_X11_heard = some (.aload_n 0, (0, 0, 0, 0)) := by decide +kernel
theorem s_X11_heard_6 {ca : Nat → List Value → tM → tO} {M : tM} {a1 a2 : Option Value} {x : Nat} {S : List Value} : rn ca C_X11_heard 6 [some (.ref x), a1, a2] S M = rn ca C_X11_heard 7 [some (.ref x), a1, a2] (.ref x :: S) M := (rn_at k_X11_heard_6).trans rfl
theorem k_X11_heard_7 : lk 7 C_X11_heard = some (.iload_n 1, (0, 0, 0, 0)) := by decide +kernel
theorem s_X11_heard_7 {ca : Nat → List Value → tM → tO} {M : tM} {a0 a2 : Option Value} {x : Int32} {S : List Value} : rn ca C_X11_heard 7 [a0, some (.int x), a2] S M = rn ca C_X11_heard 8 [a0, some (.int x), a2] (.int x :: S) M := (rn_at k_X11_heard_7).trans rfl
theorem k_X11_heard_8 : lk 8 C_X11_heard = some (.invokevirtual 221, (150, 1, 11, 769)) := by decide +kernel
theorem s_X11_heard_8 {ca : Nat → List Value → tM → tO} {M : tM} {L : tL} {v1 : Value} {r0 : Int32} {r1 : Nat} {b : Nat} : rn ca C_X11_heard 8 L [v1, .ref b, .int r0, .ref r1] M = if clsO b = some 11 then rnk ca C_X11_heard 11 L [.int r0, .ref r1] (ca m_X11_from [.ref b, v1] M) else none := (rn_at k_X11_heard_8).trans rnx_ite
theorem k_X11_heard_11 : lk 11 C_X11_heard = some (.imul, (0, 0, 0, 0)) := by decide +kernel
theorem s_X11_heard_11 {ca : Nat → List Value → tM → tO} {M : tM} {L : tL} {x y : Int32} {S : List Value} : rn ca C_X11_heard 11 L (.int y :: .int x :: S) M = rn ca C_X11_heard 12 L (.int (x * y) :: S) M := (rn_at k_X11_heard_11).trans rfl
theorem k_X11_heard_12 : lk 12 C_X11_heard = some (.iload_n 2, (0, 0, 0, 0)) := by decide +kernel
theorem s_X11_heard_12 {ca : Nat → List Value → tM → tO} {M : tM} {a0 a1 : Option Value} {x : Int32} {S : List Value} : rn ca C_X11_heard 12 [a0, a1, some (.int x)] S M = rn ca C_X11_heard 13 [a0, a1, some (.int x)] (.int x :: S) M := (rn_at k_X11_heard_12).trans rfl
theorem k_X11_heard_13 : lk 13 C_X11_heard = some (.iadd, (0, 0, 0, 0)) := by decide +kernel
theorem s_X11_heard_13 {ca : Nat → List Value → tM → tO} {M : tM} {L : tL} {x y : Int32} {S : List Value} : rn ca C_X11_heard 13 L (.int y :: .int x :: S) M = rn ca C_X11_heard 14 L (.int (x + y) :: S) M := (rn_at k_X11_heard_13).trans rfl
theorem k_X11_heard_14 : lk 14 C_X11_heard = some (.iaload, (0, 0, 0, 0)) := by decide +kernel
theorem s_X11_heard_14 {ca : Nat → List Value → tM → tO} {M : tM} {L : tL} {a : Nat} {i : Int32} {S : List Value} : rn ca C_X11_heard 14 L (.int i :: .ref a :: S) M = if (akind a = 0 ∨ akind a = 6 ∨ akind a = 7) ∧ inb i (alen M a) then rn ca C_X11_heard 15 L (.int (M.1 a i.toInt.toNat) :: S) M else none := (rn_at k_X11_heard_14).trans rnx_ite
theorem k_X11_heard_15 : lk 15 C_X11_heard = some (.aload_n 0, (0, 0, 0, 0)) := by decide +kernel
theorem s_X11_heard_15 {ca : Nat → List Value → tM → tO} {M : tM} {a1 a2 : Option Value} {x : Nat} {S : List Value} : rn ca C_X11_heard 15 [some (.ref x), a1, a2] S M = rn ca C_X11_heard 16 [some (.ref x), a1, a2] (.ref x :: S) M := (rn_at k_X11_heard_15).trans rfl
theorem k_X11_heard_16 : lk 16 C_X11_heard = some (.getfield 64, (11, 14, 0, 158)) := by decide +kernel
theorem s_X11_heard_16 {ca : Nat → List Value → tM → tO} {M : tM} {L : tL} {b : Nat} {S : List Value} : rn ca C_X11_heard 16 L (.ref b :: S) M = if clsO b = some 11 then rn ca C_X11_heard 19 L (fv M b 14 :: S) M else none := (rn_at k_X11_heard_16).trans rnx_ite
theorem k_X11_heard_19 : lk 19 C_X11_heard = some (.bipush 8, (0, 0, 0, 0)) := by decide +kernel
theorem s_X11_heard_19 {ca : Nat → List Value → tM → tO} {M : tM} {L : tL} {S : List Value} : rn ca C_X11_heard 19 L S M = rn ca C_X11_heard 21 L (.int (iI 8) :: S) M := (rn_at k_X11_heard_19).trans rfl
theorem k_X11_heard_21 : lk 21 C_X11_heard = some (.aload_n 0, (0, 0, 0, 0)) := by decide +kernel
theorem s_X11_heard_21 {ca : Nat → List Value → tM → tO} {M : tM} {a1 a2 : Option Value} {x : Nat} {S : List Value} : rn ca C_X11_heard 21 [some (.ref x), a1, a2] S M = rn ca C_X11_heard 22 [some (.ref x), a1, a2] (.ref x :: S) M := (rn_at k_X11_heard_21).trans rfl
theorem k_X11_heard_22 : lk 22 C_X11_heard = some (.iload_n 1, (0, 0, 0, 0)) := by decide +kernel
theorem s_X11_heard_22 {ca : Nat → List Value → tM → tO} {M : tM} {a0 a2 : Option Value} {x : Int32} {S : List Value} : rn ca C_X11_heard 22 [a0, some (.int x), a2] S M = rn ca C_X11_heard 23 [a0, some (.int x), a2] (.int x :: S) M := (rn_at k_X11_heard_22).trans rfl
theorem k_X11_heard_23 : lk 23 C_X11_heard = some (.invokevirtual 224, (151, 1, 11, 773)) := by decide +kernel
theorem s_X11_heard_23 {ca : Nat → List Value → tM → tO} {M : tM} {L : tL} {v1 : Value} {r0 : Int32} {r1 : Nat} {r2 : Int32} {b : Nat} : rn ca C_X11_heard 23 L [v1, .ref b, .int r0, .ref r1, .int r2] M = if clsO b = some 11 then rnk ca C_X11_heard 26 L [.int r0, .ref r1, .int r2] (ca m_X11_to [.ref b, v1] M) else none := (rn_at k_X11_heard_23).trans rnx_ite
theorem k_X11_heard_26 : lk 26 C_X11_heard = some (.imul, (0, 0, 0, 0)) := by decide +kernel
theorem s_X11_heard_26 {ca : Nat → List Value → tM → tO} {M : tM} {L : tL} {x y : Int32} {S : List Value} : rn ca C_X11_heard 26 L (.int y :: .int x :: S) M = rn ca C_X11_heard 27 L (.int (x * y) :: S) M := (rn_at k_X11_heard_26).trans rfl
theorem k_X11_heard_27 : lk 27 C_X11_heard = some (.iload_n 2, (0, 0, 0, 0)) := by decide +kernel
theorem s_X11_heard_27 {ca : Nat → List Value → tM → tO} {M : tM} {a0 a1 : Option Value} {x : Int32} {S : List Value} : rn ca C_X11_heard 27 [a0, a1, some (.int x)] S M = rn ca C_X11_heard 28 [a0, a1, some (.int x)] (.int x :: S) M := (rn_at k_X11_heard_27).trans rfl
theorem k_X11_heard_28 : lk 28 C_X11_heard = some (.iadd, (0, 0, 0, 0)) := by decide +kernel
theorem s_X11_heard_28 {ca : Nat → List Value → tM → tO} {M : tM} {L : tL} {x y : Int32} {S : List Value} : rn ca C_X11_heard 28 L (.int y :: .int x :: S) M = rn ca C_X11_heard 29 L (.int (x + y) :: S) M := (rn_at k_X11_heard_28).trans rfl
theorem k_X11_heard_29 : lk 29 C_X11_heard = some (.iaload, (0, 0, 0, 0)) := by decide +kernel
theorem s_X11_heard_29 {ca : Nat → List Value → tM → tO} {M : tM} {L : tL} {a : Nat} {i : Int32} {S : List Value} : rn ca C_X11_heard 29 L (.int i :: .ref a :: S) M = if (akind a = 0 ∨ akind a = 6 ∨ akind a = 7) ∧ inb i (alen M a) then rn ca C_X11_heard 30 L (.int (M.1 a i.toInt.toNat) :: S) M else none := (rn_at k_X11_heard_29).trans rnx_ite
theorem k_X11_heard_30 : lk 30 C_X11_heard = some (.invokestatic 207, (0, 2, 3, 781)) := by decide +kernel
theorem s_X11_heard_30 {ca : Nat → List Value → tM → tO} {M : tM} {L : tL} {x y : Int32} : rn ca C_X11_heard 30 L [.int y, .int x] M = rn ca C_X11_heard 33 L [.int (mnI x y)] M := (rn_at k_X11_heard_30).trans rfl
theorem k_X11_heard_33 : lk 33 C_X11_heard = some (.ireturn, (0, 0, 0, 0)) := by decide +kernel
theorem s_X11_heard_33 {ca : Nat → List Value → tM → tO} {M : tM} {L : tL} {x : Int32} : rn ca C_X11_heard 33 L [.int x] M = some (some (.int x), M) := (rn_at k_X11_heard_33).trans rfl
theorem k_X11_knocks_0 : lk 0 C_X11_knocks = some (.aload_n 0, (0, 0, 0, 0)) := by decide +kernel
theorem s_X11_knocks_0 {ca : Nat → List Value → tM → tO} {M : tM} {a1 a2 a3 a4 : Option Value} {x : Nat} {S : List Value} : rn ca C_X11_knocks 0 [some (.ref x), a1, a2, a3, a4] S M = rn ca C_X11_knocks 1 [some (.ref x), a1, a2, a3, a4] (.ref x :: S) M := (rn_at k_X11_knocks_0).trans rfl
theorem k_X11_knocks_1 : lk 1 C_X11_knocks = some (.iload_n 1, (0, 0, 0, 0)) := by decide +kernel
theorem s_X11_knocks_1 {ca : Nat → List Value → tM → tO} {M : tM} {a0 a2 a3 a4 : Option Value} {x : Int32} {S : List Value} : rn ca C_X11_knocks 1 [a0, some (.int x), a2, a3, a4] S M = rn ca C_X11_knocks 2 [a0, some (.int x), a2, a3, a4] (.int x :: S) M := (rn_at k_X11_knocks_1).trans rfl
theorem k_X11_knocks_2 : lk 2 C_X11_knocks = some (.invokevirtual 126, (172, 1, 11, 236)) := by decide +kernel
theorem s_X11_knocks_2 {ca : Nat → List Value → tM → tO} {M : tM} {L : tL} {v1 : Value} {b : Nat} : rn ca C_X11_knocks 2 L [v1, .ref b] M = if clsO b = some 11 then rnk ca C_X11_knocks 5 L [] (ca m_X11_rowIn [.ref b, v1] M) else none := (rn_at k_X11_knocks_2).trans rnx_ite
theorem k_X11_knocks_5 : lk 5 C_X11_knocks = some (.ifCond .ge 9, (14, 0, 0, 0)) := by decide +kernel
theorem s_X11_knocks_5 {ca : Nat → List Value → tM → tO} {M : tM} {L : tL} {x : Int32} {S : List Value} : rn ca C_X11_knocks 5 L (.int x :: S) M = if iI 0 ≤ x then rn ca C_X11_knocks 14 L S M else rn ca C_X11_knocks 8 L S M := (rn_at k_X11_knocks_5).trans rnx_ite
theorem k_X11_knocks_8 : lk 8 C_X11_knocks = some (.aload_n 0, (0, 0, 0, 0)) := by decide +kernel
theorem s_X11_knocks_8 {ca : Nat → List Value → tM → tO} {M : tM} {a1 a2 a3 a4 : Option Value} {x : Nat} {S : List Value} : rn ca C_X11_knocks 8 [some (.ref x), a1, a2, a3, a4] S M = rn ca C_X11_knocks 9 [some (.ref x), a1, a2, a3, a4] (.ref x :: S) M := (rn_at k_X11_knocks_8).trans rfl
theorem k_X11_knocks_9 : lk 9 C_X11_knocks = some (.iload_n 1, (0, 0, 0, 0)) := by decide +kernel
theorem s_X11_knocks_9 {ca : Nat → List Value → tM → tO} {M : tM} {a0 a2 a3 a4 : Option Value} {x : Int32} {S : List Value} : rn ca C_X11_knocks 9 [a0, some (.int x), a2, a3, a4] S M = rn ca C_X11_knocks 10 [a0, some (.int x), a2, a3, a4] (.int x :: S) M := (rn_at k_X11_knocks_9).trans rfl
theorem k_X11_knocks_10 : lk 10 C_X11_knocks = some (.invokevirtual 126, (172, 1, 11, 236)) := by decide +kernel
theorem s_X11_knocks_10 {ca : Nat → List Value → tM → tO} {M : tM} {L : tL} {v1 : Value} {b : Nat} : rn ca C_X11_knocks 10 L [v1, .ref b] M = if clsO b = some 11 then rnk ca C_X11_knocks 13 L [] (ca m_X11_rowIn [.ref b, v1] M) else none := (rn_at k_X11_knocks_10).trans rnx_ite
theorem k_X11_knocks_13 : lk 13 C_X11_knocks = some (.ireturn, (0, 0, 0, 0)) := by decide +kernel
theorem s_X11_knocks_13 {ca : Nat → List Value → tM → tO} {M : tM} {L : tL} {x : Int32} : rn ca C_X11_knocks 13 L [.int x] M = some (some (.int x), M) := (rn_at k_X11_knocks_13).trans rfl
theorem k_X11_knocks_14 : lk 14 C_X11_knocks = some (.iload_n 2, (0, 0, 0, 0)) := by decide +kernel
theorem s_X11_knocks_14 {ca : Nat → List Value → tM → tO} {M : tM} {a0 a1 a3 a4 : Option Value} {x : Int32} {S : List Value} : rn ca C_X11_knocks 14 [a0, a1, some (.int x), a3, a4] S M = rn ca C_X11_knocks 15 [a0, a1, some (.int x), a3, a4] (.int x :: S) M := (rn_at k_X11_knocks_14).trans rfl
theorem k_X11_knocks_15 : lk 15 C_X11_knocks = some (.ifCond .ge 6, (21, 0, 0, 0)) := by decide +kernel
theorem s_X11_knocks_15 {ca : Nat → List Value → tM → tO} {M : tM} {L : tL} {x : Int32} {S : List Value} : rn ca C_X11_knocks 15 L (.int x :: S) M = if iI 0 ≤ x then rn ca C_X11_knocks 21 L S M else rn ca C_X11_knocks 18 L S M := (rn_at k_X11_knocks_15).trans rnx_ite
theorem k_X11_knocks_18 : lk 18 C_X11_knocks = some (.bipush (-4), (0, 0, 0, 0)) := by decide +kernel
theorem s_X11_knocks_18 {ca : Nat → List Value → tM → tO} {M : tM} {L : tL} {S : List Value} : rn ca C_X11_knocks 18 L S M = rn ca C_X11_knocks 20 L (.int (iI (-4)) :: S) M := (rn_at k_X11_knocks_18).trans rfl
theorem k_X11_knocks_20 : lk 20 C_X11_knocks = some (.ireturn, (0, 0, 0, 0)) := by decide +kernel
theorem s_X11_knocks_20 {ca : Nat → List Value → tM → tO} {M : tM} {L : tL} {x : Int32} : rn ca C_X11_knocks 20 L [.int x] M = some (some (.int x), M) := (rn_at k_X11_knocks_20).trans rfl
theorem k_X11_knocks_21 : lk 21 C_X11_knocks = some (.iload_n 2, (0, 0, 0, 0)) := by decide +kernel
theorem s_X11_knocks_21 {ca : Nat → List Value → tM → tO} {M : tM} {a0 a1 a3 a4 : Option Value} {x : Int32} {S : List Value} : rn ca C_X11_knocks 21 [a0, a1, some (.int x), a3, a4] S M = rn ca C_X11_knocks 22 [a0, a1, some (.int x), a3, a4] (.int x :: S) M := (rn_at k_X11_knocks_21).trans rfl
theorem k_X11_knocks_22 : lk 22 C_X11_knocks = some (.aload_n 0, (0, 0, 0, 0)) := by decide +kernel
theorem s_X11_knocks_22 {ca : Nat → List Value → tM → tO} {M : tM} {a1 a2 a3 a4 : Option Value} {x : Nat} {S : List Value} : rn ca C_X11_knocks 22 [some (.ref x), a1, a2, a3, a4] S M = rn ca C_X11_knocks 23 [some (.ref x), a1, a2, a3, a4] (.ref x :: S) M := (rn_at k_X11_knocks_22).trans rfl
theorem k_X11_knocks_23 : lk 23 C_X11_knocks = some (.getfield 29, (11, 6, 0, 151)) := by decide +kernel
theorem s_X11_knocks_23 {ca : Nat → List Value → tM → tO} {M : tM} {L : tL} {b : Nat} {S : List Value} : rn ca C_X11_knocks 23 L (.ref b :: S) M = if clsO b = some 11 then rn ca C_X11_knocks 26 L (fv M b 6 :: S) M else none := (rn_at k_X11_knocks_23).trans rnx_ite
theorem k_X11_knocks_26 : lk 26 C_X11_knocks = some (.iload_n 1, (0, 0, 0, 0)) := by decide +kernel
theorem s_X11_knocks_26 {ca : Nat → List Value → tM → tO} {M : tM} {a0 a2 a3 a4 : Option Value} {x : Int32} {S : List Value} : rn ca C_X11_knocks 26 [a0, some (.int x), a2, a3, a4] S M = rn ca C_X11_knocks 27 [a0, some (.int x), a2, a3, a4] (.int x :: S) M := (rn_at k_X11_knocks_26).trans rfl
theorem k_X11_knocks_27 : lk 27 C_X11_knocks = some (.iaload, (0, 0, 0, 0)) := by decide +kernel
theorem s_X11_knocks_27 {ca : Nat → List Value → tM → tO} {M : tM} {L : tL} {a : Nat} {i : Int32} {S : List Value} : rn ca C_X11_knocks 27 L (.int i :: .ref a :: S) M = if (akind a = 0 ∨ akind a = 6 ∨ akind a = 7) ∧ inb i (alen M a) then rn ca C_X11_knocks 28 L (.int (M.1 a i.toInt.toNat) :: S) M else none := (rn_at k_X11_knocks_27).trans rnx_ite
theorem k_X11_knocks_28 : lk 28 C_X11_knocks = some (.iconst 2, (0, 0, 0, 0)) := by decide +kernel
theorem s_X11_knocks_28 {ca : Nat → List Value → tM → tO} {M : tM} {L : tL} {S : List Value} : rn ca C_X11_knocks 28 L S M = rn ca C_X11_knocks 29 L (.int (iI 2) :: S) M := (rn_at k_X11_knocks_28).trans rfl
theorem k_X11_knocks_29 : lk 29 C_X11_knocks = some (.idiv, (0, 0, 0, 0)) := by decide +kernel
theorem s_X11_knocks_29 {ca : Nat → List Value → tM → tO} {M : tM} {L : tL} {x y : Int32} {S : List Value} : rn ca C_X11_knocks 29 L (.int y :: .int x :: S) M = if y = iI 0 then none else rn ca C_X11_knocks 30 L (.int (x / y) :: S) M := (rn_at k_X11_knocks_29).trans rnx_ite
theorem k_X11_knocks_30 : lk 30 C_X11_knocks = some (.if_icmp .le 6, (36, 0, 0, 0)) := by decide +kernel
theorem s_X11_knocks_30 {ca : Nat → List Value → tM → tO} {M : tM} {L : tL} {x y : Int32} {S : List Value} : rn ca C_X11_knocks 30 L (.int y :: .int x :: S) M = if x ≤ y then rn ca C_X11_knocks 36 L S M else rn ca C_X11_knocks 33 L S M := (rn_at k_X11_knocks_30).trans rnx_ite
theorem k_X11_knocks_33 : lk 33 C_X11_knocks = some (.bipush (-5), (0, 0, 0, 0)) := by decide +kernel
theorem s_X11_knocks_33 {ca : Nat → List Value → tM → tO} {M : tM} {L : tL} {S : List Value} : rn ca C_X11_knocks 33 L S M = rn ca C_X11_knocks 35 L (.int (iI (-5)) :: S) M := (rn_at k_X11_knocks_33).trans rfl
theorem k_X11_knocks_35 : lk 35 C_X11_knocks = some (.ireturn, (0, 0, 0, 0)) := by decide +kernel
theorem s_X11_knocks_35 {ca : Nat → List Value → tM → tO} {M : tM} {L : tL} {x : Int32} : rn ca C_X11_knocks 35 L [.int x] M = some (some (.int x), M) := (rn_at k_X11_knocks_35).trans rfl
theorem k_X11_knocks_36 : lk 36 C_X11_knocks = some (.iload_n 2, (0, 0, 0, 0)) := by decide +kernel
theorem s_X11_knocks_36 {ca : Nat → List Value → tM → tO} {M : tM} {a0 a1 a3 a4 : Option Value} {x : Int32} {S : List Value} : rn ca C_X11_knocks 36 [a0, a1, some (.int x), a3, a4] S M = rn ca C_X11_knocks 37 [a0, a1, some (.int x), a3, a4] (.int x :: S) M := (rn_at k_X11_knocks_36).trans rfl
theorem k_X11_knocks_37 : lk 37 C_X11_knocks = some (.i2l, (0, 0, 0, 0)) := by decide +kernel
theorem s_X11_knocks_37 {ca : Nat → List Value → tM → tO} {M : tM} {L : tL} {x : Int32} {S : List Value} : rn ca C_X11_knocks 37 L (.int x :: S) M = rn ca C_X11_knocks 38 L (.long x.toInt64 :: S) M := (rn_at k_X11_knocks_37).trans rfl
theorem k_X11_knocks_38 : lk 38 C_X11_knocks = some (.lconst 1, (0, 0, 0, 0)) := by decide +kernel
theorem s_X11_knocks_38 {ca : Nat → List Value → tM → tO} {M : tM} {L : tL} {S : List Value} : rn ca C_X11_knocks 38 L S M = rn ca C_X11_knocks 39 L (.long (jJ 1) :: S) M := (rn_at k_X11_knocks_38).trans rfl
theorem k_X11_knocks_39 : lk 39 C_X11_knocks = some (.ldc2_w 271, (0, 0, 8, 979)) := by decide +kernel
theorem s_X11_knocks_39 {ca : Nat → List Value → tM → tO} {M : tM} {L : tL} {S : List Value} : rn ca C_X11_knocks 39 L S M = rn ca C_X11_knocks 42 L (.long (jJ 8) :: S) M := (rn_at k_X11_knocks_39).trans rfl
theorem k_X11_knocks_42 : lk 42 C_X11_knocks = some (.invokestatic 87, (143, 3, 0, 197)) := by decide +kernel
theorem s_X11_knocks_42 {ca : Nat → List Value → tM → tO} {M : tM} {L : tL} {v1 v2 v3 : Value} : rn ca C_X11_knocks 42 L [v3, v2, v1] M = rnk ca C_X11_knocks 45 L [] (ca m_X11_isIn [v1, v2, v3] M) := (rn_at k_X11_knocks_42).trans rfl
theorem k_X11_knocks_45 : lk 45 C_X11_knocks = some (.istore_n 3, (0, 0, 0, 0)) := by decide +kernel
theorem s_X11_knocks_45 {ca : Nat → List Value → tM → tO} {M : tM} {a0 a1 a2 a3 a4 : Option Value} {x : Int32} {S : List Value} : rn ca C_X11_knocks 45 [a0, a1, a2, a3, a4] (.int x :: S) M = rn ca C_X11_knocks 46 [a0, a1, a2, some (.int x), a4] S M := (rn_at k_X11_knocks_45).trans rfl
theorem k_X11_knocks_46 : lk 46 C_X11_knocks = some (.iconst 0, (0, 0, 0, 0)) := by decide +kernel
theorem s_X11_knocks_46 {ca : Nat → List Value → tM → tO} {M : tM} {L : tL} {S : List Value} : rn ca C_X11_knocks 46 L S M = rn ca C_X11_knocks 47 L (.int (iI 0) :: S) M := (rn_at k_X11_knocks_46).trans rfl
theorem k_X11_knocks_47 : lk 47 C_X11_knocks = some (.istore 4, (0, 0, 0, 0)) := by decide +kernel
theorem s_X11_knocks_47 {ca : Nat → List Value → tM → tO} {M : tM} {a0 a1 a2 a3 a4 : Option Value} {x : Int32} {S : List Value} : rn ca C_X11_knocks 47 [a0, a1, a2, a3, a4] (.int x :: S) M = rn ca C_X11_knocks 49 [a0, a1, a2, a3, some (.int x)] S M := (rn_at k_X11_knocks_47).trans rfl
theorem k_X11_knocks_49 : lk 49 C_X11_knocks = some (.iload 4, (0, 0, 0, 0)) := by decide +kernel
theorem s_X11_knocks_49 {ca : Nat → List Value → tM → tO} {M : tM} {a0 a1 a2 a3 : Option Value} {x : Int32} {S : List Value} : rn ca C_X11_knocks 49 [a0, a1, a2, a3, some (.int x)] S M = rn ca C_X11_knocks 51 [a0, a1, a2, a3, some (.int x)] (.int x :: S) M := (rn_at k_X11_knocks_49).trans rfl
theorem k_X11_knocks_51 : lk 51 C_X11_knocks = some (.iload_n 2, (0, 0, 0, 0)) := by decide +kernel
theorem s_X11_knocks_51 {ca : Nat → List Value → tM → tO} {M : tM} {a0 a1 a3 a4 : Option Value} {x : Int32} {S : List Value} : rn ca C_X11_knocks 51 [a0, a1, some (.int x), a3, a4] S M = rn ca C_X11_knocks 52 [a0, a1, some (.int x), a3, a4] (.int x :: S) M := (rn_at k_X11_knocks_51).trans rfl
theorem k_X11_knocks_52 : lk 52 C_X11_knocks = some (.if_icmp .ge 58, (110, 0, 0, 0)) := by decide +kernel
theorem s_X11_knocks_52 {ca : Nat → List Value → tM → tO} {M : tM} {L : tL} {x y : Int32} {S : List Value} : rn ca C_X11_knocks 52 L (.int y :: .int x :: S) M = if y ≤ x then rn ca C_X11_knocks 110 L S M else rn ca C_X11_knocks 55 L S M := (rn_at k_X11_knocks_52).trans rnx_ite
theorem k_X11_knocks_55 : lk 55 C_X11_knocks = some (.iload_n 3, (0, 0, 0, 0)) := by decide +kernel
theorem s_X11_knocks_55 {ca : Nat → List Value → tM → tO} {M : tM} {a0 a1 a2 a4 : Option Value} {x : Int32} {S : List Value} : rn ca C_X11_knocks 55 [a0, a1, a2, some (.int x), a4] S M = rn ca C_X11_knocks 56 [a0, a1, a2, some (.int x), a4] (.int x :: S) M := (rn_at k_X11_knocks_55).trans rfl
theorem k_X11_knocks_56 : lk 56 C_X11_knocks = some (.ifCond .eq 54, (110, 0, 0, 0)) := by decide +kernel
theorem s_X11_knocks_56 {ca : Nat → List Value → tM → tO} {M : tM} {L : tL} {x : Int32} {S : List Value} : rn ca C_X11_knocks 56 L (.int x :: S) M = if x = iI 0 then rn ca C_X11_knocks 110 L S M else rn ca C_X11_knocks 59 L S M := (rn_at k_X11_knocks_56).trans rnx_ite
theorem k_X11_knocks_59 : lk 59 C_X11_knocks = some (.aload_n 0, (0, 0, 0, 0)) := by decide +kernel
theorem s_X11_knocks_59 {ca : Nat → List Value → tM → tO} {M : tM} {a1 a2 a3 a4 : Option Value} {x : Nat} {S : List Value} : rn ca C_X11_knocks 59 [some (.ref x), a1, a2, a3, a4] S M = rn ca C_X11_knocks 60 [some (.ref x), a1, a2, a3, a4] (.ref x :: S) M := (rn_at k_X11_knocks_59).trans rfl
theorem k_X11_knocks_60 : lk 60 C_X11_knocks = some (.aload_n 0, (0, 0, 0, 0)) := by decide +kernel
theorem s_X11_knocks_60 {ca : Nat → List Value → tM → tO} {M : tM} {a1 a2 a3 a4 : Option Value} {x : Nat} {S : List Value} : rn ca C_X11_knocks 60 [some (.ref x), a1, a2, a3, a4] S M = rn ca C_X11_knocks 61 [some (.ref x), a1, a2, a3, a4] (.ref x :: S) M := (rn_at k_X11_knocks_60).trans rfl
theorem k_X11_knocks_61 : lk 61 C_X11_knocks = some (.iload_n 1, (0, 0, 0, 0)) := by decide +kernel
theorem s_X11_knocks_61 {ca : Nat → List Value → tM → tO} {M : tM} {a0 a2 a3 a4 : Option Value} {x : Int32} {S : List Value} : rn ca C_X11_knocks 61 [a0, some (.int x), a2, a3, a4] S M = rn ca C_X11_knocks 62 [a0, some (.int x), a2, a3, a4] (.int x :: S) M := (rn_at k_X11_knocks_61).trans rfl
theorem k_X11_knocks_62 : lk 62 C_X11_knocks = some (.iconst 2, (0, 0, 0, 0)) := by decide +kernel
theorem s_X11_knocks_62 {ca : Nat → List Value → tM → tO} {M : tM} {L : tL} {S : List Value} : rn ca C_X11_knocks 62 L S M = rn ca C_X11_knocks 63 L (.int (iI 2) :: S) M := (rn_at k_X11_knocks_62).trans rfl
theorem k_X11_knocks_63 : lk 63 C_X11_knocks = some (.iload 4, (0, 0, 0, 0)) := by decide +kernel
theorem s_X11_knocks_63 {ca : Nat → List Value → tM → tO} {M : tM} {a0 a1 a2 a3 : Option Value} {x : Int32} {S : List Value} : rn ca C_X11_knocks 63 [a0, a1, a2, a3, some (.int x)] S M = rn ca C_X11_knocks 65 [a0, a1, a2, a3, some (.int x)] (.int x :: S) M := (rn_at k_X11_knocks_63).trans rfl
theorem k_X11_knocks_65 : lk 65 C_X11_knocks = some (.imul, (0, 0, 0, 0)) := by decide +kernel
theorem s_X11_knocks_65 {ca : Nat → List Value → tM → tO} {M : tM} {L : tL} {x y : Int32} {S : List Value} : rn ca C_X11_knocks 65 L (.int y :: .int x :: S) M = rn ca C_X11_knocks 66 L (.int (x * y) :: S) M := (rn_at k_X11_knocks_65).trans rfl
theorem k_X11_knocks_66 : lk 66 C_X11_knocks = some (.invokevirtual 152, (177, 2, 11, 632)) := by decide +kernel
theorem s_X11_knocks_66 {ca : Nat → List Value → tM → tO} {M : tM} {L : tL} {v1 v2 : Value} {r0 : Nat} {b : Nat} : rn ca C_X11_knocks 66 L [v2, v1, .ref b, .ref r0] M = if clsO b = some 11 then rnk ca C_X11_knocks 69 L [.ref r0] (ca m_X11_told [.ref b, v1, v2] M) else none := (rn_at k_X11_knocks_66).trans rnx_ite
theorem k_X11_knocks_69 : lk 69 C_X11_knocks = some (.i2l, (0, 0, 0, 0)) := by decide +kernel
theorem s_X11_knocks_69 {ca : Nat → List Value → tM → tO} {M : tM} {L : tL} {x : Int32} {S : List Value} : rn ca C_X11_knocks 69 L (.int x :: S) M = rn ca C_X11_knocks 70 L (.long x.toInt64 :: S) M := (rn_at k_X11_knocks_69).trans rfl
theorem k_X11_knocks_70 : lk 70 C_X11_knocks = some (.invokevirtual 95, (147, 1, 11, 397)) := by decide +kernel
theorem s_X11_knocks_70 {ca : Nat → List Value → tM → tO} {M : tM} {L : tL} {v1 : Value} {b : Nat} : rn ca C_X11_knocks 70 L [v1, .ref b] M = if clsO b = some 11 then rnk ca C_X11_knocks 73 L [] (ca m_X11_isDesk [.ref b, v1] M) else none := (rn_at k_X11_knocks_70).trans rnx_ite
theorem k_X11_knocks_73 : lk 73 C_X11_knocks = some (.ifCond .eq 29, (102, 0, 0, 0)) := by decide +kernel
theorem s_X11_knocks_73 {ca : Nat → List Value → tM → tO} {M : tM} {L : tL} {x : Int32} {S : List Value} : rn ca C_X11_knocks 73 L (.int x :: S) M = if x = iI 0 then rn ca C_X11_knocks 102 L S M else rn ca C_X11_knocks 76 L S M := (rn_at k_X11_knocks_73).trans rnx_ite
theorem k_X11_knocks_76 : lk 76 C_X11_knocks = some (.aload_n 0, (0, 0, 0, 0)) := by decide +kernel
theorem s_X11_knocks_76 {ca : Nat → List Value → tM → tO} {M : tM} {a1 a2 a3 a4 : Option Value} {x : Nat} {S : List Value} : rn ca C_X11_knocks 76 [some (.ref x), a1, a2, a3, a4] S M = rn ca C_X11_knocks 77 [some (.ref x), a1, a2, a3, a4] (.ref x :: S) M := (rn_at k_X11_knocks_76).trans rfl
theorem k_X11_knocks_77 : lk 77 C_X11_knocks = some (.iload_n 1, (0, 0, 0, 0)) := by decide +kernel
theorem s_X11_knocks_77 {ca : Nat → List Value → tM → tO} {M : tM} {a0 a2 a3 a4 : Option Value} {x : Int32} {S : List Value} : rn ca C_X11_knocks 77 [a0, some (.int x), a2, a3, a4] S M = rn ca C_X11_knocks 78 [a0, some (.int x), a2, a3, a4] (.int x :: S) M := (rn_at k_X11_knocks_77).trans rfl
theorem k_X11_knocks_78 : lk 78 C_X11_knocks = some (.iconst 2, (0, 0, 0, 0)) := by decide +kernel
theorem s_X11_knocks_78 {ca : Nat → List Value → tM → tO} {M : tM} {L : tL} {S : List Value} : rn ca C_X11_knocks 78 L S M = rn ca C_X11_knocks 79 L (.int (iI 2) :: S) M := (rn_at k_X11_knocks_78).trans rfl
theorem k_X11_knocks_79 : lk 79 C_X11_knocks = some (.iload 4, (0, 0, 0, 0)) := by decide +kernel
theorem s_X11_knocks_79 {ca : Nat → List Value → tM → tO} {M : tM} {a0 a1 a2 a3 : Option Value} {x : Int32} {S : List Value} : rn ca C_X11_knocks 79 [a0, a1, a2, a3, some (.int x)] S M = rn ca C_X11_knocks 81 [a0, a1, a2, a3, some (.int x)] (.int x :: S) M := (rn_at k_X11_knocks_79).trans rfl
theorem k_X11_knocks_81 : lk 81 C_X11_knocks = some (.imul, (0, 0, 0, 0)) := by decide +kernel
theorem s_X11_knocks_81 {ca : Nat → List Value → tM → tO} {M : tM} {L : tL} {x y : Int32} {S : List Value} : rn ca C_X11_knocks 81 L (.int y :: .int x :: S) M = rn ca C_X11_knocks 82 L (.int (x * y) :: S) M := (rn_at k_X11_knocks_81).trans rfl
theorem k_X11_knocks_82 : lk 82 C_X11_knocks = some (.iconst 1, (0, 0, 0, 0)) := by decide +kernel
theorem s_X11_knocks_82 {ca : Nat → List Value → tM → tO} {M : tM} {L : tL} {S : List Value} : rn ca C_X11_knocks 82 L S M = rn ca C_X11_knocks 83 L (.int (iI 1) :: S) M := (rn_at k_X11_knocks_82).trans rfl
theorem k_X11_knocks_83 : lk 83 C_X11_knocks = some (.iadd, (0, 0, 0, 0)) := by decide +kernel
theorem s_X11_knocks_83 {ca : Nat → List Value → tM → tO} {M : tM} {L : tL} {x y : Int32} {S : List Value} : rn ca C_X11_knocks 83 L (.int y :: .int x :: S) M = rn ca C_X11_knocks 84 L (.int (x + y) :: S) M := (rn_at k_X11_knocks_83).trans rfl
theorem k_X11_knocks_84 : lk 84 C_X11_knocks = some (.invokevirtual 152, (177, 2, 11, 632)) := by decide +kernel
theorem s_X11_knocks_84 {ca : Nat → List Value → tM → tO} {M : tM} {L : tL} {v1 v2 : Value} {b : Nat} : rn ca C_X11_knocks 84 L [v2, v1, .ref b] M = if clsO b = some 11 then rnk ca C_X11_knocks 87 L [] (ca m_X11_told [.ref b, v1, v2] M) else none := (rn_at k_X11_knocks_84).trans rnx_ite
theorem k_X11_knocks_87 : lk 87 C_X11_knocks = some (.i2l, (0, 0, 0, 0)) := by decide +kernel
theorem s_X11_knocks_87 {ca : Nat → List Value → tM → tO} {M : tM} {L : tL} {x : Int32} {S : List Value} : rn ca C_X11_knocks 87 L (.int x :: S) M = rn ca C_X11_knocks 88 L (.long x.toInt64 :: S) M := (rn_at k_X11_knocks_87).trans rfl
theorem k_X11_knocks_88 : lk 88 C_X11_knocks = some (.lconst 0, (0, 0, 0, 0)) := by decide +kernel
theorem s_X11_knocks_88 {ca : Nat → List Value → tM → tO} {M : tM} {L : tL} {S : List Value} : rn ca C_X11_knocks 88 L S M = rn ca C_X11_knocks 89 L (.long (jJ 0) :: S) M := (rn_at k_X11_knocks_88).trans rfl
theorem k_X11_knocks_89 : lk 89 C_X11_knocks = some (.ldc2_w 273, (0, 0, 999, 980)) := by decide +kernel
theorem s_X11_knocks_89 {ca : Nat → List Value → tM → tO} {M : tM} {L : tL} {S : List Value} : rn ca C_X11_knocks 89 L S M = rn ca C_X11_knocks 92 L (.long (jJ 999) :: S) M := (rn_at k_X11_knocks_89).trans rfl
theorem k_X11_knocks_92 : lk 92 C_X11_knocks = some (.invokestatic 87, (143, 3, 0, 197)) := by decide +kernel
theorem s_X11_knocks_92 {ca : Nat → List Value → tM → tO} {M : tM} {L : tL} {v1 v2 v3 : Value} : rn ca C_X11_knocks 92 L [v3, v2, v1] M = rnk ca C_X11_knocks 95 L [] (ca m_X11_isIn [v1, v2, v3] M) := (rn_at k_X11_knocks_92).trans rfl
theorem k_X11_knocks_95 : lk 95 C_X11_knocks = some (.ifCond .eq 7, (102, 0, 0, 0)) := by decide +kernel
theorem s_X11_knocks_95 {ca : Nat → List Value → tM → tO} {M : tM} {L : tL} {x : Int32} {S : List Value} : rn ca C_X11_knocks 95 L (.int x :: S) M = if x = iI 0 then rn ca C_X11_knocks 102 L S M else rn ca C_X11_knocks 98 L S M := (rn_at k_X11_knocks_95).trans rnx_ite
theorem k_X11_knocks_98 : lk 98 C_X11_knocks = some (.iconst 1, (0, 0, 0, 0)) := by decide +kernel
theorem s_X11_knocks_98 {ca : Nat → List Value → tM → tO} {M : tM} {L : tL} {S : List Value} : rn ca C_X11_knocks 98 L S M = rn ca C_X11_knocks 99 L (.int (iI 1) :: S) M := (rn_at k_X11_knocks_98).trans rfl
theorem k_X11_knocks_99 : lk 99 C_X11_knocks = some (.goto 4, (103, 0, 0, 0)) := by decide +kernel
theorem s_X11_knocks_99 {ca : Nat → List Value → tM → tO} {M : tM} {L : tL} {S : List Value} : rn ca C_X11_knocks 99 L S M = rn ca C_X11_knocks 103 L S M := (rn_at k_X11_knocks_99).trans rfl
theorem k_X11_knocks_102 : lk 102 C_X11_knocks = some (.iconst 0, (0, 0, 0, 0)) := by decide +kernel
theorem s_X11_knocks_102 {ca : Nat → List Value → tM → tO} {M : tM} {L : tL} {S : List Value} : rn ca C_X11_knocks 102 L S M = rn ca C_X11_knocks 103 L (.int (iI 0) :: S) M := (rn_at k_X11_knocks_102).trans rfl
theorem k_X11_knocks_103 : lk 103 C_X11_knocks = some (.istore_n 3, (0, 0, 0, 0)) := by decide +kernel
theorem s_X11_knocks_103 {ca : Nat → List Value → tM → tO} {M : tM} {a0 a1 a2 a3 a4 : Option Value} {x : Int32} {S : List Value} : rn ca C_X11_knocks 103 [a0, a1, a2, a3, a4] (.int x :: S) M = rn ca C_X11_knocks 104 [a0, a1, a2, some (.int x), a4] S M := (rn_at k_X11_knocks_103).trans rfl
theorem k_X11_knocks_104 : lk 104 C_X11_knocks = some (.iinc 4 1, (0, 0, 0, 0)) := by decide +kernel
theorem s_X11_knocks_104 {ca : Nat → List Value → tM → tO} {M : tM} {a0 a1 a2 a3 : Option Value} {x : Int32} {S : List Value} : rn ca C_X11_knocks 104 [a0, a1, a2, a3, some (.int x)] S M = rn ca C_X11_knocks 107 [a0, a1, a2, a3, some (.int (x + iI 1))] S M := (rn_at k_X11_knocks_104).trans rfl
theorem k_X11_knocks_107 : lk 107 C_X11_knocks = some (.goto (-58), (49, 0, 0, 0)) := by decide +kernel
theorem s_X11_knocks_107 {ca : Nat → List Value → tM → tO} {M : tM} {L : tL} {S : List Value} : rn ca C_X11_knocks 107 L S M = rn ca C_X11_knocks 49 L S M := (rn_at k_X11_knocks_107).trans rfl
theorem k_X11_knocks_110 : lk 110 C_X11_knocks = some (.iload_n 3, (0, 0, 0, 0)) := by decide +kernel
theorem s_X11_knocks_110 {ca : Nat → List Value → tM → tO} {M : tM} {a0 a1 a2 a4 : Option Value} {x : Int32} {S : List Value} : rn ca C_X11_knocks 110 [a0, a1, a2, some (.int x), a4] S M = rn ca C_X11_knocks 111 [a0, a1, a2, some (.int x), a4] (.int x :: S) M := (rn_at k_X11_knocks_110).trans rfl
theorem k_X11_knocks_111 : lk 111 C_X11_knocks = some (.ifCond .eq 7, (118, 0, 0, 0)) := by decide +kernel
theorem s_X11_knocks_111 {ca : Nat → List Value → tM → tO} {M : tM} {L : tL} {x : Int32} {S : List Value} : rn ca C_X11_knocks 111 L (.int x :: S) M = if x = iI 0 then rn ca C_X11_knocks 118 L S M else rn ca C_X11_knocks 114 L S M := (rn_at k_X11_knocks_111).trans rnx_ite
theorem k_X11_knocks_114 : lk 114 C_X11_knocks = some (.iconst 1, (0, 0, 0, 0)) := by decide +kernel
theorem s_X11_knocks_114 {ca : Nat → List Value → tM → tO} {M : tM} {L : tL} {S : List Value} : rn ca C_X11_knocks 114 L S M = rn ca C_X11_knocks 115 L (.int (iI 1) :: S) M := (rn_at k_X11_knocks_114).trans rfl
theorem k_X11_knocks_115 : lk 115 C_X11_knocks = some (.goto 5, (120, 0, 0, 0)) := by decide +kernel
theorem s_X11_knocks_115 {ca : Nat → List Value → tM → tO} {M : tM} {L : tL} {S : List Value} : rn ca C_X11_knocks 115 L S M = rn ca C_X11_knocks 120 L S M := (rn_at k_X11_knocks_115).trans rfl
theorem k_X11_knocks_118 : lk 118 C_X11_knocks = some (.bipush (-6), (0, 0, 0, 0)) := by decide +kernel
theorem s_X11_knocks_118 {ca : Nat → List Value → tM → tO} {M : tM} {L : tL} {S : List Value} : rn ca C_X11_knocks 118 L S M = rn ca C_X11_knocks 120 L (.int (iI (-6)) :: S) M := (rn_at k_X11_knocks_118).trans rfl
theorem k_X11_knocks_120 : lk 120 C_X11_knocks = some (.ireturn, (0, 0, 0, 0)) := by decide +kernel
theorem s_X11_knocks_120 {ca : Nat → List Value → tM → tO} {M : tM} {L : tL} {x : Int32} : rn ca C_X11_knocks 120 L [.int x] M = some (some (.int x), M) := (rn_at k_X11_knocks_120).trans rfl
theorem k_X11_fit_0 : lk 0 C_X11_fit = some (.aload_n 0, (0, 0, 0, 0)) := by decide +kernel
theorem s_X11_fit_0 {ca : Nat → List Value → tM → tO} {M : tM} {a1 a2 a3 a4 a5 a6 a7 a8 : Option Value} {x : Nat} {S : List Value} : rn ca C_X11_fit 0 [some (.ref x), a1, a2, a3, a4, a5, a6, a7, a8] S M = rn ca C_X11_fit 1 [some (.ref x), a1, a2, a3, a4, a5, a6, a7, a8] (.ref x :: S) M := (rn_at k_X11_fit_0).trans rfl
theorem k_X11_fit_1 : lk 1 C_X11_fit = some (.invokevirtual 275, (209, 0, 11, 985)) := by decide +kernel
theorem s_X11_fit_1 {ca : Nat → List Value → tM → tO} {M : tM} {L : tL} {b : Nat} : rn ca C_X11_fit 1 L [.ref b] M = if clsO b = some 11 then rnk ca C_X11_fit 4 L [] (ca m_X11_sound [.ref b] M) else none := (rn_at k_X11_fit_1).trans rnx_ite
theorem k_X11_fit_4 : lk 4 C_X11_fit = some (.iconst 0, (0, 0, 0, 0)) := by decide +kernel
theorem s_X11_fit_4 {ca : Nat → List Value → tM → tO} {M : tM} {L : tL} {S : List Value} : rn ca C_X11_fit 4 L S M = rn ca C_X11_fit 5 L (.int (iI 0) :: S) M := (rn_at k_X11_fit_4).trans rfl
theorem k_X11_fit_5 : lk 5 C_X11_fit = some (.istore_n 3, (0, 0, 0, 0)) := by decide +kernel
theorem s_X11_fit_5 {ca : Nat → List Value → tM → tO} {M : tM} {a0 a1 a2 a3 a4 a5 a6 a7 a8 : Option Value} {x : Int32} {S : List Value} : rn ca C_X11_fit 5 [a0, a1, a2, a3, a4, a5, a6, a7, a8] (.int x :: S) M = rn ca C_X11_fit 6 [a0, a1, a2, some (.int x), a4, a5, a6, a7, a8] S M := (rn_at k_X11_fit_5).trans rfl
theorem k_X11_fit_6 : lk 6 C_X11_fit = some (.iconst 0, (0, 0, 0, 0)) := by decide +kernel
theorem s_X11_fit_6 {ca : Nat → List Value → tM → tO} {M : tM} {L : tL} {S : List Value} : rn ca C_X11_fit 6 L S M = rn ca C_X11_fit 7 L (.int (iI 0) :: S) M := (rn_at k_X11_fit_6).trans rfl
theorem k_X11_fit_7 : lk 7 C_X11_fit = some (.istore 4, (0, 0, 0, 0)) := by decide +kernel
theorem s_X11_fit_7 {ca : Nat → List Value → tM → tO} {M : tM} {a0 a1 a2 a3 a4 a5 a6 a7 a8 : Option Value} {x : Int32} {S : List Value} : rn ca C_X11_fit 7 [a0, a1, a2, a3, a4, a5, a6, a7, a8] (.int x :: S) M = rn ca C_X11_fit 9 [a0, a1, a2, a3, some (.int x), a5, a6, a7, a8] S M := (rn_at k_X11_fit_7).trans rfl
theorem k_X11_fit_9 : lk 9 C_X11_fit = some (.iload 4, (0, 0, 0, 0)) := by decide +kernel
theorem s_X11_fit_9 {ca : Nat → List Value → tM → tO} {M : tM} {a0 a1 a2 a3 a5 a6 a7 a8 : Option Value} {x : Int32} {S : List Value} : rn ca C_X11_fit 9 [a0, a1, a2, a3, some (.int x), a5, a6, a7, a8] S M = rn ca C_X11_fit 11 [a0, a1, a2, a3, some (.int x), a5, a6, a7, a8] (.int x :: S) M := (rn_at k_X11_fit_9).trans rfl
theorem k_X11_fit_11 : lk 11 C_X11_fit = some (.aload_n 0, (0, 0, 0, 0)) := by decide +kernel
theorem s_X11_fit_11 {ca : Nat → List Value → tM → tO} {M : tM} {a1 a2 a3 a4 a5 a6 a7 a8 : Option Value} {x : Nat} {S : List Value} : rn ca C_X11_fit 11 [some (.ref x), a1, a2, a3, a4, a5, a6, a7, a8] S M = rn ca C_X11_fit 12 [some (.ref x), a1, a2, a3, a4, a5, a6, a7, a8] (.ref x :: S) M := (rn_at k_X11_fit_11).trans rfl
theorem k_X11_fit_12 : lk 12 C_X11_fit = some (.getfield 17, (11, 1, 0, 147)) := by decide +kernel
theorem s_X11_fit_12 {ca : Nat → List Value → tM → tO} {M : tM} {L : tL} {b : Nat} {S : List Value} : rn ca C_X11_fit 12 L (.ref b :: S) M = if clsO b = some 11 then rn ca C_X11_fit 15 L (fv M b 1 :: S) M else none := (rn_at k_X11_fit_12).trans rnx_ite
theorem k_X11_fit_15 : lk 15 C_X11_fit = some (.bipush 109, (0, 0, 0, 0)) := by decide +kernel
theorem s_X11_fit_15 {ca : Nat → List Value → tM → tO} {M : tM} {L : tL} {S : List Value} : rn ca C_X11_fit 15 L S M = rn ca C_X11_fit 17 L (.int (iI 109) :: S) M := (rn_at k_X11_fit_15).trans rfl
theorem k_X11_fit_17 : lk 17 C_X11_fit = some (.iaload, (0, 0, 0, 0)) := by decide +kernel
theorem s_X11_fit_17 {ca : Nat → List Value → tM → tO} {M : tM} {L : tL} {a : Nat} {i : Int32} {S : List Value} : rn ca C_X11_fit 17 L (.int i :: .ref a :: S) M = if (akind a = 0 ∨ akind a = 6 ∨ akind a = 7) ∧ inb i (alen M a) then rn ca C_X11_fit 18 L (.int (M.1 a i.toInt.toNat) :: S) M else none := (rn_at k_X11_fit_17).trans rnx_ite
theorem k_X11_fit_18 : lk 18 C_X11_fit = some (.if_icmp .ge 120, (138, 0, 0, 0)) := by decide +kernel
theorem s_X11_fit_18 {ca : Nat → List Value → tM → tO} {M : tM} {L : tL} {x y : Int32} {S : List Value} : rn ca C_X11_fit 18 L (.int y :: .int x :: S) M = if y ≤ x then rn ca C_X11_fit 138 L S M else rn ca C_X11_fit 21 L S M := (rn_at k_X11_fit_18).trans rnx_ite
theorem k_X11_fit_21 : lk 21 C_X11_fit = some (.iconst 1, (0, 0, 0, 0)) := by decide +kernel
theorem s_X11_fit_21 {ca : Nat → List Value → tM → tO} {M : tM} {L : tL} {S : List Value} : rn ca C_X11_fit 21 L S M = rn ca C_X11_fit 22 L (.int (iI 1) :: S) M := (rn_at k_X11_fit_21).trans rfl
theorem k_X11_fit_22 : lk 22 C_X11_fit = some (.istore 5, (0, 0, 0, 0)) := by decide +kernel
theorem s_X11_fit_22 {ca : Nat → List Value → tM → tO} {M : tM} {a0 a1 a2 a3 a4 a5 a6 a7 a8 : Option Value} {x : Int32} {S : List Value} : rn ca C_X11_fit 22 [a0, a1, a2, a3, a4, a5, a6, a7, a8] (.int x :: S) M = rn ca C_X11_fit 24 [a0, a1, a2, a3, a4, some (.int x), a6, a7, a8] S M := (rn_at k_X11_fit_22).trans rfl
theorem k_X11_fit_24 : lk 24 C_X11_fit = some (.iconst 0, (0, 0, 0, 0)) := by decide +kernel
theorem s_X11_fit_24 {ca : Nat → List Value → tM → tO} {M : tM} {L : tL} {S : List Value} : rn ca C_X11_fit 24 L S M = rn ca C_X11_fit 25 L (.int (iI 0) :: S) M := (rn_at k_X11_fit_24).trans rfl
theorem k_X11_fit_25 : lk 25 C_X11_fit = some (.istore 6, (0, 0, 0, 0)) := by decide +kernel
theorem s_X11_fit_25 {ca : Nat → List Value → tM → tO} {M : tM} {a0 a1 a2 a3 a4 a5 a6 a7 a8 : Option Value} {x : Int32} {S : List Value} : rn ca C_X11_fit 25 [a0, a1, a2, a3, a4, a5, a6, a7, a8] (.int x :: S) M = rn ca C_X11_fit 27 [a0, a1, a2, a3, a4, a5, some (.int x), a7, a8] S M := (rn_at k_X11_fit_25).trans rfl
theorem k_X11_fit_27 : lk 27 C_X11_fit = some (.iload 6, (0, 0, 0, 0)) := by decide +kernel
theorem s_X11_fit_27 {ca : Nat → List Value → tM → tO} {M : tM} {a0 a1 a2 a3 a4 a5 a7 a8 : Option Value} {x : Int32} {S : List Value} : rn ca C_X11_fit 27 [a0, a1, a2, a3, a4, a5, some (.int x), a7, a8] S M = rn ca C_X11_fit 29 [a0, a1, a2, a3, a4, a5, some (.int x), a7, a8] (.int x :: S) M := (rn_at k_X11_fit_27).trans rfl
theorem k_X11_fit_29 : lk 29 C_X11_fit = some (.iload_n 2, (0, 0, 0, 0)) := by decide +kernel
theorem s_X11_fit_29 {ca : Nat → List Value → tM → tO} {M : tM} {a0 a1 a3 a4 a5 a6 a7 a8 : Option Value} {x : Int32} {S : List Value} : rn ca C_X11_fit 29 [a0, a1, some (.int x), a3, a4, a5, a6, a7, a8] S M = rn ca C_X11_fit 30 [a0, a1, some (.int x), a3, a4, a5, a6, a7, a8] (.int x :: S) M := (rn_at k_X11_fit_29).trans rfl
theorem k_X11_fit_30 : lk 30 C_X11_fit = some (.if_icmp .ge 86, (116, 0, 0, 0)) := by decide +kernel
theorem s_X11_fit_30 {ca : Nat → List Value → tM → tO} {M : tM} {L : tL} {x y : Int32} {S : List Value} : rn ca C_X11_fit 30 L (.int y :: .int x :: S) M = if y ≤ x then rn ca C_X11_fit 116 L S M else rn ca C_X11_fit 33 L S M := (rn_at k_X11_fit_30).trans rnx_ite
theorem k_X11_fit_33 : lk 33 C_X11_fit = some (.aload_n 0, (0, 0, 0, 0)) := by decide +kernel
theorem s_X11_fit_33 {ca : Nat → List Value → tM → tO} {M : tM} {a1 a2 a3 a4 a5 a6 a7 a8 : Option Value} {x : Nat} {S : List Value} : rn ca C_X11_fit 33 [some (.ref x), a1, a2, a3, a4, a5, a6, a7, a8] S M = rn ca C_X11_fit 34 [some (.ref x), a1, a2, a3, a4, a5, a6, a7, a8] (.ref x :: S) M := (rn_at k_X11_fit_33).trans rfl
theorem k_X11_fit_34 : lk 34 C_X11_fit = some (.iload 4, (0, 0, 0, 0)) := by decide +kernel
theorem s_X11_fit_34 {ca : Nat → List Value → tM → tO} {M : tM} {a0 a1 a2 a3 a5 a6 a7 a8 : Option Value} {x : Int32} {S : List Value} : rn ca C_X11_fit 34 [a0, a1, a2, a3, some (.int x), a5, a6, a7, a8] S M = rn ca C_X11_fit 36 [a0, a1, a2, a3, some (.int x), a5, a6, a7, a8] (.int x :: S) M := (rn_at k_X11_fit_34).trans rfl
theorem k_X11_fit_36 : lk 36 C_X11_fit = some (.aload_n 0, (0, 0, 0, 0)) := by decide +kernel
theorem s_X11_fit_36 {ca : Nat → List Value → tM → tO} {M : tM} {a1 a2 a3 a4 a5 a6 a7 a8 : Option Value} {x : Nat} {S : List Value} : rn ca C_X11_fit 36 [some (.ref x), a1, a2, a3, a4, a5, a6, a7, a8] S M = rn ca C_X11_fit 37 [some (.ref x), a1, a2, a3, a4, a5, a6, a7, a8] (.ref x :: S) M := (rn_at k_X11_fit_36).trans rfl
theorem k_X11_fit_37 : lk 37 C_X11_fit = some (.iload_n 1, (0, 0, 0, 0)) := by decide +kernel
theorem s_X11_fit_37 {ca : Nat → List Value → tM → tO} {M : tM} {a0 a2 a3 a4 a5 a6 a7 a8 : Option Value} {x : Int32} {S : List Value} : rn ca C_X11_fit 37 [a0, some (.int x), a2, a3, a4, a5, a6, a7, a8] S M = rn ca C_X11_fit 38 [a0, some (.int x), a2, a3, a4, a5, a6, a7, a8] (.int x :: S) M := (rn_at k_X11_fit_37).trans rfl
theorem k_X11_fit_38 : lk 38 C_X11_fit = some (.iconst 2, (0, 0, 0, 0)) := by decide +kernel
theorem s_X11_fit_38 {ca : Nat → List Value → tM → tO} {M : tM} {L : tL} {S : List Value} : rn ca C_X11_fit 38 L S M = rn ca C_X11_fit 39 L (.int (iI 2) :: S) M := (rn_at k_X11_fit_38).trans rfl
theorem k_X11_fit_39 : lk 39 C_X11_fit = some (.iload 6, (0, 0, 0, 0)) := by decide +kernel
theorem s_X11_fit_39 {ca : Nat → List Value → tM → tO} {M : tM} {a0 a1 a2 a3 a4 a5 a7 a8 : Option Value} {x : Int32} {S : List Value} : rn ca C_X11_fit 39 [a0, a1, a2, a3, a4, a5, some (.int x), a7, a8] S M = rn ca C_X11_fit 41 [a0, a1, a2, a3, a4, a5, some (.int x), a7, a8] (.int x :: S) M := (rn_at k_X11_fit_39).trans rfl
theorem k_X11_fit_41 : lk 41 C_X11_fit = some (.imul, (0, 0, 0, 0)) := by decide +kernel
theorem s_X11_fit_41 {ca : Nat → List Value → tM → tO} {M : tM} {L : tL} {x y : Int32} {S : List Value} : rn ca C_X11_fit 41 L (.int y :: .int x :: S) M = rn ca C_X11_fit 42 L (.int (x * y) :: S) M := (rn_at k_X11_fit_41).trans rfl
theorem k_X11_fit_42 : lk 42 C_X11_fit = some (.invokevirtual 152, (177, 2, 11, 632)) := by decide +kernel
theorem s_X11_fit_42 {ca : Nat → List Value → tM → tO} {M : tM} {L : tL} {v1 v2 : Value} {r0 : Int32} {r1 : Nat} {b : Nat} : rn ca C_X11_fit 42 L [v2, v1, .ref b, .int r0, .ref r1] M = if clsO b = some 11 then rnk ca C_X11_fit 45 L [.int r0, .ref r1] (ca m_X11_told [.ref b, v1, v2] M) else none := (rn_at k_X11_fit_42).trans rnx_ite
theorem k_X11_fit_45 : lk 45 C_X11_fit = some (.invokevirtual 278, (210, 2, 11, 989)) := by decide +kernel
theorem s_X11_fit_45 {ca : Nat → List Value → tM → tO} {M : tM} {L : tL} {v1 v2 : Value} {b : Nat} : rn ca C_X11_fit 45 L [v2, v1, .ref b] M = if clsO b = some 11 then rnk ca C_X11_fit 48 L [] (ca m_X11_heard [.ref b, v1, v2] M) else none := (rn_at k_X11_fit_45).trans rnx_ite
theorem k_X11_fit_48 : lk 48 C_X11_fit = some (.istore 7, (0, 0, 0, 0)) := by decide +kernel
theorem s_X11_fit_48 {ca : Nat → List Value → tM → tO} {M : tM} {a0 a1 a2 a3 a4 a5 a6 a7 a8 : Option Value} {x : Int32} {S : List Value} : rn ca C_X11_fit 48 [a0, a1, a2, a3, a4, a5, a6, a7, a8] (.int x :: S) M = rn ca C_X11_fit 50 [a0, a1, a2, a3, a4, a5, a6, some (.int x), a8] S M := (rn_at k_X11_fit_48).trans rfl
theorem k_X11_fit_50 : lk 50 C_X11_fit = some (.aload_n 0, (0, 0, 0, 0)) := by decide +kernel
theorem s_X11_fit_50 {ca : Nat → List Value → tM → tO} {M : tM} {a1 a2 a3 a4 a5 a6 a7 a8 : Option Value} {x : Nat} {S : List Value} : rn ca C_X11_fit 50 [some (.ref x), a1, a2, a3, a4, a5, a6, a7, a8] S M = rn ca C_X11_fit 51 [some (.ref x), a1, a2, a3, a4, a5, a6, a7, a8] (.ref x :: S) M := (rn_at k_X11_fit_50).trans rfl
theorem k_X11_fit_51 : lk 51 C_X11_fit = some (.iload 4, (0, 0, 0, 0)) := by decide +kernel
theorem s_X11_fit_51 {ca : Nat → List Value → tM → tO} {M : tM} {a0 a1 a2 a3 a5 a6 a7 a8 : Option Value} {x : Int32} {S : List Value} : rn ca C_X11_fit 51 [a0, a1, a2, a3, some (.int x), a5, a6, a7, a8] S M = rn ca C_X11_fit 53 [a0, a1, a2, a3, some (.int x), a5, a6, a7, a8] (.int x :: S) M := (rn_at k_X11_fit_51).trans rfl
theorem k_X11_fit_53 : lk 53 C_X11_fit = some (.aload_n 0, (0, 0, 0, 0)) := by decide +kernel
theorem s_X11_fit_53 {ca : Nat → List Value → tM → tO} {M : tM} {a1 a2 a3 a4 a5 a6 a7 a8 : Option Value} {x : Nat} {S : List Value} : rn ca C_X11_fit 53 [some (.ref x), a1, a2, a3, a4, a5, a6, a7, a8] S M = rn ca C_X11_fit 54 [some (.ref x), a1, a2, a3, a4, a5, a6, a7, a8] (.ref x :: S) M := (rn_at k_X11_fit_53).trans rfl
theorem k_X11_fit_54 : lk 54 C_X11_fit = some (.iload_n 1, (0, 0, 0, 0)) := by decide +kernel
theorem s_X11_fit_54 {ca : Nat → List Value → tM → tO} {M : tM} {a0 a2 a3 a4 a5 a6 a7 a8 : Option Value} {x : Int32} {S : List Value} : rn ca C_X11_fit 54 [a0, some (.int x), a2, a3, a4, a5, a6, a7, a8] S M = rn ca C_X11_fit 55 [a0, some (.int x), a2, a3, a4, a5, a6, a7, a8] (.int x :: S) M := (rn_at k_X11_fit_54).trans rfl
theorem k_X11_fit_55 : lk 55 C_X11_fit = some (.iconst 0, (0, 0, 0, 0)) := by decide +kernel
theorem s_X11_fit_55 {ca : Nat → List Value → tM → tO} {M : tM} {L : tL} {S : List Value} : rn ca C_X11_fit 55 L S M = rn ca C_X11_fit 56 L (.int (iI 0) :: S) M := (rn_at k_X11_fit_55).trans rfl
theorem k_X11_fit_56 : lk 56 C_X11_fit = some (.invokevirtual 152, (177, 2, 11, 632)) := by decide +kernel
theorem s_X11_fit_56 {ca : Nat → List Value → tM → tO} {M : tM} {L : tL} {v1 v2 : Value} {r0 : Int32} {r1 : Nat} {b : Nat} : rn ca C_X11_fit 56 L [v2, v1, .ref b, .int r0, .ref r1] M = if clsO b = some 11 then rnk ca C_X11_fit 59 L [.int r0, .ref r1] (ca m_X11_told [.ref b, v1, v2] M) else none := (rn_at k_X11_fit_56).trans rnx_ite
theorem k_X11_fit_59 : lk 59 C_X11_fit = some (.invokevirtual 278, (210, 2, 11, 989)) := by decide +kernel
theorem s_X11_fit_59 {ca : Nat → List Value → tM → tO} {M : tM} {L : tL} {v1 v2 : Value} {b : Nat} : rn ca C_X11_fit 59 L [v2, v1, .ref b] M = if clsO b = some 11 then rnk ca C_X11_fit 62 L [] (ca m_X11_heard [.ref b, v1, v2] M) else none := (rn_at k_X11_fit_59).trans rnx_ite
theorem k_X11_fit_62 : lk 62 C_X11_fit = some (.istore 8, (0, 0, 0, 0)) := by decide +kernel
theorem s_X11_fit_62 {ca : Nat → List Value → tM → tO} {M : tM} {a0 a1 a2 a3 a4 a5 a6 a7 a8 : Option Value} {x : Int32} {S : List Value} : rn ca C_X11_fit 62 [a0, a1, a2, a3, a4, a5, a6, a7, a8] (.int x :: S) M = rn ca C_X11_fit 64 [a0, a1, a2, a3, a4, a5, a6, a7, some (.int x)] S M := (rn_at k_X11_fit_62).trans rfl
theorem k_X11_fit_64 : lk 64 C_X11_fit = some (.iload 5, (0, 0, 0, 0)) := by decide +kernel
theorem s_X11_fit_64 {ca : Nat → List Value → tM → tO} {M : tM} {a0 a1 a2 a3 a4 a6 a7 a8 : Option Value} {x : Int32} {S : List Value} : rn ca C_X11_fit 64 [a0, a1, a2, a3, a4, some (.int x), a6, a7, a8] S M = rn ca C_X11_fit 66 [a0, a1, a2, a3, a4, some (.int x), a6, a7, a8] (.int x :: S) M := (rn_at k_X11_fit_64).trans rfl
theorem k_X11_fit_66 : lk 66 C_X11_fit = some (.ifCond .eq 41, (107, 0, 0, 0)) := by decide +kernel
theorem s_X11_fit_66 {ca : Nat → List Value → tM → tO} {M : tM} {L : tL} {x : Int32} {S : List Value} : rn ca C_X11_fit 66 L (.int x :: S) M = if x = iI 0 then rn ca C_X11_fit 107 L S M else rn ca C_X11_fit 69 L S M := (rn_at k_X11_fit_66).trans rnx_ite
theorem k_X11_fit_69 : lk 69 C_X11_fit = some (.iload 7, (0, 0, 0, 0)) := by decide +kernel
theorem s_X11_fit_69 {ca : Nat → List Value → tM → tO} {M : tM} {a0 a1 a2 a3 a4 a5 a6 a8 : Option Value} {x : Int32} {S : List Value} : rn ca C_X11_fit 69 [a0, a1, a2, a3, a4, a5, a6, some (.int x), a8] S M = rn ca C_X11_fit 71 [a0, a1, a2, a3, a4, a5, a6, some (.int x), a8] (.int x :: S) M := (rn_at k_X11_fit_69).trans rfl
theorem k_X11_fit_71 : lk 71 C_X11_fit = some (.sipush 9999, (0, 0, 0, 0)) := by decide +kernel
theorem s_X11_fit_71 {ca : Nat → List Value → tM → tO} {M : tM} {L : tL} {S : List Value} : rn ca C_X11_fit 71 L S M = rn ca C_X11_fit 74 L (.int (iI 9999) :: S) M := (rn_at k_X11_fit_71).trans rfl
theorem k_X11_fit_74 : lk 74 C_X11_fit = some (.if_icmp .ge 33, (107, 0, 0, 0)) := by decide +kernel
theorem s_X11_fit_74 {ca : Nat → List Value → tM → tO} {M : tM} {L : tL} {x y : Int32} {S : List Value} : rn ca C_X11_fit 74 L (.int y :: .int x :: S) M = if y ≤ x then rn ca C_X11_fit 107 L S M else rn ca C_X11_fit 77 L S M := (rn_at k_X11_fit_74).trans rnx_ite
theorem k_X11_fit_77 : lk 77 C_X11_fit = some (.aload_n 0, (0, 0, 0, 0)) := by decide +kernel
theorem s_X11_fit_77 {ca : Nat → List Value → tM → tO} {M : tM} {a1 a2 a3 a4 a5 a6 a7 a8 : Option Value} {x : Nat} {S : List Value} : rn ca C_X11_fit 77 [some (.ref x), a1, a2, a3, a4, a5, a6, a7, a8] S M = rn ca C_X11_fit 78 [some (.ref x), a1, a2, a3, a4, a5, a6, a7, a8] (.ref x :: S) M := (rn_at k_X11_fit_77).trans rfl
theorem k_X11_fit_78 : lk 78 C_X11_fit = some (.iload_n 1, (0, 0, 0, 0)) := by decide +kernel
theorem s_X11_fit_78 {ca : Nat → List Value → tM → tO} {M : tM} {a0 a2 a3 a4 a5 a6 a7 a8 : Option Value} {x : Int32} {S : List Value} : rn ca C_X11_fit 78 [a0, some (.int x), a2, a3, a4, a5, a6, a7, a8] S M = rn ca C_X11_fit 79 [a0, some (.int x), a2, a3, a4, a5, a6, a7, a8] (.int x :: S) M := (rn_at k_X11_fit_78).trans rfl
theorem k_X11_fit_79 : lk 79 C_X11_fit = some (.iconst 2, (0, 0, 0, 0)) := by decide +kernel
theorem s_X11_fit_79 {ca : Nat → List Value → tM → tO} {M : tM} {L : tL} {S : List Value} : rn ca C_X11_fit 79 L S M = rn ca C_X11_fit 80 L (.int (iI 2) :: S) M := (rn_at k_X11_fit_79).trans rfl
theorem k_X11_fit_80 : lk 80 C_X11_fit = some (.iload 6, (0, 0, 0, 0)) := by decide +kernel
theorem s_X11_fit_80 {ca : Nat → List Value → tM → tO} {M : tM} {a0 a1 a2 a3 a4 a5 a7 a8 : Option Value} {x : Int32} {S : List Value} : rn ca C_X11_fit 80 [a0, a1, a2, a3, a4, a5, some (.int x), a7, a8] S M = rn ca C_X11_fit 82 [a0, a1, a2, a3, a4, a5, some (.int x), a7, a8] (.int x :: S) M := (rn_at k_X11_fit_80).trans rfl
theorem k_X11_fit_82 : lk 82 C_X11_fit = some (.imul, (0, 0, 0, 0)) := by decide +kernel
theorem s_X11_fit_82 {ca : Nat → List Value → tM → tO} {M : tM} {L : tL} {x y : Int32} {S : List Value} : rn ca C_X11_fit 82 L (.int y :: .int x :: S) M = rn ca C_X11_fit 83 L (.int (x * y) :: S) M := (rn_at k_X11_fit_82).trans rfl
theorem k_X11_fit_83 : lk 83 C_X11_fit = some (.iconst 1, (0, 0, 0, 0)) := by decide +kernel
theorem s_X11_fit_83 {ca : Nat → List Value → tM → tO} {M : tM} {L : tL} {S : List Value} : rn ca C_X11_fit 83 L S M = rn ca C_X11_fit 84 L (.int (iI 1) :: S) M := (rn_at k_X11_fit_83).trans rfl
theorem k_X11_fit_84 : lk 84 C_X11_fit = some (.iadd, (0, 0, 0, 0)) := by decide +kernel
theorem s_X11_fit_84 {ca : Nat → List Value → tM → tO} {M : tM} {L : tL} {x y : Int32} {S : List Value} : rn ca C_X11_fit 84 L (.int y :: .int x :: S) M = rn ca C_X11_fit 85 L (.int (x + y) :: S) M := (rn_at k_X11_fit_84).trans rfl
theorem k_X11_fit_85 : lk 85 C_X11_fit = some (.invokevirtual 152, (177, 2, 11, 632)) := by decide +kernel
theorem s_X11_fit_85 {ca : Nat → List Value → tM → tO} {M : tM} {L : tL} {v1 v2 : Value} {b : Nat} : rn ca C_X11_fit 85 L [v2, v1, .ref b] M = if clsO b = some 11 then rnk ca C_X11_fit 88 L [] (ca m_X11_told [.ref b, v1, v2] M) else none := (rn_at k_X11_fit_85).trans rnx_ite
theorem k_X11_fit_88 : lk 88 C_X11_fit = some (.iload 7, (0, 0, 0, 0)) := by decide +kernel
theorem s_X11_fit_88 {ca : Nat → List Value → tM → tO} {M : tM} {a0 a1 a2 a3 a4 a5 a6 a8 : Option Value} {x : Int32} {S : List Value} : rn ca C_X11_fit 88 [a0, a1, a2, a3, a4, a5, a6, some (.int x), a8] S M = rn ca C_X11_fit 90 [a0, a1, a2, a3, a4, a5, a6, some (.int x), a8] (.int x :: S) M := (rn_at k_X11_fit_88).trans rfl
theorem k_X11_fit_90 : lk 90 C_X11_fit = some (.isub, (0, 0, 0, 0)) := by decide +kernel
theorem s_X11_fit_90 {ca : Nat → List Value → tM → tO} {M : tM} {L : tL} {x y : Int32} {S : List Value} : rn ca C_X11_fit 90 L (.int y :: .int x :: S) M = rn ca C_X11_fit 91 L (.int (x - y) :: S) M := (rn_at k_X11_fit_90).trans rfl
theorem k_X11_fit_91 : lk 91 C_X11_fit = some (.aload_n 0, (0, 0, 0, 0)) := by decide +kernel
theorem s_X11_fit_91 {ca : Nat → List Value → tM → tO} {M : tM} {a1 a2 a3 a4 a5 a6 a7 a8 : Option Value} {x : Nat} {S : List Value} : rn ca C_X11_fit 91 [some (.ref x), a1, a2, a3, a4, a5, a6, a7, a8] S M = rn ca C_X11_fit 92 [some (.ref x), a1, a2, a3, a4, a5, a6, a7, a8] (.ref x :: S) M := (rn_at k_X11_fit_91).trans rfl
theorem k_X11_fit_92 : lk 92 C_X11_fit = some (.iload_n 1, (0, 0, 0, 0)) := by decide +kernel
theorem s_X11_fit_92 {ca : Nat → List Value → tM → tO} {M : tM} {a0 a2 a3 a4 a5 a6 a7 a8 : Option Value} {x : Int32} {S : List Value} : rn ca C_X11_fit 92 [a0, some (.int x), a2, a3, a4, a5, a6, a7, a8] S M = rn ca C_X11_fit 93 [a0, some (.int x), a2, a3, a4, a5, a6, a7, a8] (.int x :: S) M := (rn_at k_X11_fit_92).trans rfl
theorem k_X11_fit_93 : lk 93 C_X11_fit = some (.iconst 1, (0, 0, 0, 0)) := by decide +kernel
theorem s_X11_fit_93 {ca : Nat → List Value → tM → tO} {M : tM} {L : tL} {S : List Value} : rn ca C_X11_fit 93 L S M = rn ca C_X11_fit 94 L (.int (iI 1) :: S) M := (rn_at k_X11_fit_93).trans rfl
theorem k_X11_fit_94 : lk 94 C_X11_fit = some (.invokevirtual 152, (177, 2, 11, 632)) := by decide +kernel
theorem s_X11_fit_94 {ca : Nat → List Value → tM → tO} {M : tM} {L : tL} {v1 v2 : Value} {r0 : Int32} {b : Nat} : rn ca C_X11_fit 94 L [v2, v1, .ref b, .int r0] M = if clsO b = some 11 then rnk ca C_X11_fit 97 L [.int r0] (ca m_X11_told [.ref b, v1, v2] M) else none := (rn_at k_X11_fit_94).trans rnx_ite
theorem k_X11_fit_97 : lk 97 C_X11_fit = some (.iload 8, (0, 0, 0, 0)) := by decide +kernel
theorem s_X11_fit_97 {ca : Nat → List Value → tM → tO} {M : tM} {a0 a1 a2 a3 a4 a5 a6 a7 : Option Value} {x : Int32} {S : List Value} : rn ca C_X11_fit 97 [a0, a1, a2, a3, a4, a5, a6, a7, some (.int x)] S M = rn ca C_X11_fit 99 [a0, a1, a2, a3, a4, a5, a6, a7, some (.int x)] (.int x :: S) M := (rn_at k_X11_fit_97).trans rfl
theorem k_X11_fit_99 : lk 99 C_X11_fit = some (.isub, (0, 0, 0, 0)) := by decide +kernel
theorem s_X11_fit_99 {ca : Nat → List Value → tM → tO} {M : tM} {L : tL} {x y : Int32} {S : List Value} : rn ca C_X11_fit 99 L (.int y :: .int x :: S) M = rn ca C_X11_fit 100 L (.int (x - y) :: S) M := (rn_at k_X11_fit_99).trans rfl
theorem k_X11_fit_100 : lk 100 C_X11_fit = some (.if_icmp .ne 7, (107, 0, 0, 0)) := by decide +kernel
theorem s_X11_fit_100 {ca : Nat → List Value → tM → tO} {M : tM} {L : tL} {x y : Int32} {S : List Value} : rn ca C_X11_fit 100 L (.int y :: .int x :: S) M = if ¬ x = y then rn ca C_X11_fit 107 L S M else rn ca C_X11_fit 103 L S M := (rn_at k_X11_fit_100).trans rnx_ite
theorem k_X11_fit_103 : lk 103 C_X11_fit = some (.iconst 1, (0, 0, 0, 0)) := by decide +kernel
theorem s_X11_fit_103 {ca : Nat → List Value → tM → tO} {M : tM} {L : tL} {S : List Value} : rn ca C_X11_fit 103 L S M = rn ca C_X11_fit 104 L (.int (iI 1) :: S) M := (rn_at k_X11_fit_103).trans rfl
theorem k_X11_fit_104 : lk 104 C_X11_fit = some (.goto 4, (108, 0, 0, 0)) := by decide +kernel
theorem s_X11_fit_104 {ca : Nat → List Value → tM → tO} {M : tM} {L : tL} {S : List Value} : rn ca C_X11_fit 104 L S M = rn ca C_X11_fit 108 L S M := (rn_at k_X11_fit_104).trans rfl
theorem k_X11_fit_107 : lk 107 C_X11_fit = some (.iconst 0, (0, 0, 0, 0)) := by decide +kernel
theorem s_X11_fit_107 {ca : Nat → List Value → tM → tO} {M : tM} {L : tL} {S : List Value} : rn ca C_X11_fit 107 L S M = rn ca C_X11_fit 108 L (.int (iI 0) :: S) M := (rn_at k_X11_fit_107).trans rfl
theorem k_X11_fit_108 : lk 108 C_X11_fit = some (.istore 5, (0, 0, 0, 0)) := by decide +kernel
theorem s_X11_fit_108 {ca : Nat → List Value → tM → tO} {M : tM} {a0 a1 a2 a3 a4 a5 a6 a7 a8 : Option Value} {x : Int32} {S : List Value} : rn ca C_X11_fit 108 [a0, a1, a2, a3, a4, a5, a6, a7, a8] (.int x :: S) M = rn ca C_X11_fit 110 [a0, a1, a2, a3, a4, some (.int x), a6, a7, a8] S M := (rn_at k_X11_fit_108).trans rfl
theorem k_X11_fit_110 : lk 110 C_X11_fit = some (.iinc 6 1, (0, 0, 0, 0)) := by decide +kernel
theorem s_X11_fit_110 {ca : Nat → List Value → tM → tO} {M : tM} {a0 a1 a2 a3 a4 a5 a7 a8 : Option Value} {x : Int32} {S : List Value} : rn ca C_X11_fit 110 [a0, a1, a2, a3, a4, a5, some (.int x), a7, a8] S M = rn ca C_X11_fit 113 [a0, a1, a2, a3, a4, a5, some (.int (x + iI 1)), a7, a8] S M := (rn_at k_X11_fit_110).trans rfl
theorem k_X11_fit_113 : lk 113 C_X11_fit = some (.goto (-86), (27, 0, 0, 0)) := by decide +kernel
theorem s_X11_fit_113 {ca : Nat → List Value → tM → tO} {M : tM} {L : tL} {S : List Value} : rn ca C_X11_fit 113 L S M = rn ca C_X11_fit 27 L S M := (rn_at k_X11_fit_113).trans rfl
theorem k_X11_fit_116 : lk 116 C_X11_fit = some (.iload_n 3, (0, 0, 0, 0)) := by decide +kernel
theorem s_X11_fit_116 {ca : Nat → List Value → tM → tO} {M : tM} {a0 a1 a2 a4 a5 a6 a7 a8 : Option Value} {x : Int32} {S : List Value} : rn ca C_X11_fit 116 [a0, a1, a2, some (.int x), a4, a5, a6, a7, a8] S M = rn ca C_X11_fit 117 [a0, a1, a2, some (.int x), a4, a5, a6, a7, a8] (.int x :: S) M := (rn_at k_X11_fit_116).trans rfl
theorem k_X11_fit_117 : lk 117 C_X11_fit = some (.iload 5, (0, 0, 0, 0)) := by decide +kernel
theorem s_X11_fit_117 {ca : Nat → List Value → tM → tO} {M : tM} {a0 a1 a2 a3 a4 a6 a7 a8 : Option Value} {x : Int32} {S : List Value} : rn ca C_X11_fit 117 [a0, a1, a2, a3, a4, some (.int x), a6, a7, a8] S M = rn ca C_X11_fit 119 [a0, a1, a2, a3, a4, some (.int x), a6, a7, a8] (.int x :: S) M := (rn_at k_X11_fit_117).trans rfl
theorem k_X11_fit_119 : lk 119 C_X11_fit = some (.ifCond .eq 10, (129, 0, 0, 0)) := by decide +kernel
theorem s_X11_fit_119 {ca : Nat → List Value → tM → tO} {M : tM} {L : tL} {x : Int32} {S : List Value} : rn ca C_X11_fit 119 L (.int x :: S) M = if x = iI 0 then rn ca C_X11_fit 129 L S M else rn ca C_X11_fit 122 L S M := (rn_at k_X11_fit_119).trans rnx_ite
theorem k_X11_fit_122 : lk 122 C_X11_fit = some (.iconst 1, (0, 0, 0, 0)) := by decide +kernel
theorem s_X11_fit_122 {ca : Nat → List Value → tM → tO} {M : tM} {L : tL} {S : List Value} : rn ca C_X11_fit 122 L S M = rn ca C_X11_fit 123 L (.int (iI 1) :: S) M := (rn_at k_X11_fit_122).trans rfl
theorem k_X11_fit_123 : lk 123 C_X11_fit = some (.iload 4, (0, 0, 0, 0)) := by decide +kernel
theorem s_X11_fit_123 {ca : Nat → List Value → tM → tO} {M : tM} {a0 a1 a2 a3 a5 a6 a7 a8 : Option Value} {x : Int32} {S : List Value} : rn ca C_X11_fit 123 [a0, a1, a2, a3, some (.int x), a5, a6, a7, a8] S M = rn ca C_X11_fit 125 [a0, a1, a2, a3, some (.int x), a5, a6, a7, a8] (.int x :: S) M := (rn_at k_X11_fit_123).trans rfl
theorem k_X11_fit_125 : lk 125 C_X11_fit = some (.ishl, (0, 0, 0, 0)) := by decide +kernel
theorem s_X11_fit_125 {ca : Nat → List Value → tM → tO} {M : tM} {L : tL} {x y : Int32} {S : List Value} : rn ca C_X11_fit 125 L (.int y :: .int x :: S) M = rn ca C_X11_fit 126 L (.int (x <<< (y &&& 31)) :: S) M := (rn_at k_X11_fit_125).trans rfl
theorem k_X11_fit_126 : lk 126 C_X11_fit = some (.goto 4, (130, 0, 0, 0)) := by decide +kernel
theorem s_X11_fit_126 {ca : Nat → List Value → tM → tO} {M : tM} {L : tL} {S : List Value} : rn ca C_X11_fit 126 L S M = rn ca C_X11_fit 130 L S M := (rn_at k_X11_fit_126).trans rfl
theorem k_X11_fit_129 : lk 129 C_X11_fit = some (.iconst 0, (0, 0, 0, 0)) := by decide +kernel
theorem s_X11_fit_129 {ca : Nat → List Value → tM → tO} {M : tM} {L : tL} {S : List Value} : rn ca C_X11_fit 129 L S M = rn ca C_X11_fit 130 L (.int (iI 0) :: S) M := (rn_at k_X11_fit_129).trans rfl
theorem k_X11_fit_130 : lk 130 C_X11_fit = some (.ior, (0, 0, 0, 0)) := by decide +kernel
theorem s_X11_fit_130 {ca : Nat → List Value → tM → tO} {M : tM} {L : tL} {x y : Int32} {S : List Value} : rn ca C_X11_fit 130 L (.int y :: .int x :: S) M = rn ca C_X11_fit 131 L (.int (x ||| y) :: S) M := (rn_at k_X11_fit_130).trans rfl
theorem k_X11_fit_131 : lk 131 C_X11_fit = some (.istore_n 3, (0, 0, 0, 0)) := by decide +kernel
theorem s_X11_fit_131 {ca : Nat → List Value → tM → tO} {M : tM} {a0 a1 a2 a3 a4 a5 a6 a7 a8 : Option Value} {x : Int32} {S : List Value} : rn ca C_X11_fit 131 [a0, a1, a2, a3, a4, a5, a6, a7, a8] (.int x :: S) M = rn ca C_X11_fit 132 [a0, a1, a2, some (.int x), a4, a5, a6, a7, a8] S M := (rn_at k_X11_fit_131).trans rfl
theorem k_X11_fit_132 : lk 132 C_X11_fit = some (.iinc 4 1, (0, 0, 0, 0)) := by decide +kernel
theorem s_X11_fit_132 {ca : Nat → List Value → tM → tO} {M : tM} {a0 a1 a2 a3 a5 a6 a7 a8 : Option Value} {x : Int32} {S : List Value} : rn ca C_X11_fit 132 [a0, a1, a2, a3, some (.int x), a5, a6, a7, a8] S M = rn ca C_X11_fit 135 [a0, a1, a2, a3, some (.int (x + iI 1)), a5, a6, a7, a8] S M := (rn_at k_X11_fit_132).trans rfl
theorem k_X11_fit_135 : lk 135 C_X11_fit = some (.goto (-126), (9, 0, 0, 0)) := by decide +kernel
theorem s_X11_fit_135 {ca : Nat → List Value → tM → tO} {M : tM} {L : tL} {S : List Value} : rn ca C_X11_fit 135 L S M = rn ca C_X11_fit 9 L S M := (rn_at k_X11_fit_135).trans rfl
theorem k_X11_fit_138 : lk 138 C_X11_fit = some (.iload_n 3, (0, 0, 0, 0)) := by decide +kernel
theorem s_X11_fit_138 {ca : Nat → List Value → tM → tO} {M : tM} {a0 a1 a2 a4 a5 a6 a7 a8 : Option Value} {x : Int32} {S : List Value} : rn ca C_X11_fit 138 [a0, a1, a2, some (.int x), a4, a5, a6, a7, a8] S M = rn ca C_X11_fit 139 [a0, a1, a2, some (.int x), a4, a5, a6, a7, a8] (.int x :: S) M := (rn_at k_X11_fit_138).trans rfl
theorem k_X11_fit_139 : lk 139 C_X11_fit = some (.ireturn, (0, 0, 0, 0)) := by decide +kernel
theorem s_X11_fit_139 {ca : Nat → List Value → tM → tO} {M : tM} {L : tL} {x : Int32} : rn ca C_X11_fit 139 L [.int x] M = some (some (.int x), M) := (rn_at k_X11_fit_139).trans rfl
theorem k_X11_stuck_0 : lk 0 C_X11_stuck = some (.aload_n 0, (0, 0, 0, 0)) := by decide +kernel
theorem s_X11_stuck_0 {ca : Nat → List Value → tM → tO} {M : tM} {a1 a2 a3 : Option Value} {x : Nat} {S : List Value} : rn ca C_X11_stuck 0 [some (.ref x), a1, a2, a3] S M = rn ca C_X11_stuck 1 [some (.ref x), a1, a2, a3] (.ref x :: S) M := (rn_at k_X11_stuck_0).trans rfl
theorem k_X11_stuck_1 : lk 1 C_X11_stuck = some (.iload_n 1, (0, 0, 0, 0)) := by decide +kernel
theorem s_X11_stuck_1 {ca : Nat → List Value → tM → tO} {M : tM} {a0 a2 a3 : Option Value} {x : Int32} {S : List Value} : rn ca C_X11_stuck 1 [a0, some (.int x), a2, a3] S M = rn ca C_X11_stuck 2 [a0, some (.int x), a2, a3] (.int x :: S) M := (rn_at k_X11_stuck_1).trans rfl
theorem k_X11_stuck_2 : lk 2 C_X11_stuck = some (.iload_n 2, (0, 0, 0, 0)) := by decide +kernel
theorem s_X11_stuck_2 {ca : Nat → List Value → tM → tO} {M : tM} {a0 a1 a3 : Option Value} {x : Int32} {S : List Value} : rn ca C_X11_stuck 2 [a0, a1, some (.int x), a3] S M = rn ca C_X11_stuck 3 [a0, a1, some (.int x), a3] (.int x :: S) M := (rn_at k_X11_stuck_2).trans rfl
theorem k_X11_stuck_3 : lk 3 C_X11_stuck = some (.invokevirtual 281, (211, 2, 11, 975)) := by decide +kernel
theorem s_X11_stuck_3 {ca : Nat → List Value → tM → tO} {M : tM} {L : tL} {v1 v2 : Value} {b : Nat} : rn ca C_X11_stuck 3 L [v2, v1, .ref b] M = if clsO b = some 11 then rnk ca C_X11_stuck 6 L [] (ca m_X11_knocks [.ref b, v1, v2] M) else none := (rn_at k_X11_stuck_3).trans rnx_ite
theorem k_X11_stuck_6 : lk 6 C_X11_stuck = some (.istore_n 3, (0, 0, 0, 0)) := by decide +kernel
theorem s_X11_stuck_6 {ca : Nat → List Value → tM → tO} {M : tM} {a0 a1 a2 a3 : Option Value} {x : Int32} {S : List Value} : rn ca C_X11_stuck 6 [a0, a1, a2, a3] (.int x :: S) M = rn ca C_X11_stuck 7 [a0, a1, a2, some (.int x)] S M := (rn_at k_X11_stuck_6).trans rfl
theorem k_X11_stuck_7 : lk 7 C_X11_stuck = some (.iload_n 3, (0, 0, 0, 0)) := by decide +kernel
theorem s_X11_stuck_7 {ca : Nat → List Value → tM → tO} {M : tM} {a0 a1 a2 : Option Value} {x : Int32} {S : List Value} : rn ca C_X11_stuck 7 [a0, a1, a2, some (.int x)] S M = rn ca C_X11_stuck 8 [a0, a1, a2, some (.int x)] (.int x :: S) M := (rn_at k_X11_stuck_7).trans rfl
theorem k_X11_stuck_8 : lk 8 C_X11_stuck = some (.ifCond .ge 11, (19, 0, 0, 0)) := by decide +kernel
theorem s_X11_stuck_8 {ca : Nat → List Value → tM → tO} {M : tM} {L : tL} {x : Int32} {S : List Value} : rn ca C_X11_stuck 8 L (.int x :: S) M = if iI 0 ≤ x then rn ca C_X11_stuck 19 L S M else rn ca C_X11_stuck 11 L S M := (rn_at k_X11_stuck_8).trans rnx_ite
theorem k_X11_stuck_11 : lk 11 C_X11_stuck = some (.aload_n 0, (0, 0, 0, 0)) := by decide +kernel
theorem s_X11_stuck_11 {ca : Nat → List Value → tM → tO} {M : tM} {a1 a2 a3 : Option Value} {x : Nat} {S : List Value} : rn ca C_X11_stuck 11 [some (.ref x), a1, a2, a3] S M = rn ca C_X11_stuck 12 [some (.ref x), a1, a2, a3] (.ref x :: S) M := (rn_at k_X11_stuck_11).trans rfl
theorem k_X11_stuck_12 : lk 12 C_X11_stuck = some (.iload_n 3, (0, 0, 0, 0)) := by decide +kernel
theorem s_X11_stuck_12 {ca : Nat → List Value → tM → tO} {M : tM} {a0 a1 a2 : Option Value} {x : Int32} {S : List Value} : rn ca C_X11_stuck 12 [a0, a1, a2, some (.int x)] S M = rn ca C_X11_stuck 13 [a0, a1, a2, some (.int x)] (.int x :: S) M := (rn_at k_X11_stuck_12).trans rfl
theorem k_X11_stuck_13 : lk 13 C_X11_stuck = some (.invokevirtual 83, (144, 1, 11, 200)) := by decide +kernel
theorem s_X11_stuck_13 {ca : Nat → List Value → tM → tO} {M : tM} {L : tL} {v1 : Value} {b : Nat} : rn ca C_X11_stuck 13 L [v1, .ref b] M = if clsO b = some 11 then rnk ca C_X11_stuck 16 L [] (ca m_X11_refuse [.ref b, v1] M) else none := (rn_at k_X11_stuck_13).trans rnx_ite
theorem k_X11_stuck_16 : lk 16 C_X11_stuck = some (.goto 9, (25, 0, 0, 0)) := by decide +kernel
theorem s_X11_stuck_16 {ca : Nat → List Value → tM → tO} {M : tM} {L : tL} {S : List Value} : rn ca C_X11_stuck 16 L S M = rn ca C_X11_stuck 25 L S M := (rn_at k_X11_stuck_16).trans rfl
theorem k_X11_stuck_19 : lk 19 C_X11_stuck = some (.aload_n 0, (0, 0, 0, 0)) := by decide +kernel
theorem s_X11_stuck_19 {ca : Nat → List Value → tM → tO} {M : tM} {a1 a2 a3 : Option Value} {x : Nat} {S : List Value} : rn ca C_X11_stuck 19 [some (.ref x), a1, a2, a3] S M = rn ca C_X11_stuck 20 [some (.ref x), a1, a2, a3] (.ref x :: S) M := (rn_at k_X11_stuck_19).trans rfl
theorem k_X11_stuck_20 : lk 20 C_X11_stuck = some (.iload_n 1, (0, 0, 0, 0)) := by decide +kernel
theorem s_X11_stuck_20 {ca : Nat → List Value → tM → tO} {M : tM} {a0 a2 a3 : Option Value} {x : Int32} {S : List Value} : rn ca C_X11_stuck 20 [a0, some (.int x), a2, a3] S M = rn ca C_X11_stuck 21 [a0, some (.int x), a2, a3] (.int x :: S) M := (rn_at k_X11_stuck_20).trans rfl
theorem k_X11_stuck_21 : lk 21 C_X11_stuck = some (.iload_n 2, (0, 0, 0, 0)) := by decide +kernel
theorem s_X11_stuck_21 {ca : Nat → List Value → tM → tO} {M : tM} {a0 a1 a3 : Option Value} {x : Int32} {S : List Value} : rn ca C_X11_stuck 21 [a0, a1, some (.int x), a3] S M = rn ca C_X11_stuck 22 [a0, a1, some (.int x), a3] (.int x :: S) M := (rn_at k_X11_stuck_21).trans rfl
theorem k_X11_stuck_22 : lk 22 C_X11_stuck = some (.invokevirtual 284, (212, 2, 11, 981)) := by decide +kernel
theorem s_X11_stuck_22 {ca : Nat → List Value → tM → tO} {M : tM} {L : tL} {v1 v2 : Value} {b : Nat} : rn ca C_X11_stuck 22 L [v2, v1, .ref b] M = if clsO b = some 11 then rnk ca C_X11_stuck 25 L [] (ca m_X11_fit [.ref b, v1, v2] M) else none := (rn_at k_X11_stuck_22).trans rnx_ite
theorem k_X11_stuck_25 : lk 25 C_X11_stuck = some (.ireturn, (0, 0, 0, 0)) := by decide +kernel
theorem s_X11_stuck_25 {ca : Nat → List Value → tM → tO} {M : tM} {L : tL} {x : Int32} : rn ca C_X11_stuck 25 L [.int x] M = some (some (.int x), M) := (rn_at k_X11_stuck_25).trans rfl
theorem k_X11_lag_0 : lk 0 C_X11_lag = some (.aload_n 0, (0, 0, 0, 0)) := by decide +kernel
theorem s_X11_lag_0 {ca : Nat → List Value → tM → tO} {M : tM} {a1 a2 a3 a4 : Option Value} {x : Nat} {S : List Value} : rn ca C_X11_lag 0 [some (.ref x), a1, a2, a3, a4] S M = rn ca C_X11_lag 1 [some (.ref x), a1, a2, a3, a4] (.ref x :: S) M := (rn_at k_X11_lag_0).trans rfl
theorem k_X11_lag_1 : lk 1 C_X11_lag = some (.iload_n 1, (0, 0, 0, 0)) := by decide +kernel
theorem s_X11_lag_1 {ca : Nat → List Value → tM → tO} {M : tM} {a0 a2 a3 a4 : Option Value} {x : Int32} {S : List Value} : rn ca C_X11_lag 1 [a0, some (.int x), a2, a3, a4] S M = rn ca C_X11_lag 2 [a0, some (.int x), a2, a3, a4] (.int x :: S) M := (rn_at k_X11_lag_1).trans rfl
theorem k_X11_lag_2 : lk 2 C_X11_lag = some (.iload_n 2, (0, 0, 0, 0)) := by decide +kernel
theorem s_X11_lag_2 {ca : Nat → List Value → tM → tO} {M : tM} {a0 a1 a3 a4 : Option Value} {x : Int32} {S : List Value} : rn ca C_X11_lag 2 [a0, a1, some (.int x), a3, a4] S M = rn ca C_X11_lag 3 [a0, a1, some (.int x), a3, a4] (.int x :: S) M := (rn_at k_X11_lag_2).trans rfl
theorem k_X11_lag_3 : lk 3 C_X11_lag = some (.invokevirtual 278, (210, 2, 11, 989)) := by decide +kernel
theorem s_X11_lag_3 {ca : Nat → List Value → tM → tO} {M : tM} {L : tL} {v1 v2 : Value} {b : Nat} : rn ca C_X11_lag 3 L [v2, v1, .ref b] M = if clsO b = some 11 then rnk ca C_X11_lag 6 L [] (ca m_X11_heard [.ref b, v1, v2] M) else none := (rn_at k_X11_lag_3).trans rnx_ite
theorem k_X11_lag_6 : lk 6 C_X11_lag = some (.istore 4, (0, 0, 0, 0)) := by decide +kernel
theorem s_X11_lag_6 {ca : Nat → List Value → tM → tO} {M : tM} {a0 a1 a2 a3 a4 : Option Value} {x : Int32} {S : List Value} : rn ca C_X11_lag 6 [a0, a1, a2, a3, a4] (.int x :: S) M = rn ca C_X11_lag 8 [a0, a1, a2, a3, some (.int x)] S M := (rn_at k_X11_lag_6).trans rfl
theorem k_X11_lag_8 : lk 8 C_X11_lag = some (.iload 4, (0, 0, 0, 0)) := by decide +kernel
theorem s_X11_lag_8 {ca : Nat → List Value → tM → tO} {M : tM} {a0 a1 a2 a3 : Option Value} {x : Int32} {S : List Value} : rn ca C_X11_lag 8 [a0, a1, a2, a3, some (.int x)] S M = rn ca C_X11_lag 10 [a0, a1, a2, a3, some (.int x)] (.int x :: S) M := (rn_at k_X11_lag_8).trans rfl
theorem k_X11_lag_10 : lk 10 C_X11_lag = some (.sipush 9999, (0, 0, 0, 0)) := by decide +kernel
theorem s_X11_lag_10 {ca : Nat → List Value → tM → tO} {M : tM} {L : tL} {S : List Value} : rn ca C_X11_lag 10 L S M = rn ca C_X11_lag 13 L (.int (iI 9999) :: S) M := (rn_at k_X11_lag_10).trans rfl
theorem k_X11_lag_13 : lk 13 C_X11_lag = some (.if_icmp .lt 9, (22, 0, 0, 0)) := by decide +kernel
theorem s_X11_lag_13 {ca : Nat → List Value → tM → tO} {M : tM} {L : tL} {x y : Int32} {S : List Value} : rn ca C_X11_lag 13 L (.int y :: .int x :: S) M = if x < y then rn ca C_X11_lag 22 L S M else rn ca C_X11_lag 16 L S M := (rn_at k_X11_lag_13).trans rnx_ite
theorem k_X11_lag_16 : lk 16 C_X11_lag = some (.sipush 9999, (0, 0, 0, 0)) := by decide +kernel
theorem s_X11_lag_16 {ca : Nat → List Value → tM → tO} {M : tM} {L : tL} {S : List Value} : rn ca C_X11_lag 16 L S M = rn ca C_X11_lag 19 L (.int (iI 9999) :: S) M := (rn_at k_X11_lag_16).trans rfl
theorem k_X11_lag_19 : lk 19 C_X11_lag = some (.goto 12, (31, 0, 0, 0)) := by decide +kernel
theorem s_X11_lag_19 {ca : Nat → List Value → tM → tO} {M : tM} {L : tL} {S : List Value} : rn ca C_X11_lag 19 L S M = rn ca C_X11_lag 31 L S M := (rn_at k_X11_lag_19).trans rfl
theorem k_X11_lag_22 : lk 22 C_X11_lag = some (.iload 4, (0, 0, 0, 0)) := by decide +kernel
theorem s_X11_lag_22 {ca : Nat → List Value → tM → tO} {M : tM} {a0 a1 a2 a3 : Option Value} {x : Int32} {S : List Value} : rn ca C_X11_lag 22 [a0, a1, a2, a3, some (.int x)] S M = rn ca C_X11_lag 24 [a0, a1, a2, a3, some (.int x)] (.int x :: S) M := (rn_at k_X11_lag_22).trans rfl
theorem k_X11_lag_24 : lk 24 C_X11_lag = some (.aload_n 0, (0, 0, 0, 0)) := by decide +kernel
theorem s_X11_lag_24 {ca : Nat → List Value → tM → tO} {M : tM} {a1 a2 a3 a4 : Option Value} {x : Nat} {S : List Value} : rn ca C_X11_lag 24 [some (.ref x), a1, a2, a3, a4] S M = rn ca C_X11_lag 25 [some (.ref x), a1, a2, a3, a4] (.ref x :: S) M := (rn_at k_X11_lag_24).trans rfl
theorem k_X11_lag_25 : lk 25 C_X11_lag = some (.iload_n 1, (0, 0, 0, 0)) := by decide +kernel
theorem s_X11_lag_25 {ca : Nat → List Value → tM → tO} {M : tM} {a0 a2 a3 a4 : Option Value} {x : Int32} {S : List Value} : rn ca C_X11_lag 25 [a0, some (.int x), a2, a3, a4] S M = rn ca C_X11_lag 26 [a0, some (.int x), a2, a3, a4] (.int x :: S) M := (rn_at k_X11_lag_25).trans rfl
theorem k_X11_lag_26 : lk 26 C_X11_lag = some (.iload_n 3, (0, 0, 0, 0)) := by decide +kernel
theorem s_X11_lag_26 {ca : Nat → List Value → tM → tO} {M : tM} {a0 a1 a2 a4 : Option Value} {x : Int32} {S : List Value} : rn ca C_X11_lag 26 [a0, a1, a2, some (.int x), a4] S M = rn ca C_X11_lag 27 [a0, a1, a2, some (.int x), a4] (.int x :: S) M := (rn_at k_X11_lag_26).trans rfl
theorem k_X11_lag_27 : lk 27 C_X11_lag = some (.invokevirtual 278, (210, 2, 11, 989)) := by decide +kernel
theorem s_X11_lag_27 {ca : Nat → List Value → tM → tO} {M : tM} {L : tL} {v1 v2 : Value} {r0 : Int32} {b : Nat} : rn ca C_X11_lag 27 L [v2, v1, .ref b, .int r0] M = if clsO b = some 11 then rnk ca C_X11_lag 30 L [.int r0] (ca m_X11_heard [.ref b, v1, v2] M) else none := (rn_at k_X11_lag_27).trans rnx_ite
theorem k_X11_lag_30 : lk 30 C_X11_lag = some (.isub, (0, 0, 0, 0)) := by decide +kernel
theorem s_X11_lag_30 {ca : Nat → List Value → tM → tO} {M : tM} {L : tL} {x y : Int32} {S : List Value} : rn ca C_X11_lag 30 L (.int y :: .int x :: S) M = rn ca C_X11_lag 31 L (.int (x - y) :: S) M := (rn_at k_X11_lag_30).trans rfl
theorem k_X11_lag_31 : lk 31 C_X11_lag = some (.ireturn, (0, 0, 0, 0)) := by decide +kernel
theorem s_X11_lag_31 {ca : Nat → List Value → tM → tO} {M : tM} {L : tL} {x : Int32} : rn ca C_X11_lag 31 L [.int x] M = some (some (.int x), M) := (rn_at k_X11_lag_31).trans rfl
theorem k_X11_listen_0 : lk 0 C_X11_listen = some (.aload_n 0, (0, 0, 0, 0)) := by decide +kernel
theorem s_X11_listen_0 {ca : Nat → List Value → tM → tO} {M : tM} {a1 a2 a3 a4 a5 a6 a7 a8 a9 a10 a11 a12 a13 : Option Value} {x : Nat} {S : List Value} : rn ca C_X11_listen 0 [some (.ref x), a1, a2, a3, a4, a5, a6, a7, a8, a9, a10, a11, a12, a13] S M = rn ca C_X11_listen 1 [some (.ref x), a1, a2, a3, a4, a5, a6, a7, a8, a9, a10, a11, a12, a13] (.ref x :: S) M := (rn_at k_X11_listen_0).trans rfl
theorem k_X11_listen_1 : lk 1 C_X11_listen = some (.iload_n 1, (0, 0, 0, 0)) := by decide +kernel
theorem s_X11_listen_1 {ca : Nat → List Value → tM → tO} {M : tM} {a0 a2 a3 a4 a5 a6 a7 a8 a9 a10 a11 a12 a13 : Option Value} {x : Int32} {S : List Value} : rn ca C_X11_listen 1 [a0, some (.int x), a2, a3, a4, a5, a6, a7, a8, a9, a10, a11, a12, a13] S M = rn ca C_X11_listen 2 [a0, some (.int x), a2, a3, a4, a5, a6, a7, a8, a9, a10, a11, a12, a13] (.int x :: S) M := (rn_at k_X11_listen_1).trans rfl
theorem k_X11_listen_2 : lk 2 C_X11_listen = some (.iload_n 2, (0, 0, 0, 0)) := by decide +kernel
theorem s_X11_listen_2 {ca : Nat → List Value → tM → tO} {M : tM} {a0 a1 a3 a4 a5 a6 a7 a8 a9 a10 a11 a12 a13 : Option Value} {x : Int32} {S : List Value} : rn ca C_X11_listen 2 [a0, a1, some (.int x), a3, a4, a5, a6, a7, a8, a9, a10, a11, a12, a13] S M = rn ca C_X11_listen 3 [a0, a1, some (.int x), a3, a4, a5, a6, a7, a8, a9, a10, a11, a12, a13] (.int x :: S) M := (rn_at k_X11_listen_2).trans rfl
theorem k_X11_listen_3 : lk 3 C_X11_listen = some (.invokevirtual 281, (211, 2, 11, 975)) := by decide +kernel
theorem s_X11_listen_3 {ca : Nat → List Value → tM → tO} {M : tM} {L : tL} {v1 v2 : Value} {b : Nat} : rn ca C_X11_listen 3 L [v2, v1, .ref b] M = if clsO b = some 11 then rnk ca C_X11_listen 6 L [] (ca m_X11_knocks [.ref b, v1, v2] M) else none := (rn_at k_X11_listen_3).trans rnx_ite
theorem k_X11_listen_6 : lk 6 C_X11_listen = some (.istore_n 3, (0, 0, 0, 0)) := by decide +kernel
theorem s_X11_listen_6 {ca : Nat → List Value → tM → tO} {M : tM} {a0 a1 a2 a3 a4 a5 a6 a7 a8 a9 a10 a11 a12 a13 : Option Value} {x : Int32} {S : List Value} : rn ca C_X11_listen 6 [a0, a1, a2, a3, a4, a5, a6, a7, a8, a9, a10, a11, a12, a13] (.int x :: S) M = rn ca C_X11_listen 7 [a0, a1, a2, some (.int x), a4, a5, a6, a7, a8, a9, a10, a11, a12, a13] S M := (rn_at k_X11_listen_6).trans rfl
theorem k_X11_listen_7 : lk 7 C_X11_listen = some (.iload_n 3, (0, 0, 0, 0)) := by decide +kernel
theorem s_X11_listen_7 {ca : Nat → List Value → tM → tO} {M : tM} {a0 a1 a2 a4 a5 a6 a7 a8 a9 a10 a11 a12 a13 : Option Value} {x : Int32} {S : List Value} : rn ca C_X11_listen 7 [a0, a1, a2, some (.int x), a4, a5, a6, a7, a8, a9, a10, a11, a12, a13] S M = rn ca C_X11_listen 8 [a0, a1, a2, some (.int x), a4, a5, a6, a7, a8, a9, a10, a11, a12, a13] (.int x :: S) M := (rn_at k_X11_listen_7).trans rfl
theorem k_X11_listen_8 : lk 8 C_X11_listen = some (.ifCond .ge 9, (17, 0, 0, 0)) := by decide +kernel
theorem s_X11_listen_8 {ca : Nat → List Value → tM → tO} {M : tM} {L : tL} {x : Int32} {S : List Value} : rn ca C_X11_listen 8 L (.int x :: S) M = if iI 0 ≤ x then rn ca C_X11_listen 17 L S M else rn ca C_X11_listen 11 L S M := (rn_at k_X11_listen_8).trans rnx_ite
theorem k_X11_listen_11 : lk 11 C_X11_listen = some (.aload_n 0, (0, 0, 0, 0)) := by decide +kernel
theorem s_X11_listen_11 {ca : Nat → List Value → tM → tO} {M : tM} {a1 a2 a3 a4 a5 a6 a7 a8 a9 a10 a11 a12 a13 : Option Value} {x : Nat} {S : List Value} : rn ca C_X11_listen 11 [some (.ref x), a1, a2, a3, a4, a5, a6, a7, a8, a9, a10, a11, a12, a13] S M = rn ca C_X11_listen 12 [some (.ref x), a1, a2, a3, a4, a5, a6, a7, a8, a9, a10, a11, a12, a13] (.ref x :: S) M := (rn_at k_X11_listen_11).trans rfl
theorem k_X11_listen_12 : lk 12 C_X11_listen = some (.iload_n 3, (0, 0, 0, 0)) := by decide +kernel
theorem s_X11_listen_12 {ca : Nat → List Value → tM → tO} {M : tM} {a0 a1 a2 a4 a5 a6 a7 a8 a9 a10 a11 a12 a13 : Option Value} {x : Int32} {S : List Value} : rn ca C_X11_listen 12 [a0, a1, a2, some (.int x), a4, a5, a6, a7, a8, a9, a10, a11, a12, a13] S M = rn ca C_X11_listen 13 [a0, a1, a2, some (.int x), a4, a5, a6, a7, a8, a9, a10, a11, a12, a13] (.int x :: S) M := (rn_at k_X11_listen_12).trans rfl
theorem k_X11_listen_13 : lk 13 C_X11_listen = some (.invokevirtual 233, (145, 1, 11, 749)) := by decide +kernel
theorem s_X11_listen_13 {ca : Nat → List Value → tM → tO} {M : tM} {L : tL} {v1 : Value} {b : Nat} : rn ca C_X11_listen 13 L [v1, .ref b] M = if clsO b = some 11 then rnk ca C_X11_listen 16 L [] (ca m_X11_refuseBy10 [.ref b, v1] M) else none := (rn_at k_X11_listen_13).trans rnx_ite
theorem k_X11_listen_16 : lk 16 C_X11_listen = some (.ireturn, (0, 0, 0, 0)) := by decide +kernel
theorem s_X11_listen_16 {ca : Nat → List Value → tM → tO} {M : tM} {L : tL} {x : Int32} : rn ca C_X11_listen 16 L [.int x] M = some (some (.int x), M) := (rn_at k_X11_listen_16).trans rfl
theorem k_X11_listen_17 : lk 17 C_X11_listen = some (.aload_n 0, (0, 0, 0, 0)) := by decide +kernel
theorem s_X11_listen_17 {ca : Nat → List Value → tM → tO} {M : tM} {a1 a2 a3 a4 a5 a6 a7 a8 a9 a10 a11 a12 a13 : Option Value} {x : Nat} {S : List Value} : rn ca C_X11_listen 17 [some (.ref x), a1, a2, a3, a4, a5, a6, a7, a8, a9, a10, a11, a12, a13] S M = rn ca C_X11_listen 18 [some (.ref x), a1, a2, a3, a4, a5, a6, a7, a8, a9, a10, a11, a12, a13] (.ref x :: S) M := (rn_at k_X11_listen_17).trans rfl
theorem k_X11_listen_18 : lk 18 C_X11_listen = some (.iload_n 1, (0, 0, 0, 0)) := by decide +kernel
theorem s_X11_listen_18 {ca : Nat → List Value → tM → tO} {M : tM} {a0 a2 a3 a4 a5 a6 a7 a8 a9 a10 a11 a12 a13 : Option Value} {x : Int32} {S : List Value} : rn ca C_X11_listen 18 [a0, some (.int x), a2, a3, a4, a5, a6, a7, a8, a9, a10, a11, a12, a13] S M = rn ca C_X11_listen 19 [a0, some (.int x), a2, a3, a4, a5, a6, a7, a8, a9, a10, a11, a12, a13] (.int x :: S) M := (rn_at k_X11_listen_18).trans rfl
theorem k_X11_listen_19 : lk 19 C_X11_listen = some (.iload_n 2, (0, 0, 0, 0)) := by decide +kernel
theorem s_X11_listen_19 {ca : Nat → List Value → tM → tO} {M : tM} {a0 a1 a3 a4 a5 a6 a7 a8 a9 a10 a11 a12 a13 : Option Value} {x : Int32} {S : List Value} : rn ca C_X11_listen 19 [a0, a1, some (.int x), a3, a4, a5, a6, a7, a8, a9, a10, a11, a12, a13] S M = rn ca C_X11_listen 20 [a0, a1, some (.int x), a3, a4, a5, a6, a7, a8, a9, a10, a11, a12, a13] (.int x :: S) M := (rn_at k_X11_listen_19).trans rfl
theorem k_X11_listen_20 : lk 20 C_X11_listen = some (.invokevirtual 284, (212, 2, 11, 981)) := by decide +kernel
theorem s_X11_listen_20 {ca : Nat → List Value → tM → tO} {M : tM} {L : tL} {v1 v2 : Value} {b : Nat} : rn ca C_X11_listen 20 L [v2, v1, .ref b] M = if clsO b = some 11 then rnk ca C_X11_listen 23 L [] (ca m_X11_fit [.ref b, v1, v2] M) else none := (rn_at k_X11_listen_20).trans rnx_ite
theorem k_X11_listen_23 : lk 23 C_X11_listen = some (.istore 4, (0, 0, 0, 0)) := by decide +kernel
theorem s_X11_listen_23 {ca : Nat → List Value → tM → tO} {M : tM} {a0 a1 a2 a3 a4 a5 a6 a7 a8 a9 a10 a11 a12 a13 : Option Value} {x : Int32} {S : List Value} : rn ca C_X11_listen 23 [a0, a1, a2, a3, a4, a5, a6, a7, a8, a9, a10, a11, a12, a13] (.int x :: S) M = rn ca C_X11_listen 25 [a0, a1, a2, a3, some (.int x), a5, a6, a7, a8, a9, a10, a11, a12, a13] S M := (rn_at k_X11_listen_23).trans rfl
theorem k_X11_listen_25 : lk 25 C_X11_listen = some (.iconst 0, (0, 0, 0, 0)) := by decide +kernel
theorem s_X11_listen_25 {ca : Nat → List Value → tM → tO} {M : tM} {L : tL} {S : List Value} : rn ca C_X11_listen 25 L S M = rn ca C_X11_listen 26 L (.int (iI 0) :: S) M := (rn_at k_X11_listen_25).trans rfl
theorem k_X11_listen_26 : lk 26 C_X11_listen = some (.istore 5, (0, 0, 0, 0)) := by decide +kernel
theorem s_X11_listen_26 {ca : Nat → List Value → tM → tO} {M : tM} {a0 a1 a2 a3 a4 a5 a6 a7 a8 a9 a10 a11 a12 a13 : Option Value} {x : Int32} {S : List Value} : rn ca C_X11_listen 26 [a0, a1, a2, a3, a4, a5, a6, a7, a8, a9, a10, a11, a12, a13] (.int x :: S) M = rn ca C_X11_listen 28 [a0, a1, a2, a3, a4, some (.int x), a6, a7, a8, a9, a10, a11, a12, a13] S M := (rn_at k_X11_listen_26).trans rfl
theorem k_X11_listen_28 : lk 28 C_X11_listen = some (.iconst 0, (0, 0, 0, 0)) := by decide +kernel
theorem s_X11_listen_28 {ca : Nat → List Value → tM → tO} {M : tM} {L : tL} {S : List Value} : rn ca C_X11_listen 28 L S M = rn ca C_X11_listen 29 L (.int (iI 0) :: S) M := (rn_at k_X11_listen_28).trans rfl
theorem k_X11_listen_29 : lk 29 C_X11_listen = some (.istore 6, (0, 0, 0, 0)) := by decide +kernel
theorem s_X11_listen_29 {ca : Nat → List Value → tM → tO} {M : tM} {a0 a1 a2 a3 a4 a5 a6 a7 a8 a9 a10 a11 a12 a13 : Option Value} {x : Int32} {S : List Value} : rn ca C_X11_listen 29 [a0, a1, a2, a3, a4, a5, a6, a7, a8, a9, a10, a11, a12, a13] (.int x :: S) M = rn ca C_X11_listen 31 [a0, a1, a2, a3, a4, a5, some (.int x), a7, a8, a9, a10, a11, a12, a13] S M := (rn_at k_X11_listen_29).trans rfl
theorem k_X11_listen_31 : lk 31 C_X11_listen = some (.iload 6, (0, 0, 0, 0)) := by decide +kernel
theorem s_X11_listen_31 {ca : Nat → List Value → tM → tO} {M : tM} {a0 a1 a2 a3 a4 a5 a7 a8 a9 a10 a11 a12 a13 : Option Value} {x : Int32} {S : List Value} : rn ca C_X11_listen 31 [a0, a1, a2, a3, a4, a5, some (.int x), a7, a8, a9, a10, a11, a12, a13] S M = rn ca C_X11_listen 33 [a0, a1, a2, a3, a4, a5, some (.int x), a7, a8, a9, a10, a11, a12, a13] (.int x :: S) M := (rn_at k_X11_listen_31).trans rfl
theorem k_X11_listen_33 : lk 33 C_X11_listen = some (.iload_n 2, (0, 0, 0, 0)) := by decide +kernel
theorem s_X11_listen_33 {ca : Nat → List Value → tM → tO} {M : tM} {a0 a1 a3 a4 a5 a6 a7 a8 a9 a10 a11 a12 a13 : Option Value} {x : Int32} {S : List Value} : rn ca C_X11_listen 33 [a0, a1, some (.int x), a3, a4, a5, a6, a7, a8, a9, a10, a11, a12, a13] S M = rn ca C_X11_listen 34 [a0, a1, some (.int x), a3, a4, a5, a6, a7, a8, a9, a10, a11, a12, a13] (.int x :: S) M := (rn_at k_X11_listen_33).trans rfl
theorem k_X11_listen_34 : lk 34 C_X11_listen = some (.if_icmp .ge 25, (59, 0, 0, 0)) := by decide +kernel
theorem s_X11_listen_34 {ca : Nat → List Value → tM → tO} {M : tM} {L : tL} {x y : Int32} {S : List Value} : rn ca C_X11_listen 34 L (.int y :: .int x :: S) M = if y ≤ x then rn ca C_X11_listen 59 L S M else rn ca C_X11_listen 37 L S M := (rn_at k_X11_listen_34).trans rnx_ite
theorem k_X11_listen_37 : lk 37 C_X11_listen = some (.iload 5, (0, 0, 0, 0)) := by decide +kernel
theorem s_X11_listen_37 {ca : Nat → List Value → tM → tO} {M : tM} {a0 a1 a2 a3 a4 a6 a7 a8 a9 a10 a11 a12 a13 : Option Value} {x : Int32} {S : List Value} : rn ca C_X11_listen 37 [a0, a1, a2, a3, a4, some (.int x), a6, a7, a8, a9, a10, a11, a12, a13] S M = rn ca C_X11_listen 39 [a0, a1, a2, a3, a4, some (.int x), a6, a7, a8, a9, a10, a11, a12, a13] (.int x :: S) M := (rn_at k_X11_listen_37).trans rfl
theorem k_X11_listen_39 : lk 39 C_X11_listen = some (.iconst 1, (0, 0, 0, 0)) := by decide +kernel
theorem s_X11_listen_39 {ca : Nat → List Value → tM → tO} {M : tM} {L : tL} {S : List Value} : rn ca C_X11_listen 39 L S M = rn ca C_X11_listen 40 L (.int (iI 1) :: S) M := (rn_at k_X11_listen_39).trans rfl
theorem k_X11_listen_40 : lk 40 C_X11_listen = some (.aload_n 0, (0, 0, 0, 0)) := by decide +kernel
theorem s_X11_listen_40 {ca : Nat → List Value → tM → tO} {M : tM} {a1 a2 a3 a4 a5 a6 a7 a8 a9 a10 a11 a12 a13 : Option Value} {x : Nat} {S : List Value} : rn ca C_X11_listen 40 [some (.ref x), a1, a2, a3, a4, a5, a6, a7, a8, a9, a10, a11, a12, a13] S M = rn ca C_X11_listen 41 [some (.ref x), a1, a2, a3, a4, a5, a6, a7, a8, a9, a10, a11, a12, a13] (.ref x :: S) M := (rn_at k_X11_listen_40).trans rfl
theorem k_X11_listen_41 : lk 41 C_X11_listen = some (.iload_n 1, (0, 0, 0, 0)) := by decide +kernel
theorem s_X11_listen_41 {ca : Nat → List Value → tM → tO} {M : tM} {a0 a2 a3 a4 a5 a6 a7 a8 a9 a10 a11 a12 a13 : Option Value} {x : Int32} {S : List Value} : rn ca C_X11_listen 41 [a0, some (.int x), a2, a3, a4, a5, a6, a7, a8, a9, a10, a11, a12, a13] S M = rn ca C_X11_listen 42 [a0, some (.int x), a2, a3, a4, a5, a6, a7, a8, a9, a10, a11, a12, a13] (.int x :: S) M := (rn_at k_X11_listen_41).trans rfl
theorem k_X11_listen_42 : lk 42 C_X11_listen = some (.iconst 2, (0, 0, 0, 0)) := by decide +kernel
theorem s_X11_listen_42 {ca : Nat → List Value → tM → tO} {M : tM} {L : tL} {S : List Value} : rn ca C_X11_listen 42 L S M = rn ca C_X11_listen 43 L (.int (iI 2) :: S) M := (rn_at k_X11_listen_42).trans rfl
theorem k_X11_listen_43 : lk 43 C_X11_listen = some (.iload 6, (0, 0, 0, 0)) := by decide +kernel
theorem s_X11_listen_43 {ca : Nat → List Value → tM → tO} {M : tM} {a0 a1 a2 a3 a4 a5 a7 a8 a9 a10 a11 a12 a13 : Option Value} {x : Int32} {S : List Value} : rn ca C_X11_listen 43 [a0, a1, a2, a3, a4, a5, some (.int x), a7, a8, a9, a10, a11, a12, a13] S M = rn ca C_X11_listen 45 [a0, a1, a2, a3, a4, a5, some (.int x), a7, a8, a9, a10, a11, a12, a13] (.int x :: S) M := (rn_at k_X11_listen_43).trans rfl
theorem k_X11_listen_45 : lk 45 C_X11_listen = some (.imul, (0, 0, 0, 0)) := by decide +kernel
theorem s_X11_listen_45 {ca : Nat → List Value → tM → tO} {M : tM} {L : tL} {x y : Int32} {S : List Value} : rn ca C_X11_listen 45 L (.int y :: .int x :: S) M = rn ca C_X11_listen 46 L (.int (x * y) :: S) M := (rn_at k_X11_listen_45).trans rfl
theorem k_X11_listen_46 : lk 46 C_X11_listen = some (.invokevirtual 152, (177, 2, 11, 632)) := by decide +kernel
theorem s_X11_listen_46 {ca : Nat → List Value → tM → tO} {M : tM} {L : tL} {v1 v2 : Value} {r0 : Int32} {r1 : Int32} {b : Nat} : rn ca C_X11_listen 46 L [v2, v1, .ref b, .int r0, .int r1] M = if clsO b = some 11 then rnk ca C_X11_listen 49 L [.int r0, .int r1] (ca m_X11_told [.ref b, v1, v2] M) else none := (rn_at k_X11_listen_46).trans rnx_ite
theorem k_X11_listen_49 : lk 49 C_X11_listen = some (.ishl, (0, 0, 0, 0)) := by decide +kernel
theorem s_X11_listen_49 {ca : Nat → List Value → tM → tO} {M : tM} {L : tL} {x y : Int32} {S : List Value} : rn ca C_X11_listen 49 L (.int y :: .int x :: S) M = rn ca C_X11_listen 50 L (.int (x <<< (y &&& 31)) :: S) M := (rn_at k_X11_listen_49).trans rfl
theorem k_X11_listen_50 : lk 50 C_X11_listen = some (.ior, (0, 0, 0, 0)) := by decide +kernel
theorem s_X11_listen_50 {ca : Nat → List Value → tM → tO} {M : tM} {L : tL} {x y : Int32} {S : List Value} : rn ca C_X11_listen 50 L (.int y :: .int x :: S) M = rn ca C_X11_listen 51 L (.int (x ||| y) :: S) M := (rn_at k_X11_listen_50).trans rfl
theorem k_X11_listen_51 : lk 51 C_X11_listen = some (.istore 5, (0, 0, 0, 0)) := by decide +kernel
theorem s_X11_listen_51 {ca : Nat → List Value → tM → tO} {M : tM} {a0 a1 a2 a3 a4 a5 a6 a7 a8 a9 a10 a11 a12 a13 : Option Value} {x : Int32} {S : List Value} : rn ca C_X11_listen 51 [a0, a1, a2, a3, a4, a5, a6, a7, a8, a9, a10, a11, a12, a13] (.int x :: S) M = rn ca C_X11_listen 53 [a0, a1, a2, a3, a4, some (.int x), a6, a7, a8, a9, a10, a11, a12, a13] S M := (rn_at k_X11_listen_51).trans rfl
theorem k_X11_listen_53 : lk 53 C_X11_listen = some (.iinc 6 1, (0, 0, 0, 0)) := by decide +kernel
theorem s_X11_listen_53 {ca : Nat → List Value → tM → tO} {M : tM} {a0 a1 a2 a3 a4 a5 a7 a8 a9 a10 a11 a12 a13 : Option Value} {x : Int32} {S : List Value} : rn ca C_X11_listen 53 [a0, a1, a2, a3, a4, a5, some (.int x), a7, a8, a9, a10, a11, a12, a13] S M = rn ca C_X11_listen 56 [a0, a1, a2, a3, a4, a5, some (.int (x + iI 1)), a7, a8, a9, a10, a11, a12, a13] S M := (rn_at k_X11_listen_53).trans rfl
theorem k_X11_listen_56 : lk 56 C_X11_listen = some (.goto (-25), (31, 0, 0, 0)) := by decide +kernel
theorem s_X11_listen_56 {ca : Nat → List Value → tM → tO} {M : tM} {L : tL} {S : List Value} : rn ca C_X11_listen 56 L S M = rn ca C_X11_listen 31 L S M := (rn_at k_X11_listen_56).trans rfl
theorem k_X11_listen_59 : lk 59 C_X11_listen = some (.iconst (-1), (0, 0, 0, 0)) := by decide +kernel
theorem s_X11_listen_59 {ca : Nat → List Value → tM → tO} {M : tM} {L : tL} {S : List Value} : rn ca C_X11_listen 59 L S M = rn ca C_X11_listen 60 L (.int (iI (-1)) :: S) M := (rn_at k_X11_listen_59).trans rfl
theorem k_X11_listen_60 : lk 60 C_X11_listen = some (.istore 6, (0, 0, 0, 0)) := by decide +kernel
theorem s_X11_listen_60 {ca : Nat → List Value → tM → tO} {M : tM} {a0 a1 a2 a3 a4 a5 a6 a7 a8 a9 a10 a11 a12 a13 : Option Value} {x : Int32} {S : List Value} : rn ca C_X11_listen 60 [a0, a1, a2, a3, a4, a5, a6, a7, a8, a9, a10, a11, a12, a13] (.int x :: S) M = rn ca C_X11_listen 62 [a0, a1, a2, a3, a4, a5, some (.int x), a7, a8, a9, a10, a11, a12, a13] S M := (rn_at k_X11_listen_60).trans rfl
theorem k_X11_listen_62 : lk 62 C_X11_listen = some (.bipush 17, (0, 0, 0, 0)) := by decide +kernel
theorem s_X11_listen_62 {ca : Nat → List Value → tM → tO} {M : tM} {L : tL} {S : List Value} : rn ca C_X11_listen 62 L S M = rn ca C_X11_listen 64 L (.int (iI 17) :: S) M := (rn_at k_X11_listen_62).trans rfl
theorem k_X11_listen_64 : lk 64 C_X11_listen = some (.istore 7, (0, 0, 0, 0)) := by decide +kernel
theorem s_X11_listen_64 {ca : Nat → List Value → tM → tO} {M : tM} {a0 a1 a2 a3 a4 a5 a6 a7 a8 a9 a10 a11 a12 a13 : Option Value} {x : Int32} {S : List Value} : rn ca C_X11_listen 64 [a0, a1, a2, a3, a4, a5, a6, a7, a8, a9, a10, a11, a12, a13] (.int x :: S) M = rn ca C_X11_listen 66 [a0, a1, a2, a3, a4, a5, a6, some (.int x), a8, a9, a10, a11, a12, a13] S M := (rn_at k_X11_listen_64).trans rfl
theorem k_X11_listen_66 : lk 66 C_X11_listen = some (.iconst 0, (0, 0, 0, 0)) := by decide +kernel
theorem s_X11_listen_66 {ca : Nat → List Value → tM → tO} {M : tM} {L : tL} {S : List Value} : rn ca C_X11_listen 66 L S M = rn ca C_X11_listen 67 L (.int (iI 0) :: S) M := (rn_at k_X11_listen_66).trans rfl
theorem k_X11_listen_67 : lk 67 C_X11_listen = some (.istore 8, (0, 0, 0, 0)) := by decide +kernel
theorem s_X11_listen_67 {ca : Nat → List Value → tM → tO} {M : tM} {a0 a1 a2 a3 a4 a5 a6 a7 a8 a9 a10 a11 a12 a13 : Option Value} {x : Int32} {S : List Value} : rn ca C_X11_listen 67 [a0, a1, a2, a3, a4, a5, a6, a7, a8, a9, a10, a11, a12, a13] (.int x :: S) M = rn ca C_X11_listen 69 [a0, a1, a2, a3, a4, a5, a6, a7, some (.int x), a9, a10, a11, a12, a13] S M := (rn_at k_X11_listen_67).trans rfl
theorem k_X11_listen_69 : lk 69 C_X11_listen = some (.iload 8, (0, 0, 0, 0)) := by decide +kernel
theorem s_X11_listen_69 {ca : Nat → List Value → tM → tO} {M : tM} {a0 a1 a2 a3 a4 a5 a6 a7 a9 a10 a11 a12 a13 : Option Value} {x : Int32} {S : List Value} : rn ca C_X11_listen 69 [a0, a1, a2, a3, a4, a5, a6, a7, some (.int x), a9, a10, a11, a12, a13] S M = rn ca C_X11_listen 71 [a0, a1, a2, a3, a4, a5, a6, a7, some (.int x), a9, a10, a11, a12, a13] (.int x :: S) M := (rn_at k_X11_listen_69).trans rfl
theorem k_X11_listen_71 : lk 71 C_X11_listen = some (.aload_n 0, (0, 0, 0, 0)) := by decide +kernel
theorem s_X11_listen_71 {ca : Nat → List Value → tM → tO} {M : tM} {a1 a2 a3 a4 a5 a6 a7 a8 a9 a10 a11 a12 a13 : Option Value} {x : Nat} {S : List Value} : rn ca C_X11_listen 71 [some (.ref x), a1, a2, a3, a4, a5, a6, a7, a8, a9, a10, a11, a12, a13] S M = rn ca C_X11_listen 72 [some (.ref x), a1, a2, a3, a4, a5, a6, a7, a8, a9, a10, a11, a12, a13] (.ref x :: S) M := (rn_at k_X11_listen_71).trans rfl
theorem k_X11_listen_72 : lk 72 C_X11_listen = some (.getfield 17, (11, 1, 0, 147)) := by decide +kernel
theorem s_X11_listen_72 {ca : Nat → List Value → tM → tO} {M : tM} {L : tL} {b : Nat} {S : List Value} : rn ca C_X11_listen 72 L (.ref b :: S) M = if clsO b = some 11 then rn ca C_X11_listen 75 L (fv M b 1 :: S) M else none := (rn_at k_X11_listen_72).trans rnx_ite
theorem k_X11_listen_75 : lk 75 C_X11_listen = some (.bipush 108, (0, 0, 0, 0)) := by decide +kernel
theorem s_X11_listen_75 {ca : Nat → List Value → tM → tO} {M : tM} {L : tL} {S : List Value} : rn ca C_X11_listen 75 L S M = rn ca C_X11_listen 77 L (.int (iI 108) :: S) M := (rn_at k_X11_listen_75).trans rfl
theorem k_X11_listen_77 : lk 77 C_X11_listen = some (.iaload, (0, 0, 0, 0)) := by decide +kernel
theorem s_X11_listen_77 {ca : Nat → List Value → tM → tO} {M : tM} {L : tL} {a : Nat} {i : Int32} {S : List Value} : rn ca C_X11_listen 77 L (.int i :: .ref a :: S) M = if (akind a = 0 ∨ akind a = 6 ∨ akind a = 7) ∧ inb i (alen M a) then rn ca C_X11_listen 78 L (.int (M.1 a i.toInt.toNat) :: S) M else none := (rn_at k_X11_listen_77).trans rnx_ite
theorem k_X11_listen_78 : lk 78 C_X11_listen = some (.if_icmp .ge 170, (248, 0, 0, 0)) := by decide +kernel
theorem s_X11_listen_78 {ca : Nat → List Value → tM → tO} {M : tM} {L : tL} {x y : Int32} {S : List Value} : rn ca C_X11_listen 78 L (.int y :: .int x :: S) M = if y ≤ x then rn ca C_X11_listen 248 L S M else rn ca C_X11_listen 81 L S M := (rn_at k_X11_listen_78).trans rnx_ite
theorem k_X11_listen_81 : lk 81 C_X11_listen = some (.iload 4, (0, 0, 0, 0)) := by decide +kernel
theorem s_X11_listen_81 {ca : Nat → List Value → tM → tO} {M : tM} {a0 a1 a2 a3 a5 a6 a7 a8 a9 a10 a11 a12 a13 : Option Value} {x : Int32} {S : List Value} : rn ca C_X11_listen 81 [a0, a1, a2, a3, some (.int x), a5, a6, a7, a8, a9, a10, a11, a12, a13] S M = rn ca C_X11_listen 83 [a0, a1, a2, a3, some (.int x), a5, a6, a7, a8, a9, a10, a11, a12, a13] (.int x :: S) M := (rn_at k_X11_listen_81).trans rfl
theorem k_X11_listen_83 : lk 83 C_X11_listen = some (.invokestatic 252, (201, 1, 0, 860)) := by decide +kernel
theorem s_X11_listen_83 {ca : Nat → List Value → tM → tO} {M : tM} {L : tL} {v1 : Value} : rn ca C_X11_listen 83 L [v1] M = rnk ca C_X11_listen 86 L [] (ca m_X11_ones [v1] M) := (rn_at k_X11_listen_83).trans rfl
theorem k_X11_listen_86 : lk 86 C_X11_listen = some (.iconst 1, (0, 0, 0, 0)) := by decide +kernel
theorem s_X11_listen_86 {ca : Nat → List Value → tM → tO} {M : tM} {L : tL} {S : List Value} : rn ca C_X11_listen 86 L S M = rn ca C_X11_listen 87 L (.int (iI 1) :: S) M := (rn_at k_X11_listen_86).trans rfl
theorem k_X11_listen_87 : lk 87 C_X11_listen = some (.if_icmp .le 161, (248, 0, 0, 0)) := by decide +kernel
theorem s_X11_listen_87 {ca : Nat → List Value → tM → tO} {M : tM} {L : tL} {x y : Int32} {S : List Value} : rn ca C_X11_listen 87 L (.int y :: .int x :: S) M = if x ≤ y then rn ca C_X11_listen 248 L S M else rn ca C_X11_listen 90 L S M := (rn_at k_X11_listen_87).trans rnx_ite
theorem k_X11_listen_90 : lk 90 C_X11_listen = some (.iconst 0, (0, 0, 0, 0)) := by decide +kernel
theorem s_X11_listen_90 {ca : Nat → List Value → tM → tO} {M : tM} {L : tL} {S : List Value} : rn ca C_X11_listen 90 L S M = rn ca C_X11_listen 91 L (.int (iI 0) :: S) M := (rn_at k_X11_listen_90).trans rfl
theorem k_X11_listen_91 : lk 91 C_X11_listen = some (.istore 9, (0, 0, 0, 0)) := by decide +kernel
theorem s_X11_listen_91 {ca : Nat → List Value → tM → tO} {M : tM} {a0 a1 a2 a3 a4 a5 a6 a7 a8 a9 a10 a11 a12 a13 : Option Value} {x : Int32} {S : List Value} : rn ca C_X11_listen 91 [a0, a1, a2, a3, a4, a5, a6, a7, a8, a9, a10, a11, a12, a13] (.int x :: S) M = rn ca C_X11_listen 93 [a0, a1, a2, a3, a4, a5, a6, a7, a8, some (.int x), a10, a11, a12, a13] S M := (rn_at k_X11_listen_91).trans rfl
theorem k_X11_listen_93 : lk 93 C_X11_listen = some (.iconst 0, (0, 0, 0, 0)) := by decide +kernel
theorem s_X11_listen_93 {ca : Nat → List Value → tM → tO} {M : tM} {L : tL} {S : List Value} : rn ca C_X11_listen 93 L S M = rn ca C_X11_listen 94 L (.int (iI 0) :: S) M := (rn_at k_X11_listen_93).trans rfl
theorem k_X11_listen_94 : lk 94 C_X11_listen = some (.istore 10, (0, 0, 0, 0)) := by decide +kernel
theorem s_X11_listen_94 {ca : Nat → List Value → tM → tO} {M : tM} {a0 a1 a2 a3 a4 a5 a6 a7 a8 a9 a10 a11 a12 a13 : Option Value} {x : Int32} {S : List Value} : rn ca C_X11_listen 94 [a0, a1, a2, a3, a4, a5, a6, a7, a8, a9, a10, a11, a12, a13] (.int x :: S) M = rn ca C_X11_listen 96 [a0, a1, a2, a3, a4, a5, a6, a7, a8, a9, some (.int x), a11, a12, a13] S M := (rn_at k_X11_listen_94).trans rfl
theorem k_X11_listen_96 : lk 96 C_X11_listen = some (.iload 10, (0, 0, 0, 0)) := by decide +kernel
theorem s_X11_listen_96 {ca : Nat → List Value → tM → tO} {M : tM} {a0 a1 a2 a3 a4 a5 a6 a7 a8 a9 a11 a12 a13 : Option Value} {x : Int32} {S : List Value} : rn ca C_X11_listen 96 [a0, a1, a2, a3, a4, a5, a6, a7, a8, a9, some (.int x), a11, a12, a13] S M = rn ca C_X11_listen 98 [a0, a1, a2, a3, a4, a5, a6, a7, a8, a9, some (.int x), a11, a12, a13] (.int x :: S) M := (rn_at k_X11_listen_96).trans rfl
theorem k_X11_listen_98 : lk 98 C_X11_listen = some (.aload_n 0, (0, 0, 0, 0)) := by decide +kernel
theorem s_X11_listen_98 {ca : Nat → List Value → tM → tO} {M : tM} {a1 a2 a3 a4 a5 a6 a7 a8 a9 a10 a11 a12 a13 : Option Value} {x : Nat} {S : List Value} : rn ca C_X11_listen 98 [some (.ref x), a1, a2, a3, a4, a5, a6, a7, a8, a9, a10, a11, a12, a13] S M = rn ca C_X11_listen 99 [some (.ref x), a1, a2, a3, a4, a5, a6, a7, a8, a9, a10, a11, a12, a13] (.ref x :: S) M := (rn_at k_X11_listen_98).trans rfl
theorem k_X11_listen_99 : lk 99 C_X11_listen = some (.getfield 17, (11, 1, 0, 147)) := by decide +kernel
theorem s_X11_listen_99 {ca : Nat → List Value → tM → tO} {M : tM} {L : tL} {b : Nat} {S : List Value} : rn ca C_X11_listen 99 L (.ref b :: S) M = if clsO b = some 11 then rn ca C_X11_listen 102 L (fv M b 1 :: S) M else none := (rn_at k_X11_listen_99).trans rnx_ite
theorem k_X11_listen_102 : lk 102 C_X11_listen = some (.bipush 109, (0, 0, 0, 0)) := by decide +kernel
theorem s_X11_listen_102 {ca : Nat → List Value → tM → tO} {M : tM} {L : tL} {S : List Value} : rn ca C_X11_listen 102 L S M = rn ca C_X11_listen 104 L (.int (iI 109) :: S) M := (rn_at k_X11_listen_102).trans rfl
theorem k_X11_listen_104 : lk 104 C_X11_listen = some (.iaload, (0, 0, 0, 0)) := by decide +kernel
theorem s_X11_listen_104 {ca : Nat → List Value → tM → tO} {M : tM} {L : tL} {a : Nat} {i : Int32} {S : List Value} : rn ca C_X11_listen 104 L (.int i :: .ref a :: S) M = if (akind a = 0 ∨ akind a = 6 ∨ akind a = 7) ∧ inb i (alen M a) then rn ca C_X11_listen 105 L (.int (M.1 a i.toInt.toNat) :: S) M else none := (rn_at k_X11_listen_104).trans rnx_ite
theorem k_X11_listen_105 : lk 105 C_X11_listen = some (.if_icmp .ge 112, (217, 0, 0, 0)) := by decide +kernel
theorem s_X11_listen_105 {ca : Nat → List Value → tM → tO} {M : tM} {L : tL} {x y : Int32} {S : List Value} : rn ca C_X11_listen 105 L (.int y :: .int x :: S) M = if y ≤ x then rn ca C_X11_listen 217 L S M else rn ca C_X11_listen 108 L S M := (rn_at k_X11_listen_105).trans rnx_ite
theorem k_X11_listen_108 : lk 108 C_X11_listen = some (.iconst 0, (0, 0, 0, 0)) := by decide +kernel
theorem s_X11_listen_108 {ca : Nat → List Value → tM → tO} {M : tM} {L : tL} {S : List Value} : rn ca C_X11_listen 108 L S M = rn ca C_X11_listen 109 L (.int (iI 0) :: S) M := (rn_at k_X11_listen_108).trans rfl
theorem k_X11_listen_109 : lk 109 C_X11_listen = some (.istore 11, (0, 0, 0, 0)) := by decide +kernel
theorem s_X11_listen_109 {ca : Nat → List Value → tM → tO} {M : tM} {a0 a1 a2 a3 a4 a5 a6 a7 a8 a9 a10 a11 a12 a13 : Option Value} {x : Int32} {S : List Value} : rn ca C_X11_listen 109 [a0, a1, a2, a3, a4, a5, a6, a7, a8, a9, a10, a11, a12, a13] (.int x :: S) M = rn ca C_X11_listen 111 [a0, a1, a2, a3, a4, a5, a6, a7, a8, a9, a10, some (.int x), a12, a13] S M := (rn_at k_X11_listen_109).trans rfl
theorem k_X11_listen_111 : lk 111 C_X11_listen = some (.iconst 0, (0, 0, 0, 0)) := by decide +kernel
theorem s_X11_listen_111 {ca : Nat → List Value → tM → tO} {M : tM} {L : tL} {S : List Value} : rn ca C_X11_listen 111 L S M = rn ca C_X11_listen 112 L (.int (iI 0) :: S) M := (rn_at k_X11_listen_111).trans rfl
theorem k_X11_listen_112 : lk 112 C_X11_listen = some (.istore 12, (0, 0, 0, 0)) := by decide +kernel
theorem s_X11_listen_112 {ca : Nat → List Value → tM → tO} {M : tM} {a0 a1 a2 a3 a4 a5 a6 a7 a8 a9 a10 a11 a12 a13 : Option Value} {x : Int32} {S : List Value} : rn ca C_X11_listen 112 [a0, a1, a2, a3, a4, a5, a6, a7, a8, a9, a10, a11, a12, a13] (.int x :: S) M = rn ca C_X11_listen 114 [a0, a1, a2, a3, a4, a5, a6, a7, a8, a9, a10, a11, some (.int x), a13] S M := (rn_at k_X11_listen_112).trans rfl
theorem k_X11_listen_114 : lk 114 C_X11_listen = some (.iload 12, (0, 0, 0, 0)) := by decide +kernel
theorem s_X11_listen_114 {ca : Nat → List Value → tM → tO} {M : tM} {a0 a1 a2 a3 a4 a5 a6 a7 a8 a9 a10 a11 a13 : Option Value} {x : Int32} {S : List Value} : rn ca C_X11_listen 114 [a0, a1, a2, a3, a4, a5, a6, a7, a8, a9, a10, a11, some (.int x), a13] S M = rn ca C_X11_listen 116 [a0, a1, a2, a3, a4, a5, a6, a7, a8, a9, a10, a11, some (.int x), a13] (.int x :: S) M := (rn_at k_X11_listen_114).trans rfl
theorem k_X11_listen_116 : lk 116 C_X11_listen = some (.aload_n 0, (0, 0, 0, 0)) := by decide +kernel
theorem s_X11_listen_116 {ca : Nat → List Value → tM → tO} {M : tM} {a1 a2 a3 a4 a5 a6 a7 a8 a9 a10 a11 a12 a13 : Option Value} {x : Nat} {S : List Value} : rn ca C_X11_listen 116 [some (.ref x), a1, a2, a3, a4, a5, a6, a7, a8, a9, a10, a11, a12, a13] S M = rn ca C_X11_listen 117 [some (.ref x), a1, a2, a3, a4, a5, a6, a7, a8, a9, a10, a11, a12, a13] (.ref x :: S) M := (rn_at k_X11_listen_116).trans rfl
theorem k_X11_listen_117 : lk 117 C_X11_listen = some (.getfield 17, (11, 1, 0, 147)) := by decide +kernel
theorem s_X11_listen_117 {ca : Nat → List Value → tM → tO} {M : tM} {L : tL} {b : Nat} {S : List Value} : rn ca C_X11_listen 117 L (.ref b :: S) M = if clsO b = some 11 then rn ca C_X11_listen 120 L (fv M b 1 :: S) M else none := (rn_at k_X11_listen_117).trans rnx_ite
theorem k_X11_listen_120 : lk 120 C_X11_listen = some (.bipush 109, (0, 0, 0, 0)) := by decide +kernel
theorem s_X11_listen_120 {ca : Nat → List Value → tM → tO} {M : tM} {L : tL} {S : List Value} : rn ca C_X11_listen 120 L S M = rn ca C_X11_listen 122 L (.int (iI 109) :: S) M := (rn_at k_X11_listen_120).trans rfl
theorem k_X11_listen_122 : lk 122 C_X11_listen = some (.iaload, (0, 0, 0, 0)) := by decide +kernel
theorem s_X11_listen_122 {ca : Nat → List Value → tM → tO} {M : tM} {L : tL} {a : Nat} {i : Int32} {S : List Value} : rn ca C_X11_listen 122 L (.int i :: .ref a :: S) M = if (akind a = 0 ∨ akind a = 6 ∨ akind a = 7) ∧ inb i (alen M a) then rn ca C_X11_listen 123 L (.int (M.1 a i.toInt.toNat) :: S) M else none := (rn_at k_X11_listen_122).trans rnx_ite
theorem k_X11_listen_123 : lk 123 C_X11_listen = some (.if_icmp .ge 79, (202, 0, 0, 0)) := by decide +kernel
theorem s_X11_listen_123 {ca : Nat → List Value → tM → tO} {M : tM} {L : tL} {x y : Int32} {S : List Value} : rn ca C_X11_listen 123 L (.int y :: .int x :: S) M = if y ≤ x then rn ca C_X11_listen 202 L S M else rn ca C_X11_listen 126 L S M := (rn_at k_X11_listen_123).trans rnx_ite
theorem k_X11_listen_126 : lk 126 C_X11_listen = some (.iload 4, (0, 0, 0, 0)) := by decide +kernel
theorem s_X11_listen_126 {ca : Nat → List Value → tM → tO} {M : tM} {a0 a1 a2 a3 a5 a6 a7 a8 a9 a10 a11 a12 a13 : Option Value} {x : Int32} {S : List Value} : rn ca C_X11_listen 126 [a0, a1, a2, a3, some (.int x), a5, a6, a7, a8, a9, a10, a11, a12, a13] S M = rn ca C_X11_listen 128 [a0, a1, a2, a3, some (.int x), a5, a6, a7, a8, a9, a10, a11, a12, a13] (.int x :: S) M := (rn_at k_X11_listen_126).trans rfl
theorem k_X11_listen_128 : lk 128 C_X11_listen = some (.iload 10, (0, 0, 0, 0)) := by decide +kernel
theorem s_X11_listen_128 {ca : Nat → List Value → tM → tO} {M : tM} {a0 a1 a2 a3 a4 a5 a6 a7 a8 a9 a11 a12 a13 : Option Value} {x : Int32} {S : List Value} : rn ca C_X11_listen 128 [a0, a1, a2, a3, a4, a5, a6, a7, a8, a9, some (.int x), a11, a12, a13] S M = rn ca C_X11_listen 130 [a0, a1, a2, a3, a4, a5, a6, a7, a8, a9, some (.int x), a11, a12, a13] (.int x :: S) M := (rn_at k_X11_listen_128).trans rfl
theorem k_X11_listen_130 : lk 130 C_X11_listen = some (.ishr, (0, 0, 0, 0)) := by decide +kernel
theorem s_X11_listen_130 {ca : Nat → List Value → tM → tO} {M : tM} {L : tL} {x y : Int32} {S : List Value} : rn ca C_X11_listen 130 L (.int y :: .int x :: S) M = rn ca C_X11_listen 131 L (.int (x >>> (y &&& 31)) :: S) M := (rn_at k_X11_listen_130).trans rfl
theorem k_X11_listen_131 : lk 131 C_X11_listen = some (.iload 4, (0, 0, 0, 0)) := by decide +kernel
theorem s_X11_listen_131 {ca : Nat → List Value → tM → tO} {M : tM} {a0 a1 a2 a3 a5 a6 a7 a8 a9 a10 a11 a12 a13 : Option Value} {x : Int32} {S : List Value} : rn ca C_X11_listen 131 [a0, a1, a2, a3, some (.int x), a5, a6, a7, a8, a9, a10, a11, a12, a13] S M = rn ca C_X11_listen 133 [a0, a1, a2, a3, some (.int x), a5, a6, a7, a8, a9, a10, a11, a12, a13] (.int x :: S) M := (rn_at k_X11_listen_131).trans rfl
theorem k_X11_listen_133 : lk 133 C_X11_listen = some (.iload 12, (0, 0, 0, 0)) := by decide +kernel
theorem s_X11_listen_133 {ca : Nat → List Value → tM → tO} {M : tM} {a0 a1 a2 a3 a4 a5 a6 a7 a8 a9 a10 a11 a13 : Option Value} {x : Int32} {S : List Value} : rn ca C_X11_listen 133 [a0, a1, a2, a3, a4, a5, a6, a7, a8, a9, a10, a11, some (.int x), a13] S M = rn ca C_X11_listen 135 [a0, a1, a2, a3, a4, a5, a6, a7, a8, a9, a10, a11, some (.int x), a13] (.int x :: S) M := (rn_at k_X11_listen_133).trans rfl
theorem k_X11_listen_135 : lk 135 C_X11_listen = some (.ishr, (0, 0, 0, 0)) := by decide +kernel
theorem s_X11_listen_135 {ca : Nat → List Value → tM → tO} {M : tM} {L : tL} {x y : Int32} {S : List Value} : rn ca C_X11_listen 135 L (.int y :: .int x :: S) M = rn ca C_X11_listen 136 L (.int (x >>> (y &&& 31)) :: S) M := (rn_at k_X11_listen_135).trans rfl
theorem k_X11_listen_136 : lk 136 C_X11_listen = some (.iand, (0, 0, 0, 0)) := by decide +kernel
theorem s_X11_listen_136 {ca : Nat → List Value → tM → tO} {M : tM} {L : tL} {x y : Int32} {S : List Value} : rn ca C_X11_listen 136 L (.int y :: .int x :: S) M = rn ca C_X11_listen 137 L (.int (x &&& y) :: S) M := (rn_at k_X11_listen_136).trans rfl
theorem k_X11_listen_137 : lk 137 C_X11_listen = some (.iconst 1, (0, 0, 0, 0)) := by decide +kernel
theorem s_X11_listen_137 {ca : Nat → List Value → tM → tO} {M : tM} {L : tL} {S : List Value} : rn ca C_X11_listen 137 L S M = rn ca C_X11_listen 138 L (.int (iI 1) :: S) M := (rn_at k_X11_listen_137).trans rfl
theorem k_X11_listen_138 : lk 138 C_X11_listen = some (.iand, (0, 0, 0, 0)) := by decide +kernel
theorem s_X11_listen_138 {ca : Nat → List Value → tM → tO} {M : tM} {L : tL} {x y : Int32} {S : List Value} : rn ca C_X11_listen 138 L (.int y :: .int x :: S) M = rn ca C_X11_listen 139 L (.int (x &&& y) :: S) M := (rn_at k_X11_listen_138).trans rfl
theorem k_X11_listen_139 : lk 139 C_X11_listen = some (.iconst 1, (0, 0, 0, 0)) := by decide +kernel
theorem s_X11_listen_139 {ca : Nat → List Value → tM → tO} {M : tM} {L : tL} {S : List Value} : rn ca C_X11_listen 139 L S M = rn ca C_X11_listen 140 L (.int (iI 1) :: S) M := (rn_at k_X11_listen_139).trans rfl
theorem k_X11_listen_140 : lk 140 C_X11_listen = some (.if_icmp .ne 7, (147, 0, 0, 0)) := by decide +kernel
theorem s_X11_listen_140 {ca : Nat → List Value → tM → tO} {M : tM} {L : tL} {x y : Int32} {S : List Value} : rn ca C_X11_listen 140 L (.int y :: .int x :: S) M = if ¬ x = y then rn ca C_X11_listen 147 L S M else rn ca C_X11_listen 143 L S M := (rn_at k_X11_listen_140).trans rnx_ite
theorem k_X11_listen_143 : lk 143 C_X11_listen = some (.iconst 1, (0, 0, 0, 0)) := by decide +kernel
theorem s_X11_listen_143 {ca : Nat → List Value → tM → tO} {M : tM} {L : tL} {S : List Value} : rn ca C_X11_listen 143 L S M = rn ca C_X11_listen 144 L (.int (iI 1) :: S) M := (rn_at k_X11_listen_143).trans rfl
theorem k_X11_listen_144 : lk 144 C_X11_listen = some (.goto 4, (148, 0, 0, 0)) := by decide +kernel
theorem s_X11_listen_144 {ca : Nat → List Value → tM → tO} {M : tM} {L : tL} {S : List Value} : rn ca C_X11_listen 144 L S M = rn ca C_X11_listen 148 L S M := (rn_at k_X11_listen_144).trans rfl
theorem k_X11_listen_147 : lk 147 C_X11_listen = some (.iconst 0, (0, 0, 0, 0)) := by decide +kernel
theorem s_X11_listen_147 {ca : Nat → List Value → tM → tO} {M : tM} {L : tL} {S : List Value} : rn ca C_X11_listen 147 L S M = rn ca C_X11_listen 148 L (.int (iI 0) :: S) M := (rn_at k_X11_listen_147).trans rfl
theorem k_X11_listen_148 : lk 148 C_X11_listen = some (.istore 13, (0, 0, 0, 0)) := by decide +kernel
theorem s_X11_listen_148 {ca : Nat → List Value → tM → tO} {M : tM} {a0 a1 a2 a3 a4 a5 a6 a7 a8 a9 a10 a11 a12 a13 : Option Value} {x : Int32} {S : List Value} : rn ca C_X11_listen 148 [a0, a1, a2, a3, a4, a5, a6, a7, a8, a9, a10, a11, a12, a13] (.int x :: S) M = rn ca C_X11_listen 150 [a0, a1, a2, a3, a4, a5, a6, a7, a8, a9, a10, a11, a12, some (.int x)] S M := (rn_at k_X11_listen_148).trans rfl
theorem k_X11_listen_150 : lk 150 C_X11_listen = some (.iload 11, (0, 0, 0, 0)) := by decide +kernel
theorem s_X11_listen_150 {ca : Nat → List Value → tM → tO} {M : tM} {a0 a1 a2 a3 a4 a5 a6 a7 a8 a9 a10 a12 a13 : Option Value} {x : Int32} {S : List Value} : rn ca C_X11_listen 150 [a0, a1, a2, a3, a4, a5, a6, a7, a8, a9, a10, some (.int x), a12, a13] S M = rn ca C_X11_listen 152 [a0, a1, a2, a3, a4, a5, a6, a7, a8, a9, a10, some (.int x), a12, a13] (.int x :: S) M := (rn_at k_X11_listen_150).trans rfl
theorem k_X11_listen_152 : lk 152 C_X11_listen = some (.iload 13, (0, 0, 0, 0)) := by decide +kernel
theorem s_X11_listen_152 {ca : Nat → List Value → tM → tO} {M : tM} {a0 a1 a2 a3 a4 a5 a6 a7 a8 a9 a10 a11 a12 : Option Value} {x : Int32} {S : List Value} : rn ca C_X11_listen 152 [a0, a1, a2, a3, a4, a5, a6, a7, a8, a9, a10, a11, a12, some (.int x)] S M = rn ca C_X11_listen 154 [a0, a1, a2, a3, a4, a5, a6, a7, a8, a9, a10, a11, a12, some (.int x)] (.int x :: S) M := (rn_at k_X11_listen_152).trans rfl
theorem k_X11_listen_154 : lk 154 C_X11_listen = some (.ifCond .eq 38, (192, 0, 0, 0)) := by decide +kernel
theorem s_X11_listen_154 {ca : Nat → List Value → tM → tO} {M : tM} {L : tL} {x : Int32} {S : List Value} : rn ca C_X11_listen 154 L (.int x :: S) M = if x = iI 0 then rn ca C_X11_listen 192 L S M else rn ca C_X11_listen 157 L S M := (rn_at k_X11_listen_154).trans rnx_ite
theorem k_X11_listen_157 : lk 157 C_X11_listen = some (.aload_n 0, (0, 0, 0, 0)) := by decide +kernel
theorem s_X11_listen_157 {ca : Nat → List Value → tM → tO} {M : tM} {a1 a2 a3 a4 a5 a6 a7 a8 a9 a10 a11 a12 a13 : Option Value} {x : Nat} {S : List Value} : rn ca C_X11_listen 157 [some (.ref x), a1, a2, a3, a4, a5, a6, a7, a8, a9, a10, a11, a12, a13] S M = rn ca C_X11_listen 158 [some (.ref x), a1, a2, a3, a4, a5, a6, a7, a8, a9, a10, a11, a12, a13] (.ref x :: S) M := (rn_at k_X11_listen_157).trans rfl
theorem k_X11_listen_158 : lk 158 C_X11_listen = some (.iload 10, (0, 0, 0, 0)) := by decide +kernel
theorem s_X11_listen_158 {ca : Nat → List Value → tM → tO} {M : tM} {a0 a1 a2 a3 a4 a5 a6 a7 a8 a9 a11 a12 a13 : Option Value} {x : Int32} {S : List Value} : rn ca C_X11_listen 158 [a0, a1, a2, a3, a4, a5, a6, a7, a8, a9, some (.int x), a11, a12, a13] S M = rn ca C_X11_listen 160 [a0, a1, a2, a3, a4, a5, a6, a7, a8, a9, some (.int x), a11, a12, a13] (.int x :: S) M := (rn_at k_X11_listen_158).trans rfl
theorem k_X11_listen_160 : lk 160 C_X11_listen = some (.iload 8, (0, 0, 0, 0)) := by decide +kernel
theorem s_X11_listen_160 {ca : Nat → List Value → tM → tO} {M : tM} {a0 a1 a2 a3 a4 a5 a6 a7 a9 a10 a11 a12 a13 : Option Value} {x : Int32} {S : List Value} : rn ca C_X11_listen 160 [a0, a1, a2, a3, a4, a5, a6, a7, some (.int x), a9, a10, a11, a12, a13] S M = rn ca C_X11_listen 162 [a0, a1, a2, a3, a4, a5, a6, a7, some (.int x), a9, a10, a11, a12, a13] (.int x :: S) M := (rn_at k_X11_listen_160).trans rfl
theorem k_X11_listen_162 : lk 162 C_X11_listen = some (.aload_n 0, (0, 0, 0, 0)) := by decide +kernel
theorem s_X11_listen_162 {ca : Nat → List Value → tM → tO} {M : tM} {a1 a2 a3 a4 a5 a6 a7 a8 a9 a10 a11 a12 a13 : Option Value} {x : Nat} {S : List Value} : rn ca C_X11_listen 162 [some (.ref x), a1, a2, a3, a4, a5, a6, a7, a8, a9, a10, a11, a12, a13] S M = rn ca C_X11_listen 163 [some (.ref x), a1, a2, a3, a4, a5, a6, a7, a8, a9, a10, a11, a12, a13] (.ref x :: S) M := (rn_at k_X11_listen_162).trans rfl
theorem k_X11_listen_163 : lk 163 C_X11_listen = some (.iload_n 1, (0, 0, 0, 0)) := by decide +kernel
theorem s_X11_listen_163 {ca : Nat → List Value → tM → tO} {M : tM} {a0 a2 a3 a4 a5 a6 a7 a8 a9 a10 a11 a12 a13 : Option Value} {x : Int32} {S : List Value} : rn ca C_X11_listen 163 [a0, some (.int x), a2, a3, a4, a5, a6, a7, a8, a9, a10, a11, a12, a13] S M = rn ca C_X11_listen 164 [a0, some (.int x), a2, a3, a4, a5, a6, a7, a8, a9, a10, a11, a12, a13] (.int x :: S) M := (rn_at k_X11_listen_163).trans rfl
theorem k_X11_listen_164 : lk 164 C_X11_listen = some (.iconst 0, (0, 0, 0, 0)) := by decide +kernel
theorem s_X11_listen_164 {ca : Nat → List Value → tM → tO} {M : tM} {L : tL} {S : List Value} : rn ca C_X11_listen 164 L S M = rn ca C_X11_listen 165 L (.int (iI 0) :: S) M := (rn_at k_X11_listen_164).trans rfl
theorem k_X11_listen_165 : lk 165 C_X11_listen = some (.invokevirtual 152, (177, 2, 11, 632)) := by decide +kernel
theorem s_X11_listen_165 {ca : Nat → List Value → tM → tO} {M : tM} {L : tL} {v1 v2 : Value} {r0 : Int32} {r1 : Int32} {r2 : Nat} {r3 : Int32} {b : Nat} : rn ca C_X11_listen 165 L [v2, v1, .ref b, .int r0, .int r1, .ref r2, .int r3] M = if clsO b = some 11 then rnk ca C_X11_listen 168 L [.int r0, .int r1, .ref r2, .int r3] (ca m_X11_told [.ref b, v1, v2] M) else none := (rn_at k_X11_listen_165).trans rnx_ite
theorem k_X11_listen_168 : lk 168 C_X11_listen = some (.invokevirtual 287, (214, 3, 11, 1016)) := by decide +kernel
theorem s_X11_listen_168 {ca : Nat → List Value → tM → tO} {M : tM} {L : tL} {v1 v2 v3 : Value} {r0 : Int32} {b : Nat} : rn ca C_X11_listen 168 L [v3, v2, v1, .ref b, .int r0] M = if clsO b = some 11 then rnk ca C_X11_listen 171 L [.int r0] (ca m_X11_lag [.ref b, v1, v2, v3] M) else none := (rn_at k_X11_listen_168).trans rnx_ite
theorem k_X11_listen_171 : lk 171 C_X11_listen = some (.aload_n 0, (0, 0, 0, 0)) := by decide +kernel
theorem s_X11_listen_171 {ca : Nat → List Value → tM → tO} {M : tM} {a1 a2 a3 a4 a5 a6 a7 a8 a9 a10 a11 a12 a13 : Option Value} {x : Nat} {S : List Value} : rn ca C_X11_listen 171 [some (.ref x), a1, a2, a3, a4, a5, a6, a7, a8, a9, a10, a11, a12, a13] S M = rn ca C_X11_listen 172 [some (.ref x), a1, a2, a3, a4, a5, a6, a7, a8, a9, a10, a11, a12, a13] (.ref x :: S) M := (rn_at k_X11_listen_171).trans rfl
theorem k_X11_listen_172 : lk 172 C_X11_listen = some (.iload 12, (0, 0, 0, 0)) := by decide +kernel
theorem s_X11_listen_172 {ca : Nat → List Value → tM → tO} {M : tM} {a0 a1 a2 a3 a4 a5 a6 a7 a8 a9 a10 a11 a13 : Option Value} {x : Int32} {S : List Value} : rn ca C_X11_listen 172 [a0, a1, a2, a3, a4, a5, a6, a7, a8, a9, a10, a11, some (.int x), a13] S M = rn ca C_X11_listen 174 [a0, a1, a2, a3, a4, a5, a6, a7, a8, a9, a10, a11, some (.int x), a13] (.int x :: S) M := (rn_at k_X11_listen_172).trans rfl
theorem k_X11_listen_174 : lk 174 C_X11_listen = some (.iload 8, (0, 0, 0, 0)) := by decide +kernel
theorem s_X11_listen_174 {ca : Nat → List Value → tM → tO} {M : tM} {a0 a1 a2 a3 a4 a5 a6 a7 a9 a10 a11 a12 a13 : Option Value} {x : Int32} {S : List Value} : rn ca C_X11_listen 174 [a0, a1, a2, a3, a4, a5, a6, a7, some (.int x), a9, a10, a11, a12, a13] S M = rn ca C_X11_listen 176 [a0, a1, a2, a3, a4, a5, a6, a7, some (.int x), a9, a10, a11, a12, a13] (.int x :: S) M := (rn_at k_X11_listen_174).trans rfl
theorem k_X11_listen_176 : lk 176 C_X11_listen = some (.aload_n 0, (0, 0, 0, 0)) := by decide +kernel
theorem s_X11_listen_176 {ca : Nat → List Value → tM → tO} {M : tM} {a1 a2 a3 a4 a5 a6 a7 a8 a9 a10 a11 a12 a13 : Option Value} {x : Nat} {S : List Value} : rn ca C_X11_listen 176 [some (.ref x), a1, a2, a3, a4, a5, a6, a7, a8, a9, a10, a11, a12, a13] S M = rn ca C_X11_listen 177 [some (.ref x), a1, a2, a3, a4, a5, a6, a7, a8, a9, a10, a11, a12, a13] (.ref x :: S) M := (rn_at k_X11_listen_176).trans rfl
theorem k_X11_listen_177 : lk 177 C_X11_listen = some (.iload_n 1, (0, 0, 0, 0)) := by decide +kernel
theorem s_X11_listen_177 {ca : Nat → List Value → tM → tO} {M : tM} {a0 a2 a3 a4 a5 a6 a7 a8 a9 a10 a11 a12 a13 : Option Value} {x : Int32} {S : List Value} : rn ca C_X11_listen 177 [a0, some (.int x), a2, a3, a4, a5, a6, a7, a8, a9, a10, a11, a12, a13] S M = rn ca C_X11_listen 178 [a0, some (.int x), a2, a3, a4, a5, a6, a7, a8, a9, a10, a11, a12, a13] (.int x :: S) M := (rn_at k_X11_listen_177).trans rfl
theorem k_X11_listen_178 : lk 178 C_X11_listen = some (.iconst 0, (0, 0, 0, 0)) := by decide +kernel
theorem s_X11_listen_178 {ca : Nat → List Value → tM → tO} {M : tM} {L : tL} {S : List Value} : rn ca C_X11_listen 178 L S M = rn ca C_X11_listen 179 L (.int (iI 0) :: S) M := (rn_at k_X11_listen_178).trans rfl
theorem k_X11_listen_179 : lk 179 C_X11_listen = some (.invokevirtual 152, (177, 2, 11, 632)) := by decide +kernel
theorem s_X11_listen_179 {ca : Nat → List Value → tM → tO} {M : tM} {L : tL} {v1 v2 : Value} {r0 : Int32} {r1 : Int32} {r2 : Nat} {r3 : Int32} {r4 : Int32} {b : Nat} : rn ca C_X11_listen 179 L [v2, v1, .ref b, .int r0, .int r1, .ref r2, .int r3, .int r4] M = if clsO b = some 11 then rnk ca C_X11_listen 182 L [.int r0, .int r1, .ref r2, .int r3, .int r4] (ca m_X11_told [.ref b, v1, v2] M) else none := (rn_at k_X11_listen_179).trans rnx_ite
theorem k_X11_listen_182 : lk 182 C_X11_listen = some (.invokevirtual 287, (214, 3, 11, 1016)) := by decide +kernel
theorem s_X11_listen_182 {ca : Nat → List Value → tM → tO} {M : tM} {L : tL} {v1 v2 v3 : Value} {r0 : Int32} {r1 : Int32} {b : Nat} : rn ca C_X11_listen 182 L [v3, v2, v1, .ref b, .int r0, .int r1] M = if clsO b = some 11 then rnk ca C_X11_listen 185 L [.int r0, .int r1] (ca m_X11_lag [.ref b, v1, v2, v3] M) else none := (rn_at k_X11_listen_182).trans rnx_ite
theorem k_X11_listen_185 : lk 185 C_X11_listen = some (.if_icmp .ne 7, (192, 0, 0, 0)) := by decide +kernel
theorem s_X11_listen_185 {ca : Nat → List Value → tM → tO} {M : tM} {L : tL} {x y : Int32} {S : List Value} : rn ca C_X11_listen 185 L (.int y :: .int x :: S) M = if ¬ x = y then rn ca C_X11_listen 192 L S M else rn ca C_X11_listen 188 L S M := (rn_at k_X11_listen_185).trans rnx_ite
theorem k_X11_listen_188 : lk 188 C_X11_listen = some (.iconst 1, (0, 0, 0, 0)) := by decide +kernel
theorem s_X11_listen_188 {ca : Nat → List Value → tM → tO} {M : tM} {L : tL} {S : List Value} : rn ca C_X11_listen 188 L S M = rn ca C_X11_listen 189 L (.int (iI 1) :: S) M := (rn_at k_X11_listen_188).trans rfl
theorem k_X11_listen_189 : lk 189 C_X11_listen = some (.goto 4, (193, 0, 0, 0)) := by decide +kernel
theorem s_X11_listen_189 {ca : Nat → List Value → tM → tO} {M : tM} {L : tL} {S : List Value} : rn ca C_X11_listen 189 L S M = rn ca C_X11_listen 193 L S M := (rn_at k_X11_listen_189).trans rfl
theorem k_X11_listen_192 : lk 192 C_X11_listen = some (.iconst 0, (0, 0, 0, 0)) := by decide +kernel
theorem s_X11_listen_192 {ca : Nat → List Value → tM → tO} {M : tM} {L : tL} {S : List Value} : rn ca C_X11_listen 192 L S M = rn ca C_X11_listen 193 L (.int (iI 0) :: S) M := (rn_at k_X11_listen_192).trans rfl
theorem k_X11_listen_193 : lk 193 C_X11_listen = some (.iadd, (0, 0, 0, 0)) := by decide +kernel
theorem s_X11_listen_193 {ca : Nat → List Value → tM → tO} {M : tM} {L : tL} {x y : Int32} {S : List Value} : rn ca C_X11_listen 193 L (.int y :: .int x :: S) M = rn ca C_X11_listen 194 L (.int (x + y) :: S) M := (rn_at k_X11_listen_193).trans rfl
theorem k_X11_listen_194 : lk 194 C_X11_listen = some (.istore 11, (0, 0, 0, 0)) := by decide +kernel
theorem s_X11_listen_194 {ca : Nat → List Value → tM → tO} {M : tM} {a0 a1 a2 a3 a4 a5 a6 a7 a8 a9 a10 a11 a12 a13 : Option Value} {x : Int32} {S : List Value} : rn ca C_X11_listen 194 [a0, a1, a2, a3, a4, a5, a6, a7, a8, a9, a10, a11, a12, a13] (.int x :: S) M = rn ca C_X11_listen 196 [a0, a1, a2, a3, a4, a5, a6, a7, a8, a9, a10, some (.int x), a12, a13] S M := (rn_at k_X11_listen_194).trans rfl
theorem k_X11_listen_196 : lk 196 C_X11_listen = some (.iinc 12 1, (0, 0, 0, 0)) := by decide +kernel
theorem s_X11_listen_196 {ca : Nat → List Value → tM → tO} {M : tM} {a0 a1 a2 a3 a4 a5 a6 a7 a8 a9 a10 a11 a13 : Option Value} {x : Int32} {S : List Value} : rn ca C_X11_listen 196 [a0, a1, a2, a3, a4, a5, a6, a7, a8, a9, a10, a11, some (.int x), a13] S M = rn ca C_X11_listen 199 [a0, a1, a2, a3, a4, a5, a6, a7, a8, a9, a10, a11, some (.int (x + iI 1)), a13] S M := (rn_at k_X11_listen_196).trans rfl
theorem k_X11_listen_199 : lk 199 C_X11_listen = some (.goto (-85), (114, 0, 0, 0)) := by decide +kernel
theorem s_X11_listen_199 {ca : Nat → List Value → tM → tO} {M : tM} {L : tL} {S : List Value} : rn ca C_X11_listen 199 L S M = rn ca C_X11_listen 114 L S M := (rn_at k_X11_listen_199).trans rfl
theorem k_X11_listen_202 : lk 202 C_X11_listen = some (.iload 9, (0, 0, 0, 0)) := by decide +kernel
theorem s_X11_listen_202 {ca : Nat → List Value → tM → tO} {M : tM} {a0 a1 a2 a3 a4 a5 a6 a7 a8 a10 a11 a12 a13 : Option Value} {x : Int32} {S : List Value} : rn ca C_X11_listen 202 [a0, a1, a2, a3, a4, a5, a6, a7, a8, some (.int x), a10, a11, a12, a13] S M = rn ca C_X11_listen 204 [a0, a1, a2, a3, a4, a5, a6, a7, a8, some (.int x), a10, a11, a12, a13] (.int x :: S) M := (rn_at k_X11_listen_202).trans rfl
theorem k_X11_listen_204 : lk 204 C_X11_listen = some (.iload 11, (0, 0, 0, 0)) := by decide +kernel
theorem s_X11_listen_204 {ca : Nat → List Value → tM → tO} {M : tM} {a0 a1 a2 a3 a4 a5 a6 a7 a8 a9 a10 a12 a13 : Option Value} {x : Int32} {S : List Value} : rn ca C_X11_listen 204 [a0, a1, a2, a3, a4, a5, a6, a7, a8, a9, a10, some (.int x), a12, a13] S M = rn ca C_X11_listen 206 [a0, a1, a2, a3, a4, a5, a6, a7, a8, a9, a10, some (.int x), a12, a13] (.int x :: S) M := (rn_at k_X11_listen_204).trans rfl
theorem k_X11_listen_206 : lk 206 C_X11_listen = some (.invokestatic 199, (0, 2, 2, 682)) := by decide +kernel
theorem s_X11_listen_206 {ca : Nat → List Value → tM → tO} {M : tM} {L : tL} {x y : Int32} : rn ca C_X11_listen 206 L [.int y, .int x] M = rn ca C_X11_listen 209 L [.int (mxI x y)] M := (rn_at k_X11_listen_206).trans rfl
theorem k_X11_listen_209 : lk 209 C_X11_listen = some (.istore 9, (0, 0, 0, 0)) := by decide +kernel
theorem s_X11_listen_209 {ca : Nat → List Value → tM → tO} {M : tM} {a0 a1 a2 a3 a4 a5 a6 a7 a8 a9 a10 a11 a12 a13 : Option Value} {x : Int32} {S : List Value} : rn ca C_X11_listen 209 [a0, a1, a2, a3, a4, a5, a6, a7, a8, a9, a10, a11, a12, a13] (.int x :: S) M = rn ca C_X11_listen 211 [a0, a1, a2, a3, a4, a5, a6, a7, a8, some (.int x), a10, a11, a12, a13] S M := (rn_at k_X11_listen_209).trans rfl
theorem k_X11_listen_211 : lk 211 C_X11_listen = some (.iinc 10 1, (0, 0, 0, 0)) := by decide +kernel
theorem s_X11_listen_211 {ca : Nat → List Value → tM → tO} {M : tM} {a0 a1 a2 a3 a4 a5 a6 a7 a8 a9 a11 a12 a13 : Option Value} {x : Int32} {S : List Value} : rn ca C_X11_listen 211 [a0, a1, a2, a3, a4, a5, a6, a7, a8, a9, some (.int x), a11, a12, a13] S M = rn ca C_X11_listen 214 [a0, a1, a2, a3, a4, a5, a6, a7, a8, a9, some (.int (x + iI 1)), a11, a12, a13] S M := (rn_at k_X11_listen_211).trans rfl
theorem k_X11_listen_214 : lk 214 C_X11_listen = some (.goto (-118), (96, 0, 0, 0)) := by decide +kernel
theorem s_X11_listen_214 {ca : Nat → List Value → tM → tO} {M : tM} {L : tL} {S : List Value} : rn ca C_X11_listen 214 L S M = rn ca C_X11_listen 96 L S M := (rn_at k_X11_listen_214).trans rfl
theorem k_X11_listen_217 : lk 217 C_X11_listen = some (.iload 5, (0, 0, 0, 0)) := by decide +kernel
theorem s_X11_listen_217 {ca : Nat → List Value → tM → tO} {M : tM} {a0 a1 a2 a3 a4 a6 a7 a8 a9 a10 a11 a12 a13 : Option Value} {x : Int32} {S : List Value} : rn ca C_X11_listen 217 [a0, a1, a2, a3, a4, some (.int x), a6, a7, a8, a9, a10, a11, a12, a13] S M = rn ca C_X11_listen 219 [a0, a1, a2, a3, a4, some (.int x), a6, a7, a8, a9, a10, a11, a12, a13] (.int x :: S) M := (rn_at k_X11_listen_217).trans rfl
theorem k_X11_listen_219 : lk 219 C_X11_listen = some (.iload 8, (0, 0, 0, 0)) := by decide +kernel
theorem s_X11_listen_219 {ca : Nat → List Value → tM → tO} {M : tM} {a0 a1 a2 a3 a4 a5 a6 a7 a9 a10 a11 a12 a13 : Option Value} {x : Int32} {S : List Value} : rn ca C_X11_listen 219 [a0, a1, a2, a3, a4, a5, a6, a7, some (.int x), a9, a10, a11, a12, a13] S M = rn ca C_X11_listen 221 [a0, a1, a2, a3, a4, a5, a6, a7, some (.int x), a9, a10, a11, a12, a13] (.int x :: S) M := (rn_at k_X11_listen_219).trans rfl
theorem k_X11_listen_221 : lk 221 C_X11_listen = some (.ishr, (0, 0, 0, 0)) := by decide +kernel
theorem s_X11_listen_221 {ca : Nat → List Value → tM → tO} {M : tM} {L : tL} {x y : Int32} {S : List Value} : rn ca C_X11_listen 221 L (.int y :: .int x :: S) M = rn ca C_X11_listen 222 L (.int (x >>> (y &&& 31)) :: S) M := (rn_at k_X11_listen_221).trans rfl
theorem k_X11_listen_222 : lk 222 C_X11_listen = some (.iconst 1, (0, 0, 0, 0)) := by decide +kernel
theorem s_X11_listen_222 {ca : Nat → List Value → tM → tO} {M : tM} {L : tL} {S : List Value} : rn ca C_X11_listen 222 L S M = rn ca C_X11_listen 223 L (.int (iI 1) :: S) M := (rn_at k_X11_listen_222).trans rfl
theorem k_X11_listen_223 : lk 223 C_X11_listen = some (.iand, (0, 0, 0, 0)) := by decide +kernel
theorem s_X11_listen_223 {ca : Nat → List Value → tM → tO} {M : tM} {L : tL} {x y : Int32} {S : List Value} : rn ca C_X11_listen 223 L (.int y :: .int x :: S) M = rn ca C_X11_listen 224 L (.int (x &&& y) :: S) M := (rn_at k_X11_listen_223).trans rfl
theorem k_X11_listen_224 : lk 224 C_X11_listen = some (.ifCond .ne 18, (242, 0, 0, 0)) := by decide +kernel
theorem s_X11_listen_224 {ca : Nat → List Value → tM → tO} {M : tM} {L : tL} {x : Int32} {S : List Value} : rn ca C_X11_listen 224 L (.int x :: S) M = if ¬ x = iI 0 then rn ca C_X11_listen 242 L S M else rn ca C_X11_listen 227 L S M := (rn_at k_X11_listen_224).trans rnx_ite
theorem k_X11_listen_227 : lk 227 C_X11_listen = some (.iload 9, (0, 0, 0, 0)) := by decide +kernel
theorem s_X11_listen_227 {ca : Nat → List Value → tM → tO} {M : tM} {a0 a1 a2 a3 a4 a5 a6 a7 a8 a10 a11 a12 a13 : Option Value} {x : Int32} {S : List Value} : rn ca C_X11_listen 227 [a0, a1, a2, a3, a4, a5, a6, a7, a8, some (.int x), a10, a11, a12, a13] S M = rn ca C_X11_listen 229 [a0, a1, a2, a3, a4, a5, a6, a7, a8, some (.int x), a10, a11, a12, a13] (.int x :: S) M := (rn_at k_X11_listen_227).trans rfl
theorem k_X11_listen_229 : lk 229 C_X11_listen = some (.iload 7, (0, 0, 0, 0)) := by decide +kernel
theorem s_X11_listen_229 {ca : Nat → List Value → tM → tO} {M : tM} {a0 a1 a2 a3 a4 a5 a6 a8 a9 a10 a11 a12 a13 : Option Value} {x : Int32} {S : List Value} : rn ca C_X11_listen 229 [a0, a1, a2, a3, a4, a5, a6, some (.int x), a8, a9, a10, a11, a12, a13] S M = rn ca C_X11_listen 231 [a0, a1, a2, a3, a4, a5, a6, some (.int x), a8, a9, a10, a11, a12, a13] (.int x :: S) M := (rn_at k_X11_listen_229).trans rfl
theorem k_X11_listen_231 : lk 231 C_X11_listen = some (.if_icmp .ge 11, (242, 0, 0, 0)) := by decide +kernel
theorem s_X11_listen_231 {ca : Nat → List Value → tM → tO} {M : tM} {L : tL} {x y : Int32} {S : List Value} : rn ca C_X11_listen 231 L (.int y :: .int x :: S) M = if y ≤ x then rn ca C_X11_listen 242 L S M else rn ca C_X11_listen 234 L S M := (rn_at k_X11_listen_231).trans rnx_ite
theorem k_X11_listen_234 : lk 234 C_X11_listen = some (.iload 8, (0, 0, 0, 0)) := by decide +kernel
theorem s_X11_listen_234 {ca : Nat → List Value → tM → tO} {M : tM} {a0 a1 a2 a3 a4 a5 a6 a7 a9 a10 a11 a12 a13 : Option Value} {x : Int32} {S : List Value} : rn ca C_X11_listen 234 [a0, a1, a2, a3, a4, a5, a6, a7, some (.int x), a9, a10, a11, a12, a13] S M = rn ca C_X11_listen 236 [a0, a1, a2, a3, a4, a5, a6, a7, some (.int x), a9, a10, a11, a12, a13] (.int x :: S) M := (rn_at k_X11_listen_234).trans rfl
theorem k_X11_listen_236 : lk 236 C_X11_listen = some (.istore 6, (0, 0, 0, 0)) := by decide +kernel
theorem s_X11_listen_236 {ca : Nat → List Value → tM → tO} {M : tM} {a0 a1 a2 a3 a4 a5 a6 a7 a8 a9 a10 a11 a12 a13 : Option Value} {x : Int32} {S : List Value} : rn ca C_X11_listen 236 [a0, a1, a2, a3, a4, a5, a6, a7, a8, a9, a10, a11, a12, a13] (.int x :: S) M = rn ca C_X11_listen 238 [a0, a1, a2, a3, a4, a5, some (.int x), a7, a8, a9, a10, a11, a12, a13] S M := (rn_at k_X11_listen_236).trans rfl
theorem k_X11_listen_238 : lk 238 C_X11_listen = some (.iload 9, (0, 0, 0, 0)) := by decide +kernel
theorem s_X11_listen_238 {ca : Nat → List Value → tM → tO} {M : tM} {a0 a1 a2 a3 a4 a5 a6 a7 a8 a10 a11 a12 a13 : Option Value} {x : Int32} {S : List Value} : rn ca C_X11_listen 238 [a0, a1, a2, a3, a4, a5, a6, a7, a8, some (.int x), a10, a11, a12, a13] S M = rn ca C_X11_listen 240 [a0, a1, a2, a3, a4, a5, a6, a7, a8, some (.int x), a10, a11, a12, a13] (.int x :: S) M := (rn_at k_X11_listen_238).trans rfl
theorem k_X11_listen_240 : lk 240 C_X11_listen = some (.istore 7, (0, 0, 0, 0)) := by decide +kernel
theorem s_X11_listen_240 {ca : Nat → List Value → tM → tO} {M : tM} {a0 a1 a2 a3 a4 a5 a6 a7 a8 a9 a10 a11 a12 a13 : Option Value} {x : Int32} {S : List Value} : rn ca C_X11_listen 240 [a0, a1, a2, a3, a4, a5, a6, a7, a8, a9, a10, a11, a12, a13] (.int x :: S) M = rn ca C_X11_listen 242 [a0, a1, a2, a3, a4, a5, a6, some (.int x), a8, a9, a10, a11, a12, a13] S M := (rn_at k_X11_listen_240).trans rfl
theorem k_X11_listen_242 : lk 242 C_X11_listen = some (.iinc 8 1, (0, 0, 0, 0)) := by decide +kernel
theorem s_X11_listen_242 {ca : Nat → List Value → tM → tO} {M : tM} {a0 a1 a2 a3 a4 a5 a6 a7 a9 a10 a11 a12 a13 : Option Value} {x : Int32} {S : List Value} : rn ca C_X11_listen 242 [a0, a1, a2, a3, a4, a5, a6, a7, some (.int x), a9, a10, a11, a12, a13] S M = rn ca C_X11_listen 245 [a0, a1, a2, a3, a4, a5, a6, a7, some (.int (x + iI 1)), a9, a10, a11, a12, a13] S M := (rn_at k_X11_listen_242).trans rfl
theorem k_X11_listen_245 : lk 245 C_X11_listen = some (.goto (-176), (69, 0, 0, 0)) := by decide +kernel
theorem s_X11_listen_245 {ca : Nat → List Value → tM → tO} {M : tM} {L : tL} {S : List Value} : rn ca C_X11_listen 245 L S M = rn ca C_X11_listen 69 L S M := (rn_at k_X11_listen_245).trans rfl
theorem k_X11_listen_248 : lk 248 C_X11_listen = some (.iload 6, (0, 0, 0, 0)) := by decide +kernel
theorem s_X11_listen_248 {ca : Nat → List Value → tM → tO} {M : tM} {a0 a1 a2 a3 a4 a5 a7 a8 a9 a10 a11 a12 a13 : Option Value} {x : Int32} {S : List Value} : rn ca C_X11_listen 248 [a0, a1, a2, a3, a4, a5, some (.int x), a7, a8, a9, a10, a11, a12, a13] S M = rn ca C_X11_listen 250 [a0, a1, a2, a3, a4, a5, some (.int x), a7, a8, a9, a10, a11, a12, a13] (.int x :: S) M := (rn_at k_X11_listen_248).trans rfl
theorem k_X11_listen_250 : lk 250 C_X11_listen = some (.ireturn, (0, 0, 0, 0)) := by decide +kernel
theorem s_X11_listen_250 {ca : Nat → List Value → tM → tO} {M : tM} {L : tL} {x : Int32} : rn ca C_X11_listen 250 L [.int x] M = some (some (.int x), M) := (rn_at k_X11_listen_250).trans rfl
theorem k_X11_enough_0 : lk 0 C_X11_enough = some (.aload_n 0, (0, 0, 0, 0)) := by decide +kernel
theorem s_X11_enough_0 {ca : Nat → List Value → tM → tO} {M : tM} {a1 a2 a3 a4 a5 a6 : Option Value} {x : Nat} {S : List Value} : rn ca C_X11_enough 0 [some (.ref x), a1, a2, a3, a4, a5, a6] S M = rn ca C_X11_enough 1 [some (.ref x), a1, a2, a3, a4, a5, a6] (.ref x :: S) M := (rn_at k_X11_enough_0).trans rfl
theorem k_X11_enough_1 : lk 1 C_X11_enough = some (.iload_n 1, (0, 0, 0, 0)) := by decide +kernel
theorem s_X11_enough_1 {ca : Nat → List Value → tM → tO} {M : tM} {a0 a2 a3 a4 a5 a6 : Option Value} {x : Int32} {S : List Value} : rn ca C_X11_enough 1 [a0, some (.int x), a2, a3, a4, a5, a6] S M = rn ca C_X11_enough 2 [a0, some (.int x), a2, a3, a4, a5, a6] (.int x :: S) M := (rn_at k_X11_enough_1).trans rfl
theorem k_X11_enough_2 : lk 2 C_X11_enough = some (.i2l, (0, 0, 0, 0)) := by decide +kernel
theorem s_X11_enough_2 {ca : Nat → List Value → tM → tO} {M : tM} {L : tL} {x : Int32} {S : List Value} : rn ca C_X11_enough 2 L (.int x :: S) M = rn ca C_X11_enough 3 L (.long x.toInt64 :: S) M := (rn_at k_X11_enough_2).trans rfl
theorem k_X11_enough_3 : lk 3 C_X11_enough = some (.invokevirtual 114, (149, 1, 11, 302)) := by decide +kernel
theorem s_X11_enough_3 {ca : Nat → List Value → tM → tO} {M : tM} {L : tL} {v1 : Value} {b : Nat} : rn ca C_X11_enough 3 L [v1, .ref b] M = if clsO b = some 11 then rnk ca C_X11_enough 6 L [] (ca m_X11_isCapsule [.ref b, v1] M) else none := (rn_at k_X11_enough_3).trans rnx_ite
theorem k_X11_enough_6 : lk 6 C_X11_enough = some (.ifCond .eq 12, (18, 0, 0, 0)) := by decide +kernel
theorem s_X11_enough_6 {ca : Nat → List Value → tM → tO} {M : tM} {L : tL} {x : Int32} {S : List Value} : rn ca C_X11_enough 6 L (.int x :: S) M = if x = iI 0 then rn ca C_X11_enough 18 L S M else rn ca C_X11_enough 9 L S M := (rn_at k_X11_enough_6).trans rnx_ite
theorem k_X11_enough_9 : lk 9 C_X11_enough = some (.aload_n 0, (0, 0, 0, 0)) := by decide +kernel
theorem s_X11_enough_9 {ca : Nat → List Value → tM → tO} {M : tM} {a1 a2 a3 a4 a5 a6 : Option Value} {x : Nat} {S : List Value} : rn ca C_X11_enough 9 [some (.ref x), a1, a2, a3, a4, a5, a6] S M = rn ca C_X11_enough 10 [some (.ref x), a1, a2, a3, a4, a5, a6] (.ref x :: S) M := (rn_at k_X11_enough_9).trans rfl
theorem k_X11_enough_10 : lk 10 C_X11_enough = some (.iload_n 2, (0, 0, 0, 0)) := by decide +kernel
theorem s_X11_enough_10 {ca : Nat → List Value → tM → tO} {M : tM} {a0 a1 a3 a4 a5 a6 : Option Value} {x : Int32} {S : List Value} : rn ca C_X11_enough 10 [a0, a1, some (.int x), a3, a4, a5, a6] S M = rn ca C_X11_enough 11 [a0, a1, some (.int x), a3, a4, a5, a6] (.int x :: S) M := (rn_at k_X11_enough_10).trans rfl
theorem k_X11_enough_11 : lk 11 C_X11_enough = some (.i2l, (0, 0, 0, 0)) := by decide +kernel
theorem s_X11_enough_11 {ca : Nat → List Value → tM → tO} {M : tM} {L : tL} {x : Int32} {S : List Value} : rn ca C_X11_enough 11 L (.int x :: S) M = rn ca C_X11_enough 12 L (.long x.toInt64 :: S) M := (rn_at k_X11_enough_11).trans rfl
theorem k_X11_enough_12 : lk 12 C_X11_enough = some (.invokevirtual 95, (147, 1, 11, 397)) := by decide +kernel
theorem s_X11_enough_12 {ca : Nat → List Value → tM → tO} {M : tM} {L : tL} {v1 : Value} {b : Nat} : rn ca C_X11_enough 12 L [v1, .ref b] M = if clsO b = some 11 then rnk ca C_X11_enough 15 L [] (ca m_X11_isDesk [.ref b, v1] M) else none := (rn_at k_X11_enough_12).trans rnx_ite
theorem k_X11_enough_15 : lk 15 C_X11_enough = some (.ifCond .ne 9, (24, 0, 0, 0)) := by decide +kernel
theorem s_X11_enough_15 {ca : Nat → List Value → tM → tO} {M : tM} {L : tL} {x : Int32} {S : List Value} : rn ca C_X11_enough 15 L (.int x :: S) M = if ¬ x = iI 0 then rn ca C_X11_enough 24 L S M else rn ca C_X11_enough 18 L S M := (rn_at k_X11_enough_15).trans rnx_ite
theorem k_X11_enough_18 : lk 18 C_X11_enough = some (.aload_n 0, (0, 0, 0, 0)) := by decide +kernel
theorem s_X11_enough_18 {ca : Nat → List Value → tM → tO} {M : tM} {a1 a2 a3 a4 a5 a6 : Option Value} {x : Nat} {S : List Value} : rn ca C_X11_enough 18 [some (.ref x), a1, a2, a3, a4, a5, a6] S M = rn ca C_X11_enough 19 [some (.ref x), a1, a2, a3, a4, a5, a6] (.ref x :: S) M := (rn_at k_X11_enough_18).trans rfl
theorem k_X11_enough_19 : lk 19 C_X11_enough = some (.iconst (-1), (0, 0, 0, 0)) := by decide +kernel
theorem s_X11_enough_19 {ca : Nat → List Value → tM → tO} {M : tM} {L : tL} {S : List Value} : rn ca C_X11_enough 19 L S M = rn ca C_X11_enough 20 L (.int (iI (-1)) :: S) M := (rn_at k_X11_enough_19).trans rfl
theorem k_X11_enough_20 : lk 20 C_X11_enough = some (.invokevirtual 233, (145, 1, 11, 749)) := by decide +kernel
theorem s_X11_enough_20 {ca : Nat → List Value → tM → tO} {M : tM} {L : tL} {v1 : Value} {b : Nat} : rn ca C_X11_enough 20 L [v1, .ref b] M = if clsO b = some 11 then rnk ca C_X11_enough 23 L [] (ca m_X11_refuseBy10 [.ref b, v1] M) else none := (rn_at k_X11_enough_20).trans rnx_ite
theorem k_X11_enough_23 : lk 23 C_X11_enough = some (.ireturn, (0, 0, 0, 0)) := by decide +kernel
theorem s_X11_enough_23 {ca : Nat → List Value → tM → tO} {M : tM} {L : tL} {x : Int32} : rn ca C_X11_enough 23 L [.int x] M = some (some (.int x), M) := (rn_at k_X11_enough_23).trans rfl
theorem k_X11_enough_24 : lk 24 C_X11_enough = some (.iload_n 3, (0, 0, 0, 0)) := by decide +kernel
theorem s_X11_enough_24 {ca : Nat → List Value → tM → tO} {M : tM} {a0 a1 a2 a4 a5 a6 : Option Value} {x : Int32} {S : List Value} : rn ca C_X11_enough 24 [a0, a1, a2, some (.int x), a4, a5, a6] S M = rn ca C_X11_enough 25 [a0, a1, a2, some (.int x), a4, a5, a6] (.int x :: S) M := (rn_at k_X11_enough_24).trans rfl
theorem k_X11_enough_25 : lk 25 C_X11_enough = some (.i2l, (0, 0, 0, 0)) := by decide +kernel
theorem s_X11_enough_25 {ca : Nat → List Value → tM → tO} {M : tM} {L : tL} {x : Int32} {S : List Value} : rn ca C_X11_enough 25 L (.int x :: S) M = rn ca C_X11_enough 26 L (.long x.toInt64 :: S) M := (rn_at k_X11_enough_25).trans rfl
theorem k_X11_enough_26 : lk 26 C_X11_enough = some (.lconst 0, (0, 0, 0, 0)) := by decide +kernel
theorem s_X11_enough_26 {ca : Nat → List Value → tM → tO} {M : tM} {L : tL} {S : List Value} : rn ca C_X11_enough 26 L S M = rn ca C_X11_enough 27 L (.long (jJ 0) :: S) M := (rn_at k_X11_enough_26).trans rfl
theorem k_X11_enough_27 : lk 27 C_X11_enough = some (.ldc2_w 250, (0, 0, 500, 816)) := by decide +kernel
theorem s_X11_enough_27 {ca : Nat → List Value → tM → tO} {M : tM} {L : tL} {S : List Value} : rn ca C_X11_enough 27 L S M = rn ca C_X11_enough 30 L (.long (jJ 500) :: S) M := (rn_at k_X11_enough_27).trans rfl
theorem k_X11_enough_30 : lk 30 C_X11_enough = some (.invokestatic 87, (143, 3, 0, 197)) := by decide +kernel
theorem s_X11_enough_30 {ca : Nat → List Value → tM → tO} {M : tM} {L : tL} {v1 v2 v3 : Value} : rn ca C_X11_enough 30 L [v3, v2, v1] M = rnk ca C_X11_enough 33 L [] (ca m_X11_isIn [v1, v2, v3] M) := (rn_at k_X11_enough_30).trans rfl
theorem k_X11_enough_33 : lk 33 C_X11_enough = some (.ifCond .ne 10, (43, 0, 0, 0)) := by decide +kernel
theorem s_X11_enough_33 {ca : Nat → List Value → tM → tO} {M : tM} {L : tL} {x : Int32} {S : List Value} : rn ca C_X11_enough 33 L (.int x :: S) M = if ¬ x = iI 0 then rn ca C_X11_enough 43 L S M else rn ca C_X11_enough 36 L S M := (rn_at k_X11_enough_33).trans rnx_ite
theorem k_X11_enough_36 : lk 36 C_X11_enough = some (.aload_n 0, (0, 0, 0, 0)) := by decide +kernel
theorem s_X11_enough_36 {ca : Nat → List Value → tM → tO} {M : tM} {a1 a2 a3 a4 a5 a6 : Option Value} {x : Nat} {S : List Value} : rn ca C_X11_enough 36 [some (.ref x), a1, a2, a3, a4, a5, a6] S M = rn ca C_X11_enough 37 [some (.ref x), a1, a2, a3, a4, a5, a6] (.ref x :: S) M := (rn_at k_X11_enough_36).trans rfl
theorem k_X11_enough_37 : lk 37 C_X11_enough = some (.bipush (-6), (0, 0, 0, 0)) := by decide +kernel
theorem s_X11_enough_37 {ca : Nat → List Value → tM → tO} {M : tM} {L : tL} {S : List Value} : rn ca C_X11_enough 37 L S M = rn ca C_X11_enough 39 L (.int (iI (-6)) :: S) M := (rn_at k_X11_enough_37).trans rfl
theorem k_X11_enough_39 : lk 39 C_X11_enough = some (.invokevirtual 233, (145, 1, 11, 749)) := by decide +kernel
theorem s_X11_enough_39 {ca : Nat → List Value → tM → tO} {M : tM} {L : tL} {v1 : Value} {b : Nat} : rn ca C_X11_enough 39 L [v1, .ref b] M = if clsO b = some 11 then rnk ca C_X11_enough 42 L [] (ca m_X11_refuseBy10 [.ref b, v1] M) else none := (rn_at k_X11_enough_39).trans rnx_ite
theorem k_X11_enough_42 : lk 42 C_X11_enough = some (.ireturn, (0, 0, 0, 0)) := by decide +kernel
theorem s_X11_enough_42 {ca : Nat → List Value → tM → tO} {M : tM} {L : tL} {x : Int32} : rn ca C_X11_enough 42 L [.int x] M = some (some (.int x), M) := (rn_at k_X11_enough_42).trans rfl
theorem k_X11_enough_43 : lk 43 C_X11_enough = some (.aload_n 0, (0, 0, 0, 0)) := by decide +kernel
theorem s_X11_enough_43 {ca : Nat → List Value → tM → tO} {M : tM} {a1 a2 a3 a4 a5 a6 : Option Value} {x : Nat} {S : List Value} : rn ca C_X11_enough 43 [some (.ref x), a1, a2, a3, a4, a5, a6] S M = rn ca C_X11_enough 44 [some (.ref x), a1, a2, a3, a4, a5, a6] (.ref x :: S) M := (rn_at k_X11_enough_43).trans rfl
theorem k_X11_enough_44 : lk 44 C_X11_enough = some (.getfield 17, (11, 1, 0, 147)) := by decide +kernel
theorem s_X11_enough_44 {ca : Nat → List Value → tM → tO} {M : tM} {L : tL} {b : Nat} {S : List Value} : rn ca C_X11_enough 44 L (.ref b :: S) M = if clsO b = some 11 then rn ca C_X11_enough 47 L (fv M b 1 :: S) M else none := (rn_at k_X11_enough_44).trans rnx_ite
theorem k_X11_enough_47 : lk 47 C_X11_enough = some (.bipush 111, (0, 0, 0, 0)) := by decide +kernel
theorem s_X11_enough_47 {ca : Nat → List Value → tM → tO} {M : tM} {L : tL} {S : List Value} : rn ca C_X11_enough 47 L S M = rn ca C_X11_enough 49 L (.int (iI 111) :: S) M := (rn_at k_X11_enough_47).trans rfl
theorem k_X11_enough_49 : lk 49 C_X11_enough = some (.iaload, (0, 0, 0, 0)) := by decide +kernel
theorem s_X11_enough_49 {ca : Nat → List Value → tM → tO} {M : tM} {L : tL} {a : Nat} {i : Int32} {S : List Value} : rn ca C_X11_enough 49 L (.int i :: .ref a :: S) M = if (akind a = 0 ∨ akind a = 6 ∨ akind a = 7) ∧ inb i (alen M a) then rn ca C_X11_enough 50 L (.int (M.1 a i.toInt.toNat) :: S) M else none := (rn_at k_X11_enough_49).trans rnx_ite
theorem k_X11_enough_50 : lk 50 C_X11_enough = some (.istore 4, (0, 0, 0, 0)) := by decide +kernel
theorem s_X11_enough_50 {ca : Nat → List Value → tM → tO} {M : tM} {a0 a1 a2 a3 a4 a5 a6 : Option Value} {x : Int32} {S : List Value} : rn ca C_X11_enough 50 [a0, a1, a2, a3, a4, a5, a6] (.int x :: S) M = rn ca C_X11_enough 52 [a0, a1, a2, a3, some (.int x), a5, a6] S M := (rn_at k_X11_enough_50).trans rfl
theorem k_X11_enough_52 : lk 52 C_X11_enough = some (.iconst (-1), (0, 0, 0, 0)) := by decide +kernel
theorem s_X11_enough_52 {ca : Nat → List Value → tM → tO} {M : tM} {L : tL} {S : List Value} : rn ca C_X11_enough 52 L S M = rn ca C_X11_enough 53 L (.int (iI (-1)) :: S) M := (rn_at k_X11_enough_52).trans rfl
theorem k_X11_enough_53 : lk 53 C_X11_enough = some (.istore 5, (0, 0, 0, 0)) := by decide +kernel
theorem s_X11_enough_53 {ca : Nat → List Value → tM → tO} {M : tM} {a0 a1 a2 a3 a4 a5 a6 : Option Value} {x : Int32} {S : List Value} : rn ca C_X11_enough 53 [a0, a1, a2, a3, a4, a5, a6] (.int x :: S) M = rn ca C_X11_enough 55 [a0, a1, a2, a3, a4, some (.int x), a6] S M := (rn_at k_X11_enough_53).trans rfl
theorem k_X11_enough_55 : lk 55 C_X11_enough = some (.bipush 9, (0, 0, 0, 0)) := by decide +kernel
theorem s_X11_enough_55 {ca : Nat → List Value → tM → tO} {M : tM} {L : tL} {S : List Value} : rn ca C_X11_enough 55 L S M = rn ca C_X11_enough 57 L (.int (iI 9) :: S) M := (rn_at k_X11_enough_55).trans rfl
theorem k_X11_enough_57 : lk 57 C_X11_enough = some (.istore 6, (0, 0, 0, 0)) := by decide +kernel
theorem s_X11_enough_57 {ca : Nat → List Value → tM → tO} {M : tM} {a0 a1 a2 a3 a4 a5 a6 : Option Value} {x : Int32} {S : List Value} : rn ca C_X11_enough 57 [a0, a1, a2, a3, a4, a5, a6] (.int x :: S) M = rn ca C_X11_enough 59 [a0, a1, a2, a3, a4, a5, some (.int x)] S M := (rn_at k_X11_enough_57).trans rfl
theorem k_X11_enough_59 : lk 59 C_X11_enough = some (.iload 6, (0, 0, 0, 0)) := by decide +kernel
theorem s_X11_enough_59 {ca : Nat → List Value → tM → tO} {M : tM} {a0 a1 a2 a3 a4 a5 : Option Value} {x : Int32} {S : List Value} : rn ca C_X11_enough 59 [a0, a1, a2, a3, a4, a5, some (.int x)] S M = rn ca C_X11_enough 61 [a0, a1, a2, a3, a4, a5, some (.int x)] (.int x :: S) M := (rn_at k_X11_enough_59).trans rfl
theorem k_X11_enough_61 : lk 61 C_X11_enough = some (.ifCond .le 43, (104, 0, 0, 0)) := by decide +kernel
theorem s_X11_enough_61 {ca : Nat → List Value → tM → tO} {M : tM} {L : tL} {x : Int32} {S : List Value} : rn ca C_X11_enough 61 L (.int x :: S) M = if x ≤ iI 0 then rn ca C_X11_enough 104 L S M else rn ca C_X11_enough 64 L S M := (rn_at k_X11_enough_61).trans rnx_ite
theorem k_X11_enough_64 : lk 64 C_X11_enough = some (.aload_n 0, (0, 0, 0, 0)) := by decide +kernel
theorem s_X11_enough_64 {ca : Nat → List Value → tM → tO} {M : tM} {a1 a2 a3 a4 a5 a6 : Option Value} {x : Nat} {S : List Value} : rn ca C_X11_enough 64 [some (.ref x), a1, a2, a3, a4, a5, a6] S M = rn ca C_X11_enough 65 [some (.ref x), a1, a2, a3, a4, a5, a6] (.ref x :: S) M := (rn_at k_X11_enough_64).trans rfl
theorem k_X11_enough_65 : lk 65 C_X11_enough = some (.getfield 17, (11, 1, 0, 147)) := by decide +kernel
theorem s_X11_enough_65 {ca : Nat → List Value → tM → tO} {M : tM} {L : tL} {b : Nat} {S : List Value} : rn ca C_X11_enough 65 L (.ref b :: S) M = if clsO b = some 11 then rn ca C_X11_enough 68 L (fv M b 1 :: S) M else none := (rn_at k_X11_enough_65).trans rnx_ite
theorem k_X11_enough_68 : lk 68 C_X11_enough = some (.bipush 111, (0, 0, 0, 0)) := by decide +kernel
theorem s_X11_enough_68 {ca : Nat → List Value → tM → tO} {M : tM} {L : tL} {S : List Value} : rn ca C_X11_enough 68 L S M = rn ca C_X11_enough 70 L (.int (iI 111) :: S) M := (rn_at k_X11_enough_68).trans rfl
theorem k_X11_enough_70 : lk 70 C_X11_enough = some (.iload 6, (0, 0, 0, 0)) := by decide +kernel
theorem s_X11_enough_70 {ca : Nat → List Value → tM → tO} {M : tM} {a0 a1 a2 a3 a4 a5 : Option Value} {x : Int32} {S : List Value} : rn ca C_X11_enough 70 [a0, a1, a2, a3, a4, a5, some (.int x)] S M = rn ca C_X11_enough 72 [a0, a1, a2, a3, a4, a5, some (.int x)] (.int x :: S) M := (rn_at k_X11_enough_70).trans rfl
theorem k_X11_enough_72 : lk 72 C_X11_enough = some (.iastore, (0, 0, 0, 0)) := by decide +kernel
theorem s_X11_enough_72 {ca : Nat → List Value → tM → tO} {M : tM} {L : tL} {a : Nat} {i x : Int32} {S : List Value} : rn ca C_X11_enough 72 L (.int x :: .int i :: .ref a :: S) M = if akind a = 0 ∧ inb i (alen M a) then rn ca C_X11_enough 73 L S (sI M a i.toInt.toNat x) else none := (rn_at k_X11_enough_72).trans rnx_ite
theorem k_X11_enough_73 : lk 73 C_X11_enough = some (.aload_n 0, (0, 0, 0, 0)) := by decide +kernel
theorem s_X11_enough_73 {ca : Nat → List Value → tM → tO} {M : tM} {a1 a2 a3 a4 a5 a6 : Option Value} {x : Nat} {S : List Value} : rn ca C_X11_enough 73 [some (.ref x), a1, a2, a3, a4, a5, a6] S M = rn ca C_X11_enough 74 [some (.ref x), a1, a2, a3, a4, a5, a6] (.ref x :: S) M := (rn_at k_X11_enough_73).trans rfl
theorem k_X11_enough_74 : lk 74 C_X11_enough = some (.iload_n 1, (0, 0, 0, 0)) := by decide +kernel
theorem s_X11_enough_74 {ca : Nat → List Value → tM → tO} {M : tM} {a0 a2 a3 a4 a5 a6 : Option Value} {x : Int32} {S : List Value} : rn ca C_X11_enough 74 [a0, some (.int x), a2, a3, a4, a5, a6] S M = rn ca C_X11_enough 75 [a0, some (.int x), a2, a3, a4, a5, a6] (.int x :: S) M := (rn_at k_X11_enough_74).trans rfl
theorem k_X11_enough_75 : lk 75 C_X11_enough = some (.iconst 0, (0, 0, 0, 0)) := by decide +kernel
theorem s_X11_enough_75 {ca : Nat → List Value → tM → tO} {M : tM} {L : tL} {S : List Value} : rn ca C_X11_enough 75 L S M = rn ca C_X11_enough 76 L (.int (iI 0) :: S) M := (rn_at k_X11_enough_75).trans rfl
theorem k_X11_enough_76 : lk 76 C_X11_enough = some (.invokevirtual 238, (195, 2, 11, 753)) := by decide +kernel
theorem s_X11_enough_76 {ca : Nat → List Value → tM → tO} {M : tM} {L : tL} {v1 v2 : Value} {b : Nat} : rn ca C_X11_enough 76 L [v2, v1, .ref b] M = if clsO b = some 11 then rnk ca C_X11_enough 79 L [] (ca m_X11_fill [.ref b, v1, v2] M) else none := (rn_at k_X11_enough_76).trans rnx_ite
theorem k_X11_enough_79 : lk 79 C_X11_enough = some (.aload_n 0, (0, 0, 0, 0)) := by decide +kernel
theorem s_X11_enough_79 {ca : Nat → List Value → tM → tO} {M : tM} {a1 a2 a3 a4 a5 a6 : Option Value} {x : Nat} {S : List Value} : rn ca C_X11_enough 79 [some (.ref x), a1, a2, a3, a4, a5, a6] S M = rn ca C_X11_enough 80 [some (.ref x), a1, a2, a3, a4, a5, a6] (.ref x :: S) M := (rn_at k_X11_enough_79).trans rfl
theorem k_X11_enough_80 : lk 80 C_X11_enough = some (.iload_n 1, (0, 0, 0, 0)) := by decide +kernel
theorem s_X11_enough_80 {ca : Nat → List Value → tM → tO} {M : tM} {a0 a2 a3 a4 a5 a6 : Option Value} {x : Int32} {S : List Value} : rn ca C_X11_enough 80 [a0, some (.int x), a2, a3, a4, a5, a6] S M = rn ca C_X11_enough 81 [a0, some (.int x), a2, a3, a4, a5, a6] (.int x :: S) M := (rn_at k_X11_enough_80).trans rfl
theorem k_X11_enough_81 : lk 81 C_X11_enough = some (.iload_n 2, (0, 0, 0, 0)) := by decide +kernel
theorem s_X11_enough_81 {ca : Nat → List Value → tM → tO} {M : tM} {a0 a1 a3 a4 a5 a6 : Option Value} {x : Int32} {S : List Value} : rn ca C_X11_enough 81 [a0, a1, some (.int x), a3, a4, a5, a6] S M = rn ca C_X11_enough 82 [a0, a1, some (.int x), a3, a4, a5, a6] (.int x :: S) M := (rn_at k_X11_enough_81).trans rfl
theorem k_X11_enough_82 : lk 82 C_X11_enough = some (.invokevirtual 230, (196, 2, 11, 790)) := by decide +kernel
theorem s_X11_enough_82 {ca : Nat → List Value → tM → tO} {M : tM} {L : tL} {v1 v2 : Value} {b : Nat} : rn ca C_X11_enough 82 L [v2, v1, .ref b] M = if clsO b = some 11 then rnk ca C_X11_enough 85 L [] (ca m_X11_way [.ref b, v1, v2] M) else none := (rn_at k_X11_enough_82).trans rnx_ite
theorem k_X11_enough_85 : lk 85 C_X11_enough = some (.iload_n 3, (0, 0, 0, 0)) := by decide +kernel
theorem s_X11_enough_85 {ca : Nat → List Value → tM → tO} {M : tM} {a0 a1 a2 a4 a5 a6 : Option Value} {x : Int32} {S : List Value} : rn ca C_X11_enough 85 [a0, a1, a2, some (.int x), a4, a5, a6] S M = rn ca C_X11_enough 86 [a0, a1, a2, some (.int x), a4, a5, a6] (.int x :: S) M := (rn_at k_X11_enough_85).trans rfl
theorem k_X11_enough_86 : lk 86 C_X11_enough = some (.if_icmp .gt 8, (94, 0, 0, 0)) := by decide +kernel
theorem s_X11_enough_86 {ca : Nat → List Value → tM → tO} {M : tM} {L : tL} {x y : Int32} {S : List Value} : rn ca C_X11_enough 86 L (.int y :: .int x :: S) M = if y < x then rn ca C_X11_enough 94 L S M else rn ca C_X11_enough 89 L S M := (rn_at k_X11_enough_86).trans rnx_ite
theorem k_X11_enough_89 : lk 89 C_X11_enough = some (.iload 6, (0, 0, 0, 0)) := by decide +kernel
theorem s_X11_enough_89 {ca : Nat → List Value → tM → tO} {M : tM} {a0 a1 a2 a3 a4 a5 : Option Value} {x : Int32} {S : List Value} : rn ca C_X11_enough 89 [a0, a1, a2, a3, a4, a5, some (.int x)] S M = rn ca C_X11_enough 91 [a0, a1, a2, a3, a4, a5, some (.int x)] (.int x :: S) M := (rn_at k_X11_enough_89).trans rfl
theorem k_X11_enough_91 : lk 91 C_X11_enough = some (.goto 5, (96, 0, 0, 0)) := by decide +kernel
theorem s_X11_enough_91 {ca : Nat → List Value → tM → tO} {M : tM} {L : tL} {S : List Value} : rn ca C_X11_enough 91 L S M = rn ca C_X11_enough 96 L S M := (rn_at k_X11_enough_91).trans rfl
theorem k_X11_enough_94 : lk 94 C_X11_enough = some (.iload 5, (0, 0, 0, 0)) := by decide +kernel
theorem s_X11_enough_94 {ca : Nat → List Value → tM → tO} {M : tM} {a0 a1 a2 a3 a4 a6 : Option Value} {x : Int32} {S : List Value} : rn ca C_X11_enough 94 [a0, a1, a2, a3, a4, some (.int x), a6] S M = rn ca C_X11_enough 96 [a0, a1, a2, a3, a4, some (.int x), a6] (.int x :: S) M := (rn_at k_X11_enough_94).trans rfl
theorem k_X11_enough_96 : lk 96 C_X11_enough = some (.istore 5, (0, 0, 0, 0)) := by decide +kernel
theorem s_X11_enough_96 {ca : Nat → List Value → tM → tO} {M : tM} {a0 a1 a2 a3 a4 a5 a6 : Option Value} {x : Int32} {S : List Value} : rn ca C_X11_enough 96 [a0, a1, a2, a3, a4, a5, a6] (.int x :: S) M = rn ca C_X11_enough 98 [a0, a1, a2, a3, a4, some (.int x), a6] S M := (rn_at k_X11_enough_96).trans rfl
theorem k_X11_enough_98 : lk 98 C_X11_enough = some (.iinc 6 (-1), (0, 0, 0, 0)) := by decide +kernel
theorem s_X11_enough_98 {ca : Nat → List Value → tM → tO} {M : tM} {a0 a1 a2 a3 a4 a5 : Option Value} {x : Int32} {S : List Value} : rn ca C_X11_enough 98 [a0, a1, a2, a3, a4, a5, some (.int x)] S M = rn ca C_X11_enough 101 [a0, a1, a2, a3, a4, a5, some (.int (x + iI (-1)))] S M := (rn_at k_X11_enough_98).trans rfl
theorem k_X11_enough_101 : lk 101 C_X11_enough = some (.goto (-42), (59, 0, 0, 0)) := by decide +kernel
theorem s_X11_enough_101 {ca : Nat → List Value → tM → tO} {M : tM} {L : tL} {S : List Value} : rn ca C_X11_enough 101 L S M = rn ca C_X11_enough 59 L S M := (rn_at k_X11_enough_101).trans rfl
theorem k_X11_enough_104 : lk 104 C_X11_enough = some (.aload_n 0, (0, 0, 0, 0)) := by decide +kernel
theorem s_X11_enough_104 {ca : Nat → List Value → tM → tO} {M : tM} {a1 a2 a3 a4 a5 a6 : Option Value} {x : Nat} {S : List Value} : rn ca C_X11_enough 104 [some (.ref x), a1, a2, a3, a4, a5, a6] S M = rn ca C_X11_enough 105 [some (.ref x), a1, a2, a3, a4, a5, a6] (.ref x :: S) M := (rn_at k_X11_enough_104).trans rfl
theorem k_X11_enough_105 : lk 105 C_X11_enough = some (.getfield 17, (11, 1, 0, 147)) := by decide +kernel
theorem s_X11_enough_105 {ca : Nat → List Value → tM → tO} {M : tM} {L : tL} {b : Nat} {S : List Value} : rn ca C_X11_enough 105 L (.ref b :: S) M = if clsO b = some 11 then rn ca C_X11_enough 108 L (fv M b 1 :: S) M else none := (rn_at k_X11_enough_105).trans rnx_ite
theorem k_X11_enough_108 : lk 108 C_X11_enough = some (.bipush 111, (0, 0, 0, 0)) := by decide +kernel
theorem s_X11_enough_108 {ca : Nat → List Value → tM → tO} {M : tM} {L : tL} {S : List Value} : rn ca C_X11_enough 108 L S M = rn ca C_X11_enough 110 L (.int (iI 111) :: S) M := (rn_at k_X11_enough_108).trans rfl
theorem k_X11_enough_110 : lk 110 C_X11_enough = some (.iload 4, (0, 0, 0, 0)) := by decide +kernel
theorem s_X11_enough_110 {ca : Nat → List Value → tM → tO} {M : tM} {a0 a1 a2 a3 a5 a6 : Option Value} {x : Int32} {S : List Value} : rn ca C_X11_enough 110 [a0, a1, a2, a3, some (.int x), a5, a6] S M = rn ca C_X11_enough 112 [a0, a1, a2, a3, some (.int x), a5, a6] (.int x :: S) M := (rn_at k_X11_enough_110).trans rfl
theorem k_X11_enough_112 : lk 112 C_X11_enough = some (.iastore, (0, 0, 0, 0)) := by decide +kernel
theorem s_X11_enough_112 {ca : Nat → List Value → tM → tO} {M : tM} {L : tL} {a : Nat} {i x : Int32} {S : List Value} : rn ca C_X11_enough 112 L (.int x :: .int i :: .ref a :: S) M = if akind a = 0 ∧ inb i (alen M a) then rn ca C_X11_enough 113 L S (sI M a i.toInt.toNat x) else none := (rn_at k_X11_enough_112).trans rnx_ite
theorem k_X11_enough_113 : lk 113 C_X11_enough = some (.iload 5, (0, 0, 0, 0)) := by decide +kernel
theorem s_X11_enough_113 {ca : Nat → List Value → tM → tO} {M : tM} {a0 a1 a2 a3 a4 a6 : Option Value} {x : Int32} {S : List Value} : rn ca C_X11_enough 113 [a0, a1, a2, a3, a4, some (.int x), a6] S M = rn ca C_X11_enough 115 [a0, a1, a2, a3, a4, some (.int x), a6] (.int x :: S) M := (rn_at k_X11_enough_113).trans rfl
theorem k_X11_enough_115 : lk 115 C_X11_enough = some (.ireturn, (0, 0, 0, 0)) := by decide +kernel
theorem s_X11_enough_115 {ca : Nat → List Value → tM → tO} {M : tM} {L : tL} {x : Int32} : rn ca C_X11_enough 115 L [.int x] M = some (some (.int x), M) := (rn_at k_X11_enough_115).trans rfl
theorem k_X11_tree_0 : lk 0 C_X11_tree = some (.iload_n 1, (0, 0, 0, 0)) := by decide +kernel
theorem s_X11_tree_0 {ca : Nat → List Value → tM → tO} {M : tM} {a0 a2 a3 a4 a5 : Option Value} {x : Int32} {S : List Value} : rn ca C_X11_tree 0 [a0, some (.int x), a2, a3, a4, a5] S M = rn ca C_X11_tree 1 [a0, some (.int x), a2, a3, a4, a5] (.int x :: S) M := (rn_at k_X11_tree_0).trans rfl
theorem k_X11_tree_1 : lk 1 C_X11_tree = some (.i2l, (0, 0, 0, 0)) := by decide +kernel
theorem s_X11_tree_1 {ca : Nat → List Value → tM → tO} {M : tM} {L : tL} {x : Int32} {S : List Value} : rn ca C_X11_tree 1 L (.int x :: S) M = rn ca C_X11_tree 2 L (.long x.toInt64 :: S) M := (rn_at k_X11_tree_1).trans rfl
theorem k_X11_tree_2 : lk 2 C_X11_tree = some (.lconst 0, (0, 0, 0, 0)) := by decide +kernel
theorem s_X11_tree_2 {ca : Nat → List Value → tM → tO} {M : tM} {L : tL} {S : List Value} : rn ca C_X11_tree 2 L S M = rn ca C_X11_tree 3 L (.long (jJ 0) :: S) M := (rn_at k_X11_tree_2).trans rfl
theorem k_X11_tree_3 : lk 3 C_X11_tree = some (.lconst 1, (0, 0, 0, 0)) := by decide +kernel
theorem s_X11_tree_3 {ca : Nat → List Value → tM → tO} {M : tM} {L : tL} {S : List Value} : rn ca C_X11_tree 3 L S M = rn ca C_X11_tree 4 L (.long (jJ 1) :: S) M := (rn_at k_X11_tree_3).trans rfl
theorem k_X11_tree_4 : lk 4 C_X11_tree = some (.invokestatic 87, (143, 3, 0, 197)) := by decide +kernel
theorem s_X11_tree_4 {ca : Nat → List Value → tM → tO} {M : tM} {L : tL} {v1 v2 v3 : Value} : rn ca C_X11_tree 4 L [v3, v2, v1] M = rnk ca C_X11_tree 7 L [] (ca m_X11_isIn [v1, v2, v3] M) := (rn_at k_X11_tree_4).trans rfl
theorem k_X11_tree_7 : lk 7 C_X11_tree = some (.ifCond .ne 10, (17, 0, 0, 0)) := by decide +kernel
theorem s_X11_tree_7 {ca : Nat → List Value → tM → tO} {M : tM} {L : tL} {x : Int32} {S : List Value} : rn ca C_X11_tree 7 L (.int x :: S) M = if ¬ x = iI 0 then rn ca C_X11_tree 17 L S M else rn ca C_X11_tree 10 L S M := (rn_at k_X11_tree_7).trans rnx_ite
theorem k_X11_tree_10 : lk 10 C_X11_tree = some (.aload_n 0, (0, 0, 0, 0)) := by decide +kernel
theorem s_X11_tree_10 {ca : Nat → List Value → tM → tO} {M : tM} {a1 a2 a3 a4 a5 : Option Value} {x : Nat} {S : List Value} : rn ca C_X11_tree 10 [some (.ref x), a1, a2, a3, a4, a5] S M = rn ca C_X11_tree 11 [some (.ref x), a1, a2, a3, a4, a5] (.ref x :: S) M := (rn_at k_X11_tree_10).trans rfl
theorem k_X11_tree_11 : lk 11 C_X11_tree = some (.bipush (-5), (0, 0, 0, 0)) := by decide +kernel
theorem s_X11_tree_11 {ca : Nat → List Value → tM → tO} {M : tM} {L : tL} {S : List Value} : rn ca C_X11_tree 11 L S M = rn ca C_X11_tree 13 L (.int (iI (-5)) :: S) M := (rn_at k_X11_tree_11).trans rfl
theorem k_X11_tree_13 : lk 13 C_X11_tree = some (.invokevirtual 233, (145, 1, 11, 749)) := by decide +kernel
theorem s_X11_tree_13 {ca : Nat → List Value → tM → tO} {M : tM} {L : tL} {v1 : Value} {b : Nat} : rn ca C_X11_tree 13 L [v1, .ref b] M = if clsO b = some 11 then rnk ca C_X11_tree 16 L [] (ca m_X11_refuseBy10 [.ref b, v1] M) else none := (rn_at k_X11_tree_13).trans rnx_ite
theorem k_X11_tree_16 : lk 16 C_X11_tree = some (.ireturn, (0, 0, 0, 0)) := by decide +kernel
theorem s_X11_tree_16 {ca : Nat → List Value → tM → tO} {M : tM} {L : tL} {x : Int32} : rn ca C_X11_tree 16 L [.int x] M = some (some (.int x), M) := (rn_at k_X11_tree_16).trans rfl
theorem k_X11_tree_17 : lk 17 C_X11_tree = some (.aload_n 0, (0, 0, 0, 0)) := by decide +kernel
theorem s_X11_tree_17 {ca : Nat → List Value → tM → tO} {M : tM} {a1 a2 a3 a4 a5 : Option Value} {x : Nat} {S : List Value} : rn ca C_X11_tree 17 [some (.ref x), a1, a2, a3, a4, a5] S M = rn ca C_X11_tree 18 [some (.ref x), a1, a2, a3, a4, a5] (.ref x :: S) M := (rn_at k_X11_tree_17).trans rfl
theorem k_X11_tree_18 : lk 18 C_X11_tree = some (.invokevirtual 214, (192, 0, 11, 757)) := by decide +kernel
theorem s_X11_tree_18 {ca : Nat → List Value → tM → tO} {M : tM} {L : tL} {b : Nat} : rn ca C_X11_tree 18 L [.ref b] M = if clsO b = some 11 then rnk ca C_X11_tree 21 L [] (ca m_X11_clear [.ref b] M) else none := (rn_at k_X11_tree_18).trans rnx_ite
theorem k_X11_tree_21 : lk 21 C_X11_tree = some (.iconst 0, (0, 0, 0, 0)) := by decide +kernel
theorem s_X11_tree_21 {ca : Nat → List Value → tM → tO} {M : tM} {L : tL} {S : List Value} : rn ca C_X11_tree 21 L S M = rn ca C_X11_tree 22 L (.int (iI 0) :: S) M := (rn_at k_X11_tree_21).trans rfl
theorem k_X11_tree_22 : lk 22 C_X11_tree = some (.istore_n 2, (0, 0, 0, 0)) := by decide +kernel
theorem s_X11_tree_22 {ca : Nat → List Value → tM → tO} {M : tM} {a0 a1 a2 a3 a4 a5 : Option Value} {x : Int32} {S : List Value} : rn ca C_X11_tree 22 [a0, a1, a2, a3, a4, a5] (.int x :: S) M = rn ca C_X11_tree 23 [a0, a1, some (.int x), a3, a4, a5] S M := (rn_at k_X11_tree_22).trans rfl
theorem k_X11_tree_23 : lk 23 C_X11_tree = some (.iconst 0, (0, 0, 0, 0)) := by decide +kernel
theorem s_X11_tree_23 {ca : Nat → List Value → tM → tO} {M : tM} {L : tL} {S : List Value} : rn ca C_X11_tree 23 L S M = rn ca C_X11_tree 24 L (.int (iI 0) :: S) M := (rn_at k_X11_tree_23).trans rfl
theorem k_X11_tree_24 : lk 24 C_X11_tree = some (.istore_n 3, (0, 0, 0, 0)) := by decide +kernel
theorem s_X11_tree_24 {ca : Nat → List Value → tM → tO} {M : tM} {a0 a1 a2 a3 a4 a5 : Option Value} {x : Int32} {S : List Value} : rn ca C_X11_tree 24 [a0, a1, a2, a3, a4, a5] (.int x :: S) M = rn ca C_X11_tree 25 [a0, a1, a2, some (.int x), a4, a5] S M := (rn_at k_X11_tree_24).trans rfl
theorem k_X11_tree_25 : lk 25 C_X11_tree = some (.iconst 1, (0, 0, 0, 0)) := by decide +kernel
theorem s_X11_tree_25 {ca : Nat → List Value → tM → tO} {M : tM} {L : tL} {S : List Value} : rn ca C_X11_tree 25 L S M = rn ca C_X11_tree 26 L (.int (iI 1) :: S) M := (rn_at k_X11_tree_25).trans rfl
theorem k_X11_tree_26 : lk 26 C_X11_tree = some (.istore 4, (0, 0, 0, 0)) := by decide +kernel
theorem s_X11_tree_26 {ca : Nat → List Value → tM → tO} {M : tM} {a0 a1 a2 a3 a4 a5 : Option Value} {x : Int32} {S : List Value} : rn ca C_X11_tree 26 [a0, a1, a2, a3, a4, a5] (.int x :: S) M = rn ca C_X11_tree 28 [a0, a1, a2, a3, some (.int x), a5] S M := (rn_at k_X11_tree_26).trans rfl
theorem k_X11_tree_28 : lk 28 C_X11_tree = some (.iload 4, (0, 0, 0, 0)) := by decide +kernel
theorem s_X11_tree_28 {ca : Nat → List Value → tM → tO} {M : tM} {a0 a1 a2 a3 a5 : Option Value} {x : Int32} {S : List Value} : rn ca C_X11_tree 28 [a0, a1, a2, a3, some (.int x), a5] S M = rn ca C_X11_tree 30 [a0, a1, a2, a3, some (.int x), a5] (.int x :: S) M := (rn_at k_X11_tree_28).trans rfl
theorem k_X11_tree_30 : lk 30 C_X11_tree = some (.bipush 10, (0, 0, 0, 0)) := by decide +kernel
theorem s_X11_tree_30 {ca : Nat → List Value → tM → tO} {M : tM} {L : tL} {S : List Value} : rn ca C_X11_tree 30 L S M = rn ca C_X11_tree 32 L (.int (iI 10) :: S) M := (rn_at k_X11_tree_30).trans rfl
theorem k_X11_tree_32 : lk 32 C_X11_tree = some (.if_icmp .ge 118, (150, 0, 0, 0)) := by decide +kernel
theorem s_X11_tree_32 {ca : Nat → List Value → tM → tO} {M : tM} {L : tL} {x y : Int32} {S : List Value} : rn ca C_X11_tree 32 L (.int y :: .int x :: S) M = if y ≤ x then rn ca C_X11_tree 150 L S M else rn ca C_X11_tree 35 L S M := (rn_at k_X11_tree_32).trans rnx_ite
theorem k_X11_tree_35 : lk 35 C_X11_tree = some (.iconst 0, (0, 0, 0, 0)) := by decide +kernel
theorem s_X11_tree_35 {ca : Nat → List Value → tM → tO} {M : tM} {L : tL} {S : List Value} : rn ca C_X11_tree 35 L S M = rn ca C_X11_tree 36 L (.int (iI 0) :: S) M := (rn_at k_X11_tree_35).trans rfl
theorem k_X11_tree_36 : lk 36 C_X11_tree = some (.istore 5, (0, 0, 0, 0)) := by decide +kernel
theorem s_X11_tree_36 {ca : Nat → List Value → tM → tO} {M : tM} {a0 a1 a2 a3 a4 a5 : Option Value} {x : Int32} {S : List Value} : rn ca C_X11_tree 36 [a0, a1, a2, a3, a4, a5] (.int x :: S) M = rn ca C_X11_tree 38 [a0, a1, a2, a3, a4, some (.int x)] S M := (rn_at k_X11_tree_36).trans rfl
theorem k_X11_tree_38 : lk 38 C_X11_tree = some (.iload 5, (0, 0, 0, 0)) := by decide +kernel
theorem s_X11_tree_38 {ca : Nat → List Value → tM → tO} {M : tM} {a0 a1 a2 a3 a4 : Option Value} {x : Int32} {S : List Value} : rn ca C_X11_tree 38 [a0, a1, a2, a3, a4, some (.int x)] S M = rn ca C_X11_tree 40 [a0, a1, a2, a3, a4, some (.int x)] (.int x :: S) M := (rn_at k_X11_tree_38).trans rfl
theorem k_X11_tree_40 : lk 40 C_X11_tree = some (.aload_n 0, (0, 0, 0, 0)) := by decide +kernel
theorem s_X11_tree_40 {ca : Nat → List Value → tM → tO} {M : tM} {a1 a2 a3 a4 a5 : Option Value} {x : Nat} {S : List Value} : rn ca C_X11_tree 40 [some (.ref x), a1, a2, a3, a4, a5] S M = rn ca C_X11_tree 41 [some (.ref x), a1, a2, a3, a4, a5] (.ref x :: S) M := (rn_at k_X11_tree_40).trans rfl
theorem k_X11_tree_41 : lk 41 C_X11_tree = some (.getfield 17, (11, 1, 0, 147)) := by decide +kernel
theorem s_X11_tree_41 {ca : Nat → List Value → tM → tO} {M : tM} {L : tL} {b : Nat} {S : List Value} : rn ca C_X11_tree 41 L (.ref b :: S) M = if clsO b = some 11 then rn ca C_X11_tree 44 L (fv M b 1 :: S) M else none := (rn_at k_X11_tree_41).trans rnx_ite
theorem k_X11_tree_44 : lk 44 C_X11_tree = some (.bipush 109, (0, 0, 0, 0)) := by decide +kernel
theorem s_X11_tree_44 {ca : Nat → List Value → tM → tO} {M : tM} {L : tL} {S : List Value} : rn ca C_X11_tree 44 L S M = rn ca C_X11_tree 46 L (.int (iI 109) :: S) M := (rn_at k_X11_tree_44).trans rfl
theorem k_X11_tree_46 : lk 46 C_X11_tree = some (.iaload, (0, 0, 0, 0)) := by decide +kernel
theorem s_X11_tree_46 {ca : Nat → List Value → tM → tO} {M : tM} {L : tL} {a : Nat} {i : Int32} {S : List Value} : rn ca C_X11_tree 46 L (.int i :: .ref a :: S) M = if (akind a = 0 ∨ akind a = 6 ∨ akind a = 7) ∧ inb i (alen M a) then rn ca C_X11_tree 47 L (.int (M.1 a i.toInt.toNat) :: S) M else none := (rn_at k_X11_tree_46).trans rnx_ite
theorem k_X11_tree_47 : lk 47 C_X11_tree = some (.if_icmp .ge 97, (144, 0, 0, 0)) := by decide +kernel
theorem s_X11_tree_47 {ca : Nat → List Value → tM → tO} {M : tM} {L : tL} {x y : Int32} {S : List Value} : rn ca C_X11_tree 47 L (.int y :: .int x :: S) M = if y ≤ x then rn ca C_X11_tree 144 L S M else rn ca C_X11_tree 50 L S M := (rn_at k_X11_tree_47).trans rnx_ite
theorem k_X11_tree_50 : lk 50 C_X11_tree = some (.aload_n 0, (0, 0, 0, 0)) := by decide +kernel
theorem s_X11_tree_50 {ca : Nat → List Value → tM → tO} {M : tM} {a1 a2 a3 a4 a5 : Option Value} {x : Nat} {S : List Value} : rn ca C_X11_tree 50 [some (.ref x), a1, a2, a3, a4, a5] S M = rn ca C_X11_tree 51 [some (.ref x), a1, a2, a3, a4, a5] (.ref x :: S) M := (rn_at k_X11_tree_50).trans rfl
theorem k_X11_tree_51 : lk 51 C_X11_tree = some (.iload 5, (0, 0, 0, 0)) := by decide +kernel
theorem s_X11_tree_51 {ca : Nat → List Value → tM → tO} {M : tM} {a0 a1 a2 a3 a4 : Option Value} {x : Int32} {S : List Value} : rn ca C_X11_tree 51 [a0, a1, a2, a3, a4, some (.int x)] S M = rn ca C_X11_tree 53 [a0, a1, a2, a3, a4, some (.int x)] (.int x :: S) M := (rn_at k_X11_tree_51).trans rfl
theorem k_X11_tree_53 : lk 53 C_X11_tree = some (.invokevirtual 197, (152, 1, 11, 683)) := by decide +kernel
theorem s_X11_tree_53 {ca : Nat → List Value → tM → tO} {M : tM} {L : tL} {v1 : Value} {b : Nat} : rn ca C_X11_tree 53 L [v1, .ref b] M = if clsO b = some 11 then rnk ca C_X11_tree 56 L [] (ca m_X11_length [.ref b, v1] M) else none := (rn_at k_X11_tree_53).trans rnx_ite
theorem k_X11_tree_56 : lk 56 C_X11_tree = some (.iload 4, (0, 0, 0, 0)) := by decide +kernel
theorem s_X11_tree_56 {ca : Nat → List Value → tM → tO} {M : tM} {a0 a1 a2 a3 a5 : Option Value} {x : Int32} {S : List Value} : rn ca C_X11_tree 56 [a0, a1, a2, a3, some (.int x), a5] S M = rn ca C_X11_tree 58 [a0, a1, a2, a3, some (.int x), a5] (.int x :: S) M := (rn_at k_X11_tree_56).trans rfl
theorem k_X11_tree_58 : lk 58 C_X11_tree = some (.if_icmp .ne 80, (138, 0, 0, 0)) := by decide +kernel
theorem s_X11_tree_58 {ca : Nat → List Value → tM → tO} {M : tM} {L : tL} {x y : Int32} {S : List Value} : rn ca C_X11_tree 58 L (.int y :: .int x :: S) M = if ¬ x = y then rn ca C_X11_tree 138 L S M else rn ca C_X11_tree 61 L S M := (rn_at k_X11_tree_58).trans rnx_ite
theorem k_X11_tree_61 : lk 61 C_X11_tree = some (.aload_n 0, (0, 0, 0, 0)) := by decide +kernel
theorem s_X11_tree_61 {ca : Nat → List Value → tM → tO} {M : tM} {a1 a2 a3 a4 a5 : Option Value} {x : Nat} {S : List Value} : rn ca C_X11_tree 61 [some (.ref x), a1, a2, a3, a4, a5] S M = rn ca C_X11_tree 62 [some (.ref x), a1, a2, a3, a4, a5] (.ref x :: S) M := (rn_at k_X11_tree_61).trans rfl
theorem k_X11_tree_62 : lk 62 C_X11_tree = some (.getfield 64, (11, 14, 0, 158)) := by decide +kernel
theorem s_X11_tree_62 {ca : Nat → List Value → tM → tO} {M : tM} {L : tL} {b : Nat} {S : List Value} : rn ca C_X11_tree 62 L (.ref b :: S) M = if clsO b = some 11 then rn ca C_X11_tree 65 L (fv M b 14 :: S) M else none := (rn_at k_X11_tree_62).trans rnx_ite
theorem k_X11_tree_65 : lk 65 C_X11_tree = some (.bipush 8, (0, 0, 0, 0)) := by decide +kernel
theorem s_X11_tree_65 {ca : Nat → List Value → tM → tO} {M : tM} {L : tL} {S : List Value} : rn ca C_X11_tree 65 L S M = rn ca C_X11_tree 67 L (.int (iI 8) :: S) M := (rn_at k_X11_tree_65).trans rfl
theorem k_X11_tree_67 : lk 67 C_X11_tree = some (.aload_n 0, (0, 0, 0, 0)) := by decide +kernel
theorem s_X11_tree_67 {ca : Nat → List Value → tM → tO} {M : tM} {a1 a2 a3 a4 a5 : Option Value} {x : Nat} {S : List Value} : rn ca C_X11_tree 67 [some (.ref x), a1, a2, a3, a4, a5] S M = rn ca C_X11_tree 68 [some (.ref x), a1, a2, a3, a4, a5] (.ref x :: S) M := (rn_at k_X11_tree_67).trans rfl
theorem k_X11_tree_68 : lk 68 C_X11_tree = some (.iload 5, (0, 0, 0, 0)) := by decide +kernel
theorem s_X11_tree_68 {ca : Nat → List Value → tM → tO} {M : tM} {a0 a1 a2 a3 a4 : Option Value} {x : Int32} {S : List Value} : rn ca C_X11_tree 68 [a0, a1, a2, a3, a4, some (.int x)] S M = rn ca C_X11_tree 70 [a0, a1, a2, a3, a4, some (.int x)] (.int x :: S) M := (rn_at k_X11_tree_68).trans rfl
theorem k_X11_tree_70 : lk 70 C_X11_tree = some (.invokevirtual 221, (150, 1, 11, 769)) := by decide +kernel
theorem s_X11_tree_70 {ca : Nat → List Value → tM → tO} {M : tM} {L : tL} {v1 : Value} {r0 : Int32} {r1 : Nat} {b : Nat} : rn ca C_X11_tree 70 L [v1, .ref b, .int r0, .ref r1] M = if clsO b = some 11 then rnk ca C_X11_tree 73 L [.int r0, .ref r1] (ca m_X11_from [.ref b, v1] M) else none := (rn_at k_X11_tree_70).trans rnx_ite
theorem k_X11_tree_73 : lk 73 C_X11_tree = some (.imul, (0, 0, 0, 0)) := by decide +kernel
theorem s_X11_tree_73 {ca : Nat → List Value → tM → tO} {M : tM} {L : tL} {x y : Int32} {S : List Value} : rn ca C_X11_tree 73 L (.int y :: .int x :: S) M = rn ca C_X11_tree 74 L (.int (x * y) :: S) M := (rn_at k_X11_tree_73).trans rfl
theorem k_X11_tree_74 : lk 74 C_X11_tree = some (.aload_n 0, (0, 0, 0, 0)) := by decide +kernel
theorem s_X11_tree_74 {ca : Nat → List Value → tM → tO} {M : tM} {a1 a2 a3 a4 a5 : Option Value} {x : Nat} {S : List Value} : rn ca C_X11_tree 74 [some (.ref x), a1, a2, a3, a4, a5] S M = rn ca C_X11_tree 75 [some (.ref x), a1, a2, a3, a4, a5] (.ref x :: S) M := (rn_at k_X11_tree_74).trans rfl
theorem k_X11_tree_75 : lk 75 C_X11_tree = some (.iload 5, (0, 0, 0, 0)) := by decide +kernel
theorem s_X11_tree_75 {ca : Nat → List Value → tM → tO} {M : tM} {a0 a1 a2 a3 a4 : Option Value} {x : Int32} {S : List Value} : rn ca C_X11_tree 75 [a0, a1, a2, a3, a4, some (.int x)] S M = rn ca C_X11_tree 77 [a0, a1, a2, a3, a4, some (.int x)] (.int x :: S) M := (rn_at k_X11_tree_75).trans rfl
theorem k_X11_tree_77 : lk 77 C_X11_tree = some (.invokevirtual 224, (151, 1, 11, 773)) := by decide +kernel
theorem s_X11_tree_77 {ca : Nat → List Value → tM → tO} {M : tM} {L : tL} {v1 : Value} {r0 : Int32} {r1 : Nat} {b : Nat} : rn ca C_X11_tree 77 L [v1, .ref b, .int r0, .ref r1] M = if clsO b = some 11 then rnk ca C_X11_tree 80 L [.int r0, .ref r1] (ca m_X11_to [.ref b, v1] M) else none := (rn_at k_X11_tree_77).trans rnx_ite
theorem k_X11_tree_80 : lk 80 C_X11_tree = some (.iadd, (0, 0, 0, 0)) := by decide +kernel
theorem s_X11_tree_80 {ca : Nat → List Value → tM → tO} {M : tM} {L : tL} {x y : Int32} {S : List Value} : rn ca C_X11_tree 80 L (.int y :: .int x :: S) M = rn ca C_X11_tree 81 L (.int (x + y) :: S) M := (rn_at k_X11_tree_80).trans rfl
theorem k_X11_tree_81 : lk 81 C_X11_tree = some (.iaload, (0, 0, 0, 0)) := by decide +kernel
theorem s_X11_tree_81 {ca : Nat → List Value → tM → tO} {M : tM} {L : tL} {a : Nat} {i : Int32} {S : List Value} : rn ca C_X11_tree 81 L (.int i :: .ref a :: S) M = if (akind a = 0 ∨ akind a = 6 ∨ akind a = 7) ∧ inb i (alen M a) then rn ca C_X11_tree 82 L (.int (M.1 a i.toInt.toNat) :: S) M else none := (rn_at k_X11_tree_81).trans rnx_ite
theorem k_X11_tree_82 : lk 82 C_X11_tree = some (.sipush 9999, (0, 0, 0, 0)) := by decide +kernel
theorem s_X11_tree_82 {ca : Nat → List Value → tM → tO} {M : tM} {L : tL} {S : List Value} : rn ca C_X11_tree 82 L S M = rn ca C_X11_tree 85 L (.int (iI 9999) :: S) M := (rn_at k_X11_tree_82).trans rfl
theorem k_X11_tree_85 : lk 85 C_X11_tree = some (.if_icmp .lt 53, (138, 0, 0, 0)) := by decide +kernel
theorem s_X11_tree_85 {ca : Nat → List Value → tM → tO} {M : tM} {L : tL} {x y : Int32} {S : List Value} : rn ca C_X11_tree 85 L (.int y :: .int x :: S) M = if x < y then rn ca C_X11_tree 138 L S M else rn ca C_X11_tree 88 L S M := (rn_at k_X11_tree_85).trans rnx_ite
theorem k_X11_tree_88 : lk 88 C_X11_tree = some (.aload_n 0, (0, 0, 0, 0)) := by decide +kernel
theorem s_X11_tree_88 {ca : Nat → List Value → tM → tO} {M : tM} {a1 a2 a3 a4 a5 : Option Value} {x : Nat} {S : List Value} : rn ca C_X11_tree 88 [some (.ref x), a1, a2, a3, a4, a5] S M = rn ca C_X11_tree 89 [some (.ref x), a1, a2, a3, a4, a5] (.ref x :: S) M := (rn_at k_X11_tree_88).trans rfl
theorem k_X11_tree_89 : lk 89 C_X11_tree = some (.aload_n 0, (0, 0, 0, 0)) := by decide +kernel
theorem s_X11_tree_89 {ca : Nat → List Value → tM → tO} {M : tM} {a1 a2 a3 a4 a5 : Option Value} {x : Nat} {S : List Value} : rn ca C_X11_tree 89 [some (.ref x), a1, a2, a3, a4, a5] S M = rn ca C_X11_tree 90 [some (.ref x), a1, a2, a3, a4, a5] (.ref x :: S) M := (rn_at k_X11_tree_89).trans rfl
theorem k_X11_tree_90 : lk 90 C_X11_tree = some (.iload 5, (0, 0, 0, 0)) := by decide +kernel
theorem s_X11_tree_90 {ca : Nat → List Value → tM → tO} {M : tM} {a0 a1 a2 a3 a4 : Option Value} {x : Int32} {S : List Value} : rn ca C_X11_tree 90 [a0, a1, a2, a3, a4, some (.int x)] S M = rn ca C_X11_tree 92 [a0, a1, a2, a3, a4, some (.int x)] (.int x :: S) M := (rn_at k_X11_tree_90).trans rfl
theorem k_X11_tree_92 : lk 92 C_X11_tree = some (.invokevirtual 221, (150, 1, 11, 769)) := by decide +kernel
theorem s_X11_tree_92 {ca : Nat → List Value → tM → tO} {M : tM} {L : tL} {v1 : Value} {r0 : Nat} {b : Nat} : rn ca C_X11_tree 92 L [v1, .ref b, .ref r0] M = if clsO b = some 11 then rnk ca C_X11_tree 95 L [.ref r0] (ca m_X11_from [.ref b, v1] M) else none := (rn_at k_X11_tree_92).trans rnx_ite
theorem k_X11_tree_95 : lk 95 C_X11_tree = some (.aload_n 0, (0, 0, 0, 0)) := by decide +kernel
theorem s_X11_tree_95 {ca : Nat → List Value → tM → tO} {M : tM} {a1 a2 a3 a4 a5 : Option Value} {x : Nat} {S : List Value} : rn ca C_X11_tree 95 [some (.ref x), a1, a2, a3, a4, a5] S M = rn ca C_X11_tree 96 [some (.ref x), a1, a2, a3, a4, a5] (.ref x :: S) M := (rn_at k_X11_tree_95).trans rfl
theorem k_X11_tree_96 : lk 96 C_X11_tree = some (.iload 5, (0, 0, 0, 0)) := by decide +kernel
theorem s_X11_tree_96 {ca : Nat → List Value → tM → tO} {M : tM} {a0 a1 a2 a3 a4 : Option Value} {x : Int32} {S : List Value} : rn ca C_X11_tree 96 [a0, a1, a2, a3, a4, some (.int x)] S M = rn ca C_X11_tree 98 [a0, a1, a2, a3, a4, some (.int x)] (.int x :: S) M := (rn_at k_X11_tree_96).trans rfl
theorem k_X11_tree_98 : lk 98 C_X11_tree = some (.invokevirtual 224, (151, 1, 11, 773)) := by decide +kernel
theorem s_X11_tree_98 {ca : Nat → List Value → tM → tO} {M : tM} {L : tL} {v1 : Value} {r0 : Int32} {r1 : Nat} {b : Nat} : rn ca C_X11_tree 98 L [v1, .ref b, .int r0, .ref r1] M = if clsO b = some 11 then rnk ca C_X11_tree 101 L [.int r0, .ref r1] (ca m_X11_to [.ref b, v1] M) else none := (rn_at k_X11_tree_98).trans rnx_ite
theorem k_X11_tree_101 : lk 101 C_X11_tree = some (.iconst 0, (0, 0, 0, 0)) := by decide +kernel
theorem s_X11_tree_101 {ca : Nat → List Value → tM → tO} {M : tM} {L : tL} {S : List Value} : rn ca C_X11_tree 101 L S M = rn ca C_X11_tree 102 L (.int (iI 0) :: S) M := (rn_at k_X11_tree_101).trans rfl
theorem k_X11_tree_102 : lk 102 C_X11_tree = some (.invokevirtual 210, (193, 3, 11, 777)) := by decide +kernel
theorem s_X11_tree_102 {ca : Nat → List Value → tM → tO} {M : tM} {L : tL} {v1 v2 v3 : Value} {b : Nat} : rn ca C_X11_tree 102 L [v3, v2, v1, .ref b] M = if clsO b = some 11 then rnk ca C_X11_tree 105 L [] (ca m_X11_nearer [.ref b, v1, v2, v3] M) else none := (rn_at k_X11_tree_102).trans rnx_ite
theorem k_X11_tree_105 : lk 105 C_X11_tree = some (.aload_n 0, (0, 0, 0, 0)) := by decide +kernel
theorem s_X11_tree_105 {ca : Nat → List Value → tM → tO} {M : tM} {a1 a2 a3 a4 a5 : Option Value} {x : Nat} {S : List Value} : rn ca C_X11_tree 105 [some (.ref x), a1, a2, a3, a4, a5] S M = rn ca C_X11_tree 106 [some (.ref x), a1, a2, a3, a4, a5] (.ref x :: S) M := (rn_at k_X11_tree_105).trans rfl
theorem k_X11_tree_106 : lk 106 C_X11_tree = some (.aload_n 0, (0, 0, 0, 0)) := by decide +kernel
theorem s_X11_tree_106 {ca : Nat → List Value → tM → tO} {M : tM} {a1 a2 a3 a4 a5 : Option Value} {x : Nat} {S : List Value} : rn ca C_X11_tree 106 [some (.ref x), a1, a2, a3, a4, a5] S M = rn ca C_X11_tree 107 [some (.ref x), a1, a2, a3, a4, a5] (.ref x :: S) M := (rn_at k_X11_tree_106).trans rfl
theorem k_X11_tree_107 : lk 107 C_X11_tree = some (.iload 5, (0, 0, 0, 0)) := by decide +kernel
theorem s_X11_tree_107 {ca : Nat → List Value → tM → tO} {M : tM} {a0 a1 a2 a3 a4 : Option Value} {x : Int32} {S : List Value} : rn ca C_X11_tree 107 [a0, a1, a2, a3, a4, some (.int x)] S M = rn ca C_X11_tree 109 [a0, a1, a2, a3, a4, some (.int x)] (.int x :: S) M := (rn_at k_X11_tree_107).trans rfl
theorem k_X11_tree_109 : lk 109 C_X11_tree = some (.invokevirtual 224, (151, 1, 11, 773)) := by decide +kernel
theorem s_X11_tree_109 {ca : Nat → List Value → tM → tO} {M : tM} {L : tL} {v1 : Value} {r0 : Nat} {b : Nat} : rn ca C_X11_tree 109 L [v1, .ref b, .ref r0] M = if clsO b = some 11 then rnk ca C_X11_tree 112 L [.ref r0] (ca m_X11_to [.ref b, v1] M) else none := (rn_at k_X11_tree_109).trans rnx_ite
theorem k_X11_tree_112 : lk 112 C_X11_tree = some (.aload_n 0, (0, 0, 0, 0)) := by decide +kernel
theorem s_X11_tree_112 {ca : Nat → List Value → tM → tO} {M : tM} {a1 a2 a3 a4 a5 : Option Value} {x : Nat} {S : List Value} : rn ca C_X11_tree 112 [some (.ref x), a1, a2, a3, a4, a5] S M = rn ca C_X11_tree 113 [some (.ref x), a1, a2, a3, a4, a5] (.ref x :: S) M := (rn_at k_X11_tree_112).trans rfl
theorem k_X11_tree_113 : lk 113 C_X11_tree = some (.iload 5, (0, 0, 0, 0)) := by decide +kernel
theorem s_X11_tree_113 {ca : Nat → List Value → tM → tO} {M : tM} {a0 a1 a2 a3 a4 : Option Value} {x : Int32} {S : List Value} : rn ca C_X11_tree 113 [a0, a1, a2, a3, a4, some (.int x)] S M = rn ca C_X11_tree 115 [a0, a1, a2, a3, a4, some (.int x)] (.int x :: S) M := (rn_at k_X11_tree_113).trans rfl
theorem k_X11_tree_115 : lk 115 C_X11_tree = some (.invokevirtual 221, (150, 1, 11, 769)) := by decide +kernel
theorem s_X11_tree_115 {ca : Nat → List Value → tM → tO} {M : tM} {L : tL} {v1 : Value} {r0 : Int32} {r1 : Nat} {b : Nat} : rn ca C_X11_tree 115 L [v1, .ref b, .int r0, .ref r1] M = if clsO b = some 11 then rnk ca C_X11_tree 118 L [.int r0, .ref r1] (ca m_X11_from [.ref b, v1] M) else none := (rn_at k_X11_tree_115).trans rnx_ite
theorem k_X11_tree_118 : lk 118 C_X11_tree = some (.iconst 0, (0, 0, 0, 0)) := by decide +kernel
theorem s_X11_tree_118 {ca : Nat → List Value → tM → tO} {M : tM} {L : tL} {S : List Value} : rn ca C_X11_tree 118 L S M = rn ca C_X11_tree 119 L (.int (iI 0) :: S) M := (rn_at k_X11_tree_118).trans rfl
theorem k_X11_tree_119 : lk 119 C_X11_tree = some (.invokevirtual 210, (193, 3, 11, 777)) := by decide +kernel
theorem s_X11_tree_119 {ca : Nat → List Value → tM → tO} {M : tM} {L : tL} {v1 v2 v3 : Value} {b : Nat} : rn ca C_X11_tree 119 L [v3, v2, v1, .ref b] M = if clsO b = some 11 then rnk ca C_X11_tree 122 L [] (ca m_X11_nearer [.ref b, v1, v2, v3] M) else none := (rn_at k_X11_tree_119).trans rnx_ite
theorem k_X11_tree_122 : lk 122 C_X11_tree = some (.aload_n 0, (0, 0, 0, 0)) := by decide +kernel
theorem s_X11_tree_122 {ca : Nat → List Value → tM → tO} {M : tM} {a1 a2 a3 a4 a5 : Option Value} {x : Nat} {S : List Value} : rn ca C_X11_tree 122 [some (.ref x), a1, a2, a3, a4, a5] S M = rn ca C_X11_tree 123 [some (.ref x), a1, a2, a3, a4, a5] (.ref x :: S) M := (rn_at k_X11_tree_122).trans rfl
theorem k_X11_tree_123 : lk 123 C_X11_tree = some (.invokevirtual 227, (194, 0, 11, 782)) := by decide +kernel
theorem s_X11_tree_123 {ca : Nat → List Value → tM → tO} {M : tM} {L : tL} {b : Nat} : rn ca C_X11_tree 123 L [.ref b] M = if clsO b = some 11 then rnk ca C_X11_tree 126 L [] (ca m_X11_close [.ref b] M) else none := (rn_at k_X11_tree_123).trans rnx_ite
theorem k_X11_tree_126 : lk 126 C_X11_tree = some (.iload_n 2, (0, 0, 0, 0)) := by decide +kernel
theorem s_X11_tree_126 {ca : Nat → List Value → tM → tO} {M : tM} {a0 a1 a3 a4 a5 : Option Value} {x : Int32} {S : List Value} : rn ca C_X11_tree 126 [a0, a1, some (.int x), a3, a4, a5] S M = rn ca C_X11_tree 127 [a0, a1, some (.int x), a3, a4, a5] (.int x :: S) M := (rn_at k_X11_tree_126).trans rfl
theorem k_X11_tree_127 : lk 127 C_X11_tree = some (.iload 4, (0, 0, 0, 0)) := by decide +kernel
theorem s_X11_tree_127 {ca : Nat → List Value → tM → tO} {M : tM} {a0 a1 a2 a3 a5 : Option Value} {x : Int32} {S : List Value} : rn ca C_X11_tree 127 [a0, a1, a2, a3, some (.int x), a5] S M = rn ca C_X11_tree 129 [a0, a1, a2, a3, some (.int x), a5] (.int x :: S) M := (rn_at k_X11_tree_127).trans rfl
theorem k_X11_tree_129 : lk 129 C_X11_tree = some (.iadd, (0, 0, 0, 0)) := by decide +kernel
theorem s_X11_tree_129 {ca : Nat → List Value → tM → tO} {M : tM} {L : tL} {x y : Int32} {S : List Value} : rn ca C_X11_tree 129 L (.int y :: .int x :: S) M = rn ca C_X11_tree 130 L (.int (x + y) :: S) M := (rn_at k_X11_tree_129).trans rfl
theorem k_X11_tree_130 : lk 130 C_X11_tree = some (.istore_n 2, (0, 0, 0, 0)) := by decide +kernel
theorem s_X11_tree_130 {ca : Nat → List Value → tM → tO} {M : tM} {a0 a1 a2 a3 a4 a5 : Option Value} {x : Int32} {S : List Value} : rn ca C_X11_tree 130 [a0, a1, a2, a3, a4, a5] (.int x :: S) M = rn ca C_X11_tree 131 [a0, a1, some (.int x), a3, a4, a5] S M := (rn_at k_X11_tree_130).trans rfl
theorem k_X11_tree_131 : lk 131 C_X11_tree = some (.iload_n 3, (0, 0, 0, 0)) := by decide +kernel
theorem s_X11_tree_131 {ca : Nat → List Value → tM → tO} {M : tM} {a0 a1 a2 a4 a5 : Option Value} {x : Int32} {S : List Value} : rn ca C_X11_tree 131 [a0, a1, a2, some (.int x), a4, a5] S M = rn ca C_X11_tree 132 [a0, a1, a2, some (.int x), a4, a5] (.int x :: S) M := (rn_at k_X11_tree_131).trans rfl
theorem k_X11_tree_132 : lk 132 C_X11_tree = some (.iconst 1, (0, 0, 0, 0)) := by decide +kernel
theorem s_X11_tree_132 {ca : Nat → List Value → tM → tO} {M : tM} {L : tL} {S : List Value} : rn ca C_X11_tree 132 L S M = rn ca C_X11_tree 133 L (.int (iI 1) :: S) M := (rn_at k_X11_tree_132).trans rfl
theorem k_X11_tree_133 : lk 133 C_X11_tree = some (.iload 5, (0, 0, 0, 0)) := by decide +kernel
theorem s_X11_tree_133 {ca : Nat → List Value → tM → tO} {M : tM} {a0 a1 a2 a3 a4 : Option Value} {x : Int32} {S : List Value} : rn ca C_X11_tree 133 [a0, a1, a2, a3, a4, some (.int x)] S M = rn ca C_X11_tree 135 [a0, a1, a2, a3, a4, some (.int x)] (.int x :: S) M := (rn_at k_X11_tree_133).trans rfl
theorem k_X11_tree_135 : lk 135 C_X11_tree = some (.ishl, (0, 0, 0, 0)) := by decide +kernel
theorem s_X11_tree_135 {ca : Nat → List Value → tM → tO} {M : tM} {L : tL} {x y : Int32} {S : List Value} : rn ca C_X11_tree 135 L (.int y :: .int x :: S) M = rn ca C_X11_tree 136 L (.int (x <<< (y &&& 31)) :: S) M := (rn_at k_X11_tree_135).trans rfl
theorem k_X11_tree_136 : lk 136 C_X11_tree = some (.ior, (0, 0, 0, 0)) := by decide +kernel
theorem s_X11_tree_136 {ca : Nat → List Value → tM → tO} {M : tM} {L : tL} {x y : Int32} {S : List Value} : rn ca C_X11_tree 136 L (.int y :: .int x :: S) M = rn ca C_X11_tree 137 L (.int (x ||| y) :: S) M := (rn_at k_X11_tree_136).trans rfl
theorem k_X11_tree_137 : lk 137 C_X11_tree = some (.istore_n 3, (0, 0, 0, 0)) := by decide +kernel
theorem s_X11_tree_137 {ca : Nat → List Value → tM → tO} {M : tM} {a0 a1 a2 a3 a4 a5 : Option Value} {x : Int32} {S : List Value} : rn ca C_X11_tree 137 [a0, a1, a2, a3, a4, a5] (.int x :: S) M = rn ca C_X11_tree 138 [a0, a1, a2, some (.int x), a4, a5] S M := (rn_at k_X11_tree_137).trans rfl
theorem k_X11_tree_138 : lk 138 C_X11_tree = some (.iinc 5 1, (0, 0, 0, 0)) := by decide +kernel
theorem s_X11_tree_138 {ca : Nat → List Value → tM → tO} {M : tM} {a0 a1 a2 a3 a4 : Option Value} {x : Int32} {S : List Value} : rn ca C_X11_tree 138 [a0, a1, a2, a3, a4, some (.int x)] S M = rn ca C_X11_tree 141 [a0, a1, a2, a3, a4, some (.int (x + iI 1))] S M := (rn_at k_X11_tree_138).trans rfl
theorem k_X11_tree_141 : lk 141 C_X11_tree = some (.goto (-103), (38, 0, 0, 0)) := by decide +kernel
theorem s_X11_tree_141 {ca : Nat → List Value → tM → tO} {M : tM} {L : tL} {S : List Value} : rn ca C_X11_tree 141 L S M = rn ca C_X11_tree 38 L S M := (rn_at k_X11_tree_141).trans rfl
theorem k_X11_tree_144 : lk 144 C_X11_tree = some (.iinc 4 1, (0, 0, 0, 0)) := by decide +kernel
theorem s_X11_tree_144 {ca : Nat → List Value → tM → tO} {M : tM} {a0 a1 a2 a3 a5 : Option Value} {x : Int32} {S : List Value} : rn ca C_X11_tree 144 [a0, a1, a2, a3, some (.int x), a5] S M = rn ca C_X11_tree 147 [a0, a1, a2, a3, some (.int (x + iI 1)), a5] S M := (rn_at k_X11_tree_144).trans rfl
theorem k_X11_tree_147 : lk 147 C_X11_tree = some (.goto (-119), (28, 0, 0, 0)) := by decide +kernel
theorem s_X11_tree_147 {ca : Nat → List Value → tM → tO} {M : tM} {L : tL} {S : List Value} : rn ca C_X11_tree 147 L S M = rn ca C_X11_tree 28 L S M := (rn_at k_X11_tree_147).trans rfl
theorem k_X11_tree_150 : lk 150 C_X11_tree = some (.iconst 1, (0, 0, 0, 0)) := by decide +kernel
theorem s_X11_tree_150 {ca : Nat → List Value → tM → tO} {M : tM} {L : tL} {S : List Value} : rn ca C_X11_tree 150 L S M = rn ca C_X11_tree 151 L (.int (iI 1) :: S) M := (rn_at k_X11_tree_150).trans rfl
theorem k_X11_tree_151 : lk 151 C_X11_tree = some (.istore 4, (0, 0, 0, 0)) := by decide +kernel
theorem s_X11_tree_151 {ca : Nat → List Value → tM → tO} {M : tM} {a0 a1 a2 a3 a4 a5 : Option Value} {x : Int32} {S : List Value} : rn ca C_X11_tree 151 [a0, a1, a2, a3, a4, a5] (.int x :: S) M = rn ca C_X11_tree 153 [a0, a1, a2, a3, some (.int x), a5] S M := (rn_at k_X11_tree_151).trans rfl
theorem k_X11_tree_153 : lk 153 C_X11_tree = some (.iconst 0, (0, 0, 0, 0)) := by decide +kernel
theorem s_X11_tree_153 {ca : Nat → List Value → tM → tO} {M : tM} {L : tL} {S : List Value} : rn ca C_X11_tree 153 L S M = rn ca C_X11_tree 154 L (.int (iI 0) :: S) M := (rn_at k_X11_tree_153).trans rfl
theorem k_X11_tree_154 : lk 154 C_X11_tree = some (.istore 5, (0, 0, 0, 0)) := by decide +kernel
theorem s_X11_tree_154 {ca : Nat → List Value → tM → tO} {M : tM} {a0 a1 a2 a3 a4 a5 : Option Value} {x : Int32} {S : List Value} : rn ca C_X11_tree 154 [a0, a1, a2, a3, a4, a5] (.int x :: S) M = rn ca C_X11_tree 156 [a0, a1, a2, a3, a4, some (.int x)] S M := (rn_at k_X11_tree_154).trans rfl
theorem k_X11_tree_156 : lk 156 C_X11_tree = some (.iload 5, (0, 0, 0, 0)) := by decide +kernel
theorem s_X11_tree_156 {ca : Nat → List Value → tM → tO} {M : tM} {a0 a1 a2 a3 a4 : Option Value} {x : Int32} {S : List Value} : rn ca C_X11_tree 156 [a0, a1, a2, a3, a4, some (.int x)] S M = rn ca C_X11_tree 158 [a0, a1, a2, a3, a4, some (.int x)] (.int x :: S) M := (rn_at k_X11_tree_156).trans rfl
theorem k_X11_tree_158 : lk 158 C_X11_tree = some (.aload_n 0, (0, 0, 0, 0)) := by decide +kernel
theorem s_X11_tree_158 {ca : Nat → List Value → tM → tO} {M : tM} {a1 a2 a3 a4 a5 : Option Value} {x : Nat} {S : List Value} : rn ca C_X11_tree 158 [some (.ref x), a1, a2, a3, a4, a5] S M = rn ca C_X11_tree 159 [some (.ref x), a1, a2, a3, a4, a5] (.ref x :: S) M := (rn_at k_X11_tree_158).trans rfl
theorem k_X11_tree_159 : lk 159 C_X11_tree = some (.getfield 17, (11, 1, 0, 147)) := by decide +kernel
theorem s_X11_tree_159 {ca : Nat → List Value → tM → tO} {M : tM} {L : tL} {b : Nat} {S : List Value} : rn ca C_X11_tree 159 L (.ref b :: S) M = if clsO b = some 11 then rn ca C_X11_tree 162 L (fv M b 1 :: S) M else none := (rn_at k_X11_tree_159).trans rnx_ite
theorem k_X11_tree_162 : lk 162 C_X11_tree = some (.bipush 108, (0, 0, 0, 0)) := by decide +kernel
theorem s_X11_tree_162 {ca : Nat → List Value → tM → tO} {M : tM} {L : tL} {S : List Value} : rn ca C_X11_tree 162 L S M = rn ca C_X11_tree 164 L (.int (iI 108) :: S) M := (rn_at k_X11_tree_162).trans rfl
theorem k_X11_tree_164 : lk 164 C_X11_tree = some (.iaload, (0, 0, 0, 0)) := by decide +kernel
theorem s_X11_tree_164 {ca : Nat → List Value → tM → tO} {M : tM} {L : tL} {a : Nat} {i : Int32} {S : List Value} : rn ca C_X11_tree 164 L (.int i :: .ref a :: S) M = if (akind a = 0 ∨ akind a = 6 ∨ akind a = 7) ∧ inb i (alen M a) then rn ca C_X11_tree 165 L (.int (M.1 a i.toInt.toNat) :: S) M else none := (rn_at k_X11_tree_164).trans rnx_ite
theorem k_X11_tree_165 : lk 165 C_X11_tree = some (.if_icmp .ge 34, (199, 0, 0, 0)) := by decide +kernel
theorem s_X11_tree_165 {ca : Nat → List Value → tM → tO} {M : tM} {L : tL} {x y : Int32} {S : List Value} : rn ca C_X11_tree 165 L (.int y :: .int x :: S) M = if y ≤ x then rn ca C_X11_tree 199 L S M else rn ca C_X11_tree 168 L S M := (rn_at k_X11_tree_165).trans rnx_ite
theorem k_X11_tree_168 : lk 168 C_X11_tree = some (.iload 4, (0, 0, 0, 0)) := by decide +kernel
theorem s_X11_tree_168 {ca : Nat → List Value → tM → tO} {M : tM} {a0 a1 a2 a3 a5 : Option Value} {x : Int32} {S : List Value} : rn ca C_X11_tree 168 [a0, a1, a2, a3, some (.int x), a5] S M = rn ca C_X11_tree 170 [a0, a1, a2, a3, some (.int x), a5] (.int x :: S) M := (rn_at k_X11_tree_168).trans rfl
theorem k_X11_tree_170 : lk 170 C_X11_tree = some (.ifCond .eq 20, (190, 0, 0, 0)) := by decide +kernel
theorem s_X11_tree_170 {ca : Nat → List Value → tM → tO} {M : tM} {L : tL} {x : Int32} {S : List Value} : rn ca C_X11_tree 170 L (.int x :: S) M = if x = iI 0 then rn ca C_X11_tree 190 L S M else rn ca C_X11_tree 173 L S M := (rn_at k_X11_tree_170).trans rnx_ite
theorem k_X11_tree_173 : lk 173 C_X11_tree = some (.aload_n 0, (0, 0, 0, 0)) := by decide +kernel
theorem s_X11_tree_173 {ca : Nat → List Value → tM → tO} {M : tM} {a1 a2 a3 a4 a5 : Option Value} {x : Nat} {S : List Value} : rn ca C_X11_tree 173 [some (.ref x), a1, a2, a3, a4, a5] S M = rn ca C_X11_tree 174 [some (.ref x), a1, a2, a3, a4, a5] (.ref x :: S) M := (rn_at k_X11_tree_173).trans rfl
theorem k_X11_tree_174 : lk 174 C_X11_tree = some (.getfield 64, (11, 14, 0, 158)) := by decide +kernel
theorem s_X11_tree_174 {ca : Nat → List Value → tM → tO} {M : tM} {L : tL} {b : Nat} {S : List Value} : rn ca C_X11_tree 174 L (.ref b :: S) M = if clsO b = some 11 then rn ca C_X11_tree 177 L (fv M b 14 :: S) M else none := (rn_at k_X11_tree_174).trans rnx_ite
theorem k_X11_tree_177 : lk 177 C_X11_tree = some (.iload 5, (0, 0, 0, 0)) := by decide +kernel
theorem s_X11_tree_177 {ca : Nat → List Value → tM → tO} {M : tM} {a0 a1 a2 a3 a4 : Option Value} {x : Int32} {S : List Value} : rn ca C_X11_tree 177 [a0, a1, a2, a3, a4, some (.int x)] S M = rn ca C_X11_tree 179 [a0, a1, a2, a3, a4, some (.int x)] (.int x :: S) M := (rn_at k_X11_tree_177).trans rfl
theorem k_X11_tree_179 : lk 179 C_X11_tree = some (.iaload, (0, 0, 0, 0)) := by decide +kernel
theorem s_X11_tree_179 {ca : Nat → List Value → tM → tO} {M : tM} {L : tL} {a : Nat} {i : Int32} {S : List Value} : rn ca C_X11_tree 179 L (.int i :: .ref a :: S) M = if (akind a = 0 ∨ akind a = 6 ∨ akind a = 7) ∧ inb i (alen M a) then rn ca C_X11_tree 180 L (.int (M.1 a i.toInt.toNat) :: S) M else none := (rn_at k_X11_tree_179).trans rnx_ite
theorem k_X11_tree_180 : lk 180 C_X11_tree = some (.sipush 9999, (0, 0, 0, 0)) := by decide +kernel
theorem s_X11_tree_180 {ca : Nat → List Value → tM → tO} {M : tM} {L : tL} {S : List Value} : rn ca C_X11_tree 180 L S M = rn ca C_X11_tree 183 L (.int (iI 9999) :: S) M := (rn_at k_X11_tree_180).trans rfl
theorem k_X11_tree_183 : lk 183 C_X11_tree = some (.if_icmp .ge 7, (190, 0, 0, 0)) := by decide +kernel
theorem s_X11_tree_183 {ca : Nat → List Value → tM → tO} {M : tM} {L : tL} {x y : Int32} {S : List Value} : rn ca C_X11_tree 183 L (.int y :: .int x :: S) M = if y ≤ x then rn ca C_X11_tree 190 L S M else rn ca C_X11_tree 186 L S M := (rn_at k_X11_tree_183).trans rnx_ite
theorem k_X11_tree_186 : lk 186 C_X11_tree = some (.iconst 1, (0, 0, 0, 0)) := by decide +kernel
theorem s_X11_tree_186 {ca : Nat → List Value → tM → tO} {M : tM} {L : tL} {S : List Value} : rn ca C_X11_tree 186 L S M = rn ca C_X11_tree 187 L (.int (iI 1) :: S) M := (rn_at k_X11_tree_186).trans rfl
theorem k_X11_tree_187 : lk 187 C_X11_tree = some (.goto 4, (191, 0, 0, 0)) := by decide +kernel
theorem s_X11_tree_187 {ca : Nat → List Value → tM → tO} {M : tM} {L : tL} {S : List Value} : rn ca C_X11_tree 187 L S M = rn ca C_X11_tree 191 L S M := (rn_at k_X11_tree_187).trans rfl
theorem k_X11_tree_190 : lk 190 C_X11_tree = some (.iconst 0, (0, 0, 0, 0)) := by decide +kernel
theorem s_X11_tree_190 {ca : Nat → List Value → tM → tO} {M : tM} {L : tL} {S : List Value} : rn ca C_X11_tree 190 L S M = rn ca C_X11_tree 191 L (.int (iI 0) :: S) M := (rn_at k_X11_tree_190).trans rfl
theorem k_X11_tree_191 : lk 191 C_X11_tree = some (.istore 4, (0, 0, 0, 0)) := by decide +kernel
theorem s_X11_tree_191 {ca : Nat → List Value → tM → tO} {M : tM} {a0 a1 a2 a3 a4 a5 : Option Value} {x : Int32} {S : List Value} : rn ca C_X11_tree 191 [a0, a1, a2, a3, a4, a5] (.int x :: S) M = rn ca C_X11_tree 193 [a0, a1, a2, a3, some (.int x), a5] S M := (rn_at k_X11_tree_191).trans rfl
theorem k_X11_tree_193 : lk 193 C_X11_tree = some (.iinc 5 1, (0, 0, 0, 0)) := by decide +kernel
theorem s_X11_tree_193 {ca : Nat → List Value → tM → tO} {M : tM} {a0 a1 a2 a3 a4 : Option Value} {x : Int32} {S : List Value} : rn ca C_X11_tree 193 [a0, a1, a2, a3, a4, some (.int x)] S M = rn ca C_X11_tree 196 [a0, a1, a2, a3, a4, some (.int (x + iI 1))] S M := (rn_at k_X11_tree_193).trans rfl
theorem k_X11_tree_196 : lk 196 C_X11_tree = some (.goto (-40), (156, 0, 0, 0)) := by decide +kernel
theorem s_X11_tree_196 {ca : Nat → List Value → tM → tO} {M : tM} {L : tL} {S : List Value} : rn ca C_X11_tree 196 L S M = rn ca C_X11_tree 156 L S M := (rn_at k_X11_tree_196).trans rfl
theorem k_X11_tree_199 : lk 199 C_X11_tree = some (.iload 4, (0, 0, 0, 0)) := by decide +kernel
theorem s_X11_tree_199 {ca : Nat → List Value → tM → tO} {M : tM} {a0 a1 a2 a3 a5 : Option Value} {x : Int32} {S : List Value} : rn ca C_X11_tree 199 [a0, a1, a2, a3, some (.int x), a5] S M = rn ca C_X11_tree 201 [a0, a1, a2, a3, some (.int x), a5] (.int x :: S) M := (rn_at k_X11_tree_199).trans rfl
theorem k_X11_tree_201 : lk 201 C_X11_tree = some (.ifCond .ne 7, (208, 0, 0, 0)) := by decide +kernel
theorem s_X11_tree_201 {ca : Nat → List Value → tM → tO} {M : tM} {L : tL} {x : Int32} {S : List Value} : rn ca C_X11_tree 201 L (.int x :: S) M = if ¬ x = iI 0 then rn ca C_X11_tree 208 L S M else rn ca C_X11_tree 204 L S M := (rn_at k_X11_tree_201).trans rnx_ite
theorem k_X11_tree_204 : lk 204 C_X11_tree = some (.iconst (-1), (0, 0, 0, 0)) := by decide +kernel
theorem s_X11_tree_204 {ca : Nat → List Value → tM → tO} {M : tM} {L : tL} {S : List Value} : rn ca C_X11_tree 204 L S M = rn ca C_X11_tree 205 L (.int (iI (-1)) :: S) M := (rn_at k_X11_tree_204).trans rfl
theorem k_X11_tree_205 : lk 205 C_X11_tree = some (.goto 12, (217, 0, 0, 0)) := by decide +kernel
theorem s_X11_tree_205 {ca : Nat → List Value → tM → tO} {M : tM} {L : tL} {S : List Value} : rn ca C_X11_tree 205 L S M = rn ca C_X11_tree 217 L S M := (rn_at k_X11_tree_205).trans rfl
theorem k_X11_tree_208 : lk 208 C_X11_tree = some (.iload_n 1, (0, 0, 0, 0)) := by decide +kernel
theorem s_X11_tree_208 {ca : Nat → List Value → tM → tO} {M : tM} {a0 a2 a3 a4 a5 : Option Value} {x : Int32} {S : List Value} : rn ca C_X11_tree 208 [a0, some (.int x), a2, a3, a4, a5] S M = rn ca C_X11_tree 209 [a0, some (.int x), a2, a3, a4, a5] (.int x :: S) M := (rn_at k_X11_tree_208).trans rfl
theorem k_X11_tree_209 : lk 209 C_X11_tree = some (.ifCond .ne 7, (216, 0, 0, 0)) := by decide +kernel
theorem s_X11_tree_209 {ca : Nat → List Value → tM → tO} {M : tM} {L : tL} {x : Int32} {S : List Value} : rn ca C_X11_tree 209 L (.int x :: S) M = if ¬ x = iI 0 then rn ca C_X11_tree 216 L S M else rn ca C_X11_tree 212 L S M := (rn_at k_X11_tree_209).trans rnx_ite
theorem k_X11_tree_212 : lk 212 C_X11_tree = some (.iload_n 2, (0, 0, 0, 0)) := by decide +kernel
theorem s_X11_tree_212 {ca : Nat → List Value → tM → tO} {M : tM} {a0 a1 a3 a4 a5 : Option Value} {x : Int32} {S : List Value} : rn ca C_X11_tree 212 [a0, a1, some (.int x), a3, a4, a5] S M = rn ca C_X11_tree 213 [a0, a1, some (.int x), a3, a4, a5] (.int x :: S) M := (rn_at k_X11_tree_212).trans rfl
theorem k_X11_tree_213 : lk 213 C_X11_tree = some (.goto 4, (217, 0, 0, 0)) := by decide +kernel
theorem s_X11_tree_213 {ca : Nat → List Value → tM → tO} {M : tM} {L : tL} {S : List Value} : rn ca C_X11_tree 213 L S M = rn ca C_X11_tree 217 L S M := (rn_at k_X11_tree_213).trans rfl
theorem k_X11_tree_216 : lk 216 C_X11_tree = some (.iload_n 3, (0, 0, 0, 0)) := by decide +kernel
theorem s_X11_tree_216 {ca : Nat → List Value → tM → tO} {M : tM} {a0 a1 a2 a4 a5 : Option Value} {x : Int32} {S : List Value} : rn ca C_X11_tree 216 [a0, a1, a2, some (.int x), a4, a5] S M = rn ca C_X11_tree 217 [a0, a1, a2, some (.int x), a4, a5] (.int x :: S) M := (rn_at k_X11_tree_216).trans rfl
theorem k_X11_tree_217 : lk 217 C_X11_tree = some (.ireturn, (0, 0, 0, 0)) := by decide +kernel
theorem s_X11_tree_217 {ca : Nat → List Value → tM → tO} {M : tM} {L : tL} {x : Int32} : rn ca C_X11_tree 217 L [.int x] M = some (some (.int x), M) := (rn_at k_X11_tree_217).trans rfl
theorem k_X11_seat_0 : lk 0 C_X11_seat = some (.aload_n 0, (0, 0, 0, 0)) := by decide +kernel
theorem s_X11_seat_0 {ca : Nat → List Value → tM → tO} {M : tM} {a1 a2 a3 a4 a5 a6 a7 : Option Value} {x : Nat} {S : List Value} : rn ca C_X11_seat 0 [some (.ref x), a1, a2, a3, a4, a5, a6, a7] S M = rn ca C_X11_seat 1 [some (.ref x), a1, a2, a3, a4, a5, a6, a7] (.ref x :: S) M := (rn_at k_X11_seat_0).trans rfl
theorem k_X11_seat_1 : lk 1 C_X11_seat = some (.iload_n 1, (0, 0, 0, 0)) := by decide +kernel
theorem s_X11_seat_1 {ca : Nat → List Value → tM → tO} {M : tM} {a0 a2 a3 a4 a5 a6 a7 : Option Value} {x : Int32} {S : List Value} : rn ca C_X11_seat 1 [a0, some (.int x), a2, a3, a4, a5, a6, a7] S M = rn ca C_X11_seat 2 [a0, some (.int x), a2, a3, a4, a5, a6, a7] (.int x :: S) M := (rn_at k_X11_seat_1).trans rfl
theorem k_X11_seat_2 : lk 2 C_X11_seat = some (.i2l, (0, 0, 0, 0)) := by decide +kernel
theorem s_X11_seat_2 {ca : Nat → List Value → tM → tO} {M : tM} {L : tL} {x : Int32} {S : List Value} : rn ca C_X11_seat 2 L (.int x :: S) M = rn ca C_X11_seat 3 L (.long x.toInt64 :: S) M := (rn_at k_X11_seat_2).trans rfl
theorem k_X11_seat_3 : lk 3 C_X11_seat = some (.invokevirtual 114, (149, 1, 11, 302)) := by decide +kernel
theorem s_X11_seat_3 {ca : Nat → List Value → tM → tO} {M : tM} {L : tL} {v1 : Value} {b : Nat} : rn ca C_X11_seat 3 L [v1, .ref b] M = if clsO b = some 11 then rnk ca C_X11_seat 6 L [] (ca m_X11_isCapsule [.ref b, v1] M) else none := (rn_at k_X11_seat_3).trans rnx_ite
theorem k_X11_seat_6 : lk 6 C_X11_seat = some (.ifCond .ne 9, (15, 0, 0, 0)) := by decide +kernel
theorem s_X11_seat_6 {ca : Nat → List Value → tM → tO} {M : tM} {L : tL} {x : Int32} {S : List Value} : rn ca C_X11_seat 6 L (.int x :: S) M = if ¬ x = iI 0 then rn ca C_X11_seat 15 L S M else rn ca C_X11_seat 9 L S M := (rn_at k_X11_seat_6).trans rnx_ite
theorem k_X11_seat_9 : lk 9 C_X11_seat = some (.aload_n 0, (0, 0, 0, 0)) := by decide +kernel
theorem s_X11_seat_9 {ca : Nat → List Value → tM → tO} {M : tM} {a1 a2 a3 a4 a5 a6 a7 : Option Value} {x : Nat} {S : List Value} : rn ca C_X11_seat 9 [some (.ref x), a1, a2, a3, a4, a5, a6, a7] S M = rn ca C_X11_seat 10 [some (.ref x), a1, a2, a3, a4, a5, a6, a7] (.ref x :: S) M := (rn_at k_X11_seat_9).trans rfl
theorem k_X11_seat_10 : lk 10 C_X11_seat = some (.iconst (-1), (0, 0, 0, 0)) := by decide +kernel
theorem s_X11_seat_10 {ca : Nat → List Value → tM → tO} {M : tM} {L : tL} {S : List Value} : rn ca C_X11_seat 10 L S M = rn ca C_X11_seat 11 L (.int (iI (-1)) :: S) M := (rn_at k_X11_seat_10).trans rfl
theorem k_X11_seat_11 : lk 11 C_X11_seat = some (.invokevirtual 83, (144, 1, 11, 200)) := by decide +kernel
theorem s_X11_seat_11 {ca : Nat → List Value → tM → tO} {M : tM} {L : tL} {v1 : Value} {b : Nat} : rn ca C_X11_seat 11 L [v1, .ref b] M = if clsO b = some 11 then rnk ca C_X11_seat 14 L [] (ca m_X11_refuse [.ref b, v1] M) else none := (rn_at k_X11_seat_11).trans rnx_ite
theorem k_X11_seat_14 : lk 14 C_X11_seat = some (.ireturn, (0, 0, 0, 0)) := by decide +kernel
theorem s_X11_seat_14 {ca : Nat → List Value → tM → tO} {M : tM} {L : tL} {x : Int32} : rn ca C_X11_seat 14 L [.int x] M = some (some (.int x), M) := (rn_at k_X11_seat_14).trans rfl
theorem k_X11_seat_15 : lk 15 C_X11_seat = some (.iload_n 2, (0, 0, 0, 0)) := by decide +kernel
theorem s_X11_seat_15 {ca : Nat → List Value → tM → tO} {M : tM} {a0 a1 a3 a4 a5 a6 a7 : Option Value} {x : Int32} {S : List Value} : rn ca C_X11_seat 15 [a0, a1, some (.int x), a3, a4, a5, a6, a7] S M = rn ca C_X11_seat 16 [a0, a1, some (.int x), a3, a4, a5, a6, a7] (.int x :: S) M := (rn_at k_X11_seat_15).trans rfl
theorem k_X11_seat_16 : lk 16 C_X11_seat = some (.i2l, (0, 0, 0, 0)) := by decide +kernel
theorem s_X11_seat_16 {ca : Nat → List Value → tM → tO} {M : tM} {L : tL} {x : Int32} {S : List Value} : rn ca C_X11_seat 16 L (.int x :: S) M = rn ca C_X11_seat 17 L (.long x.toInt64 :: S) M := (rn_at k_X11_seat_16).trans rfl
theorem k_X11_seat_17 : lk 17 C_X11_seat = some (.lconst 0, (0, 0, 0, 0)) := by decide +kernel
theorem s_X11_seat_17 {ca : Nat → List Value → tM → tO} {M : tM} {L : tL} {S : List Value} : rn ca C_X11_seat 17 L S M = rn ca C_X11_seat 18 L (.long (jJ 0) :: S) M := (rn_at k_X11_seat_17).trans rfl
theorem k_X11_seat_18 : lk 18 C_X11_seat = some (.lconst 1, (0, 0, 0, 0)) := by decide +kernel
theorem s_X11_seat_18 {ca : Nat → List Value → tM → tO} {M : tM} {L : tL} {S : List Value} : rn ca C_X11_seat 18 L S M = rn ca C_X11_seat 19 L (.long (jJ 1) :: S) M := (rn_at k_X11_seat_18).trans rfl
theorem k_X11_seat_19 : lk 19 C_X11_seat = some (.invokestatic 87, (143, 3, 0, 197)) := by decide +kernel
theorem s_X11_seat_19 {ca : Nat → List Value → tM → tO} {M : tM} {L : tL} {v1 v2 v3 : Value} : rn ca C_X11_seat 19 L [v3, v2, v1] M = rnk ca C_X11_seat 22 L [] (ca m_X11_isIn [v1, v2, v3] M) := (rn_at k_X11_seat_19).trans rfl
theorem k_X11_seat_22 : lk 22 C_X11_seat = some (.ifCond .ne 10, (32, 0, 0, 0)) := by decide +kernel
theorem s_X11_seat_22 {ca : Nat → List Value → tM → tO} {M : tM} {L : tL} {x : Int32} {S : List Value} : rn ca C_X11_seat 22 L (.int x :: S) M = if ¬ x = iI 0 then rn ca C_X11_seat 32 L S M else rn ca C_X11_seat 25 L S M := (rn_at k_X11_seat_22).trans rnx_ite
theorem k_X11_seat_25 : lk 25 C_X11_seat = some (.aload_n 0, (0, 0, 0, 0)) := by decide +kernel
theorem s_X11_seat_25 {ca : Nat → List Value → tM → tO} {M : tM} {a1 a2 a3 a4 a5 a6 a7 : Option Value} {x : Nat} {S : List Value} : rn ca C_X11_seat 25 [some (.ref x), a1, a2, a3, a4, a5, a6, a7] S M = rn ca C_X11_seat 26 [some (.ref x), a1, a2, a3, a4, a5, a6, a7] (.ref x :: S) M := (rn_at k_X11_seat_25).trans rfl
theorem k_X11_seat_26 : lk 26 C_X11_seat = some (.bipush (-5), (0, 0, 0, 0)) := by decide +kernel
theorem s_X11_seat_26 {ca : Nat → List Value → tM → tO} {M : tM} {L : tL} {S : List Value} : rn ca C_X11_seat 26 L S M = rn ca C_X11_seat 28 L (.int (iI (-5)) :: S) M := (rn_at k_X11_seat_26).trans rfl
theorem k_X11_seat_28 : lk 28 C_X11_seat = some (.invokevirtual 83, (144, 1, 11, 200)) := by decide +kernel
theorem s_X11_seat_28 {ca : Nat → List Value → tM → tO} {M : tM} {L : tL} {v1 : Value} {b : Nat} : rn ca C_X11_seat 28 L [v1, .ref b] M = if clsO b = some 11 then rnk ca C_X11_seat 31 L [] (ca m_X11_refuse [.ref b, v1] M) else none := (rn_at k_X11_seat_28).trans rnx_ite
theorem k_X11_seat_31 : lk 31 C_X11_seat = some (.ireturn, (0, 0, 0, 0)) := by decide +kernel
theorem s_X11_seat_31 {ca : Nat → List Value → tM → tO} {M : tM} {L : tL} {x : Int32} : rn ca C_X11_seat 31 L [.int x] M = some (some (.int x), M) := (rn_at k_X11_seat_31).trans rfl
theorem k_X11_seat_32 : lk 32 C_X11_seat = some (.aload_n 0, (0, 0, 0, 0)) := by decide +kernel
theorem s_X11_seat_32 {ca : Nat → List Value → tM → tO} {M : tM} {a1 a2 a3 a4 a5 a6 a7 : Option Value} {x : Nat} {S : List Value} : rn ca C_X11_seat 32 [some (.ref x), a1, a2, a3, a4, a5, a6, a7] S M = rn ca C_X11_seat 33 [some (.ref x), a1, a2, a3, a4, a5, a6, a7] (.ref x :: S) M := (rn_at k_X11_seat_32).trans rfl
theorem k_X11_seat_33 : lk 33 C_X11_seat = some (.iload_n 1, (0, 0, 0, 0)) := by decide +kernel
theorem s_X11_seat_33 {ca : Nat → List Value → tM → tO} {M : tM} {a0 a2 a3 a4 a5 a6 a7 : Option Value} {x : Int32} {S : List Value} : rn ca C_X11_seat 33 [a0, some (.int x), a2, a3, a4, a5, a6, a7] S M = rn ca C_X11_seat 34 [a0, some (.int x), a2, a3, a4, a5, a6, a7] (.int x :: S) M := (rn_at k_X11_seat_33).trans rfl
theorem k_X11_seat_34 : lk 34 C_X11_seat = some (.iconst 0, (0, 0, 0, 0)) := by decide +kernel
theorem s_X11_seat_34 {ca : Nat → List Value → tM → tO} {M : tM} {L : tL} {S : List Value} : rn ca C_X11_seat 34 L S M = rn ca C_X11_seat 35 L (.int (iI 0) :: S) M := (rn_at k_X11_seat_34).trans rfl
theorem k_X11_seat_35 : lk 35 C_X11_seat = some (.invokevirtual 238, (195, 2, 11, 753)) := by decide +kernel
theorem s_X11_seat_35 {ca : Nat → List Value → tM → tO} {M : tM} {L : tL} {v1 v2 : Value} {b : Nat} : rn ca C_X11_seat 35 L [v2, v1, .ref b] M = if clsO b = some 11 then rnk ca C_X11_seat 38 L [] (ca m_X11_fill [.ref b, v1, v2] M) else none := (rn_at k_X11_seat_35).trans rnx_ite
theorem k_X11_seat_38 : lk 38 C_X11_seat = some (.iconst (-1), (0, 0, 0, 0)) := by decide +kernel
theorem s_X11_seat_38 {ca : Nat → List Value → tM → tO} {M : tM} {L : tL} {S : List Value} : rn ca C_X11_seat 38 L S M = rn ca C_X11_seat 39 L (.int (iI (-1)) :: S) M := (rn_at k_X11_seat_38).trans rfl
theorem k_X11_seat_39 : lk 39 C_X11_seat = some (.istore_n 3, (0, 0, 0, 0)) := by decide +kernel
theorem s_X11_seat_39 {ca : Nat → List Value → tM → tO} {M : tM} {a0 a1 a2 a3 a4 a5 a6 a7 : Option Value} {x : Int32} {S : List Value} : rn ca C_X11_seat 39 [a0, a1, a2, a3, a4, a5, a6, a7] (.int x :: S) M = rn ca C_X11_seat 40 [a0, a1, a2, some (.int x), a4, a5, a6, a7] S M := (rn_at k_X11_seat_39).trans rfl
theorem k_X11_seat_40 : lk 40 C_X11_seat = some (.sipush 10000, (0, 0, 0, 0)) := by decide +kernel
theorem s_X11_seat_40 {ca : Nat → List Value → tM → tO} {M : tM} {L : tL} {S : List Value} : rn ca C_X11_seat 40 L S M = rn ca C_X11_seat 43 L (.int (iI 10000) :: S) M := (rn_at k_X11_seat_40).trans rfl
theorem k_X11_seat_43 : lk 43 C_X11_seat = some (.istore 4, (0, 0, 0, 0)) := by decide +kernel
theorem s_X11_seat_43 {ca : Nat → List Value → tM → tO} {M : tM} {a0 a1 a2 a3 a4 a5 a6 a7 : Option Value} {x : Int32} {S : List Value} : rn ca C_X11_seat 43 [a0, a1, a2, a3, a4, a5, a6, a7] (.int x :: S) M = rn ca C_X11_seat 45 [a0, a1, a2, a3, some (.int x), a5, a6, a7] S M := (rn_at k_X11_seat_43).trans rfl
theorem k_X11_seat_45 : lk 45 C_X11_seat = some (.iconst 0, (0, 0, 0, 0)) := by decide +kernel
theorem s_X11_seat_45 {ca : Nat → List Value → tM → tO} {M : tM} {L : tL} {S : List Value} : rn ca C_X11_seat 45 L S M = rn ca C_X11_seat 46 L (.int (iI 0) :: S) M := (rn_at k_X11_seat_45).trans rfl
theorem k_X11_seat_46 : lk 46 C_X11_seat = some (.istore 5, (0, 0, 0, 0)) := by decide +kernel
theorem s_X11_seat_46 {ca : Nat → List Value → tM → tO} {M : tM} {a0 a1 a2 a3 a4 a5 a6 a7 : Option Value} {x : Int32} {S : List Value} : rn ca C_X11_seat 46 [a0, a1, a2, a3, a4, a5, a6, a7] (.int x :: S) M = rn ca C_X11_seat 48 [a0, a1, a2, a3, a4, some (.int x), a6, a7] S M := (rn_at k_X11_seat_46).trans rfl
theorem k_X11_seat_48 : lk 48 C_X11_seat = some (.iload 5, (0, 0, 0, 0)) := by decide +kernel
theorem s_X11_seat_48 {ca : Nat → List Value → tM → tO} {M : tM} {a0 a1 a2 a3 a4 a6 a7 : Option Value} {x : Int32} {S : List Value} : rn ca C_X11_seat 48 [a0, a1, a2, a3, a4, some (.int x), a6, a7] S M = rn ca C_X11_seat 50 [a0, a1, a2, a3, a4, some (.int x), a6, a7] (.int x :: S) M := (rn_at k_X11_seat_48).trans rfl
theorem k_X11_seat_50 : lk 50 C_X11_seat = some (.aload_n 0, (0, 0, 0, 0)) := by decide +kernel
theorem s_X11_seat_50 {ca : Nat → List Value → tM → tO} {M : tM} {a1 a2 a3 a4 a5 a6 a7 : Option Value} {x : Nat} {S : List Value} : rn ca C_X11_seat 50 [some (.ref x), a1, a2, a3, a4, a5, a6, a7] S M = rn ca C_X11_seat 51 [some (.ref x), a1, a2, a3, a4, a5, a6, a7] (.ref x :: S) M := (rn_at k_X11_seat_50).trans rfl
theorem k_X11_seat_51 : lk 51 C_X11_seat = some (.getfield 17, (11, 1, 0, 147)) := by decide +kernel
theorem s_X11_seat_51 {ca : Nat → List Value → tM → tO} {M : tM} {L : tL} {b : Nat} {S : List Value} : rn ca C_X11_seat 51 L (.ref b :: S) M = if clsO b = some 11 then rn ca C_X11_seat 54 L (fv M b 1 :: S) M else none := (rn_at k_X11_seat_51).trans rnx_ite
theorem k_X11_seat_54 : lk 54 C_X11_seat = some (.bipush 108, (0, 0, 0, 0)) := by decide +kernel
theorem s_X11_seat_54 {ca : Nat → List Value → tM → tO} {M : tM} {L : tL} {S : List Value} : rn ca C_X11_seat 54 L S M = rn ca C_X11_seat 56 L (.int (iI 108) :: S) M := (rn_at k_X11_seat_54).trans rfl
theorem k_X11_seat_56 : lk 56 C_X11_seat = some (.iaload, (0, 0, 0, 0)) := by decide +kernel
theorem s_X11_seat_56 {ca : Nat → List Value → tM → tO} {M : tM} {L : tL} {a : Nat} {i : Int32} {S : List Value} : rn ca C_X11_seat 56 L (.int i :: .ref a :: S) M = if (akind a = 0 ∨ akind a = 6 ∨ akind a = 7) ∧ inb i (alen M a) then rn ca C_X11_seat 57 L (.int (M.1 a i.toInt.toNat) :: S) M else none := (rn_at k_X11_seat_56).trans rnx_ite
theorem k_X11_seat_57 : lk 57 C_X11_seat = some (.if_icmp .ge 82, (139, 0, 0, 0)) := by decide +kernel
theorem s_X11_seat_57 {ca : Nat → List Value → tM → tO} {M : tM} {L : tL} {x y : Int32} {S : List Value} : rn ca C_X11_seat 57 L (.int y :: .int x :: S) M = if y ≤ x then rn ca C_X11_seat 139 L S M else rn ca C_X11_seat 60 L S M := (rn_at k_X11_seat_57).trans rnx_ite
theorem k_X11_seat_60 : lk 60 C_X11_seat = some (.iconst 0, (0, 0, 0, 0)) := by decide +kernel
theorem s_X11_seat_60 {ca : Nat → List Value → tM → tO} {M : tM} {L : tL} {S : List Value} : rn ca C_X11_seat 60 L S M = rn ca C_X11_seat 61 L (.int (iI 0) :: S) M := (rn_at k_X11_seat_60).trans rfl
theorem k_X11_seat_61 : lk 61 C_X11_seat = some (.istore 6, (0, 0, 0, 0)) := by decide +kernel
theorem s_X11_seat_61 {ca : Nat → List Value → tM → tO} {M : tM} {a0 a1 a2 a3 a4 a5 a6 a7 : Option Value} {x : Int32} {S : List Value} : rn ca C_X11_seat 61 [a0, a1, a2, a3, a4, a5, a6, a7] (.int x :: S) M = rn ca C_X11_seat 63 [a0, a1, a2, a3, a4, a5, some (.int x), a7] S M := (rn_at k_X11_seat_61).trans rfl
theorem k_X11_seat_63 : lk 63 C_X11_seat = some (.iconst 0, (0, 0, 0, 0)) := by decide +kernel
theorem s_X11_seat_63 {ca : Nat → List Value → tM → tO} {M : tM} {L : tL} {S : List Value} : rn ca C_X11_seat 63 L S M = rn ca C_X11_seat 64 L (.int (iI 0) :: S) M := (rn_at k_X11_seat_63).trans rfl
theorem k_X11_seat_64 : lk 64 C_X11_seat = some (.istore 7, (0, 0, 0, 0)) := by decide +kernel
theorem s_X11_seat_64 {ca : Nat → List Value → tM → tO} {M : tM} {a0 a1 a2 a3 a4 a5 a6 a7 : Option Value} {x : Int32} {S : List Value} : rn ca C_X11_seat 64 [a0, a1, a2, a3, a4, a5, a6, a7] (.int x :: S) M = rn ca C_X11_seat 66 [a0, a1, a2, a3, a4, a5, a6, some (.int x)] S M := (rn_at k_X11_seat_64).trans rfl
theorem k_X11_seat_66 : lk 66 C_X11_seat = some (.iload 7, (0, 0, 0, 0)) := by decide +kernel
theorem s_X11_seat_66 {ca : Nat → List Value → tM → tO} {M : tM} {a0 a1 a2 a3 a4 a5 a6 : Option Value} {x : Int32} {S : List Value} : rn ca C_X11_seat 66 [a0, a1, a2, a3, a4, a5, a6, some (.int x)] S M = rn ca C_X11_seat 68 [a0, a1, a2, a3, a4, a5, a6, some (.int x)] (.int x :: S) M := (rn_at k_X11_seat_66).trans rfl
theorem k_X11_seat_68 : lk 68 C_X11_seat = some (.aload_n 0, (0, 0, 0, 0)) := by decide +kernel
theorem s_X11_seat_68 {ca : Nat → List Value → tM → tO} {M : tM} {a1 a2 a3 a4 a5 a6 a7 : Option Value} {x : Nat} {S : List Value} : rn ca C_X11_seat 68 [some (.ref x), a1, a2, a3, a4, a5, a6, a7] S M = rn ca C_X11_seat 69 [some (.ref x), a1, a2, a3, a4, a5, a6, a7] (.ref x :: S) M := (rn_at k_X11_seat_68).trans rfl
theorem k_X11_seat_69 : lk 69 C_X11_seat = some (.getfield 17, (11, 1, 0, 147)) := by decide +kernel
theorem s_X11_seat_69 {ca : Nat → List Value → tM → tO} {M : tM} {L : tL} {b : Nat} {S : List Value} : rn ca C_X11_seat 69 L (.ref b :: S) M = if clsO b = some 11 then rn ca C_X11_seat 72 L (fv M b 1 :: S) M else none := (rn_at k_X11_seat_69).trans rnx_ite
theorem k_X11_seat_72 : lk 72 C_X11_seat = some (.bipush 108, (0, 0, 0, 0)) := by decide +kernel
theorem s_X11_seat_72 {ca : Nat → List Value → tM → tO} {M : tM} {L : tL} {S : List Value} : rn ca C_X11_seat 72 L S M = rn ca C_X11_seat 74 L (.int (iI 108) :: S) M := (rn_at k_X11_seat_72).trans rfl
theorem k_X11_seat_74 : lk 74 C_X11_seat = some (.iaload, (0, 0, 0, 0)) := by decide +kernel
theorem s_X11_seat_74 {ca : Nat → List Value → tM → tO} {M : tM} {L : tL} {a : Nat} {i : Int32} {S : List Value} : rn ca C_X11_seat 74 L (.int i :: .ref a :: S) M = if (akind a = 0 ∨ akind a = 6 ∨ akind a = 7) ∧ inb i (alen M a) then rn ca C_X11_seat 75 L (.int (M.1 a i.toInt.toNat) :: S) M else none := (rn_at k_X11_seat_74).trans rnx_ite
theorem k_X11_seat_75 : lk 75 C_X11_seat = some (.if_icmp .ge 35, (110, 0, 0, 0)) := by decide +kernel
theorem s_X11_seat_75 {ca : Nat → List Value → tM → tO} {M : tM} {L : tL} {x y : Int32} {S : List Value} : rn ca C_X11_seat 75 L (.int y :: .int x :: S) M = if y ≤ x then rn ca C_X11_seat 110 L S M else rn ca C_X11_seat 78 L S M := (rn_at k_X11_seat_75).trans rnx_ite
theorem k_X11_seat_78 : lk 78 C_X11_seat = some (.iload 6, (0, 0, 0, 0)) := by decide +kernel
theorem s_X11_seat_78 {ca : Nat → List Value → tM → tO} {M : tM} {a0 a1 a2 a3 a4 a5 a7 : Option Value} {x : Int32} {S : List Value} : rn ca C_X11_seat 78 [a0, a1, a2, a3, a4, a5, some (.int x), a7] S M = rn ca C_X11_seat 80 [a0, a1, a2, a3, a4, a5, some (.int x), a7] (.int x :: S) M := (rn_at k_X11_seat_78).trans rfl
theorem k_X11_seat_80 : lk 80 C_X11_seat = some (.sipush 9999, (0, 0, 0, 0)) := by decide +kernel
theorem s_X11_seat_80 {ca : Nat → List Value → tM → tO} {M : tM} {L : tL} {S : List Value} : rn ca C_X11_seat 80 L S M = rn ca C_X11_seat 83 L (.int (iI 9999) :: S) M := (rn_at k_X11_seat_80).trans rfl
theorem k_X11_seat_83 : lk 83 C_X11_seat = some (.aload_n 0, (0, 0, 0, 0)) := by decide +kernel
theorem s_X11_seat_83 {ca : Nat → List Value → tM → tO} {M : tM} {a1 a2 a3 a4 a5 a6 a7 : Option Value} {x : Nat} {S : List Value} : rn ca C_X11_seat 83 [some (.ref x), a1, a2, a3, a4, a5, a6, a7] S M = rn ca C_X11_seat 84 [some (.ref x), a1, a2, a3, a4, a5, a6, a7] (.ref x :: S) M := (rn_at k_X11_seat_83).trans rfl
theorem k_X11_seat_84 : lk 84 C_X11_seat = some (.getfield 64, (11, 14, 0, 158)) := by decide +kernel
theorem s_X11_seat_84 {ca : Nat → List Value → tM → tO} {M : tM} {L : tL} {b : Nat} {S : List Value} : rn ca C_X11_seat 84 L (.ref b :: S) M = if clsO b = some 11 then rn ca C_X11_seat 87 L (fv M b 14 :: S) M else none := (rn_at k_X11_seat_84).trans rnx_ite
theorem k_X11_seat_87 : lk 87 C_X11_seat = some (.bipush 8, (0, 0, 0, 0)) := by decide +kernel
theorem s_X11_seat_87 {ca : Nat → List Value → tM → tO} {M : tM} {L : tL} {S : List Value} : rn ca C_X11_seat 87 L S M = rn ca C_X11_seat 89 L (.int (iI 8) :: S) M := (rn_at k_X11_seat_87).trans rfl
theorem k_X11_seat_89 : lk 89 C_X11_seat = some (.iload 5, (0, 0, 0, 0)) := by decide +kernel
theorem s_X11_seat_89 {ca : Nat → List Value → tM → tO} {M : tM} {a0 a1 a2 a3 a4 a6 a7 : Option Value} {x : Int32} {S : List Value} : rn ca C_X11_seat 89 [a0, a1, a2, a3, a4, some (.int x), a6, a7] S M = rn ca C_X11_seat 91 [a0, a1, a2, a3, a4, some (.int x), a6, a7] (.int x :: S) M := (rn_at k_X11_seat_89).trans rfl
theorem k_X11_seat_91 : lk 91 C_X11_seat = some (.imul, (0, 0, 0, 0)) := by decide +kernel
theorem s_X11_seat_91 {ca : Nat → List Value → tM → tO} {M : tM} {L : tL} {x y : Int32} {S : List Value} : rn ca C_X11_seat 91 L (.int y :: .int x :: S) M = rn ca C_X11_seat 92 L (.int (x * y) :: S) M := (rn_at k_X11_seat_91).trans rfl
theorem k_X11_seat_92 : lk 92 C_X11_seat = some (.iload 7, (0, 0, 0, 0)) := by decide +kernel
theorem s_X11_seat_92 {ca : Nat → List Value → tM → tO} {M : tM} {a0 a1 a2 a3 a4 a5 a6 : Option Value} {x : Int32} {S : List Value} : rn ca C_X11_seat 92 [a0, a1, a2, a3, a4, a5, a6, some (.int x)] S M = rn ca C_X11_seat 94 [a0, a1, a2, a3, a4, a5, a6, some (.int x)] (.int x :: S) M := (rn_at k_X11_seat_92).trans rfl
theorem k_X11_seat_94 : lk 94 C_X11_seat = some (.iadd, (0, 0, 0, 0)) := by decide +kernel
theorem s_X11_seat_94 {ca : Nat → List Value → tM → tO} {M : tM} {L : tL} {x y : Int32} {S : List Value} : rn ca C_X11_seat 94 L (.int y :: .int x :: S) M = rn ca C_X11_seat 95 L (.int (x + y) :: S) M := (rn_at k_X11_seat_94).trans rfl
theorem k_X11_seat_95 : lk 95 C_X11_seat = some (.iaload, (0, 0, 0, 0)) := by decide +kernel
theorem s_X11_seat_95 {ca : Nat → List Value → tM → tO} {M : tM} {L : tL} {a : Nat} {i : Int32} {S : List Value} : rn ca C_X11_seat 95 L (.int i :: .ref a :: S) M = if (akind a = 0 ∨ akind a = 6 ∨ akind a = 7) ∧ inb i (alen M a) then rn ca C_X11_seat 96 L (.int (M.1 a i.toInt.toNat) :: S) M else none := (rn_at k_X11_seat_95).trans rnx_ite
theorem k_X11_seat_96 : lk 96 C_X11_seat = some (.invokestatic 207, (0, 2, 3, 781)) := by decide +kernel
theorem s_X11_seat_96 {ca : Nat → List Value → tM → tO} {M : tM} {L : tL} {x y : Int32} {r0 : Int32} : rn ca C_X11_seat 96 L [.int y, .int x, .int r0] M = rn ca C_X11_seat 99 L [.int (mnI x y), .int r0] M := (rn_at k_X11_seat_96).trans rfl
theorem k_X11_seat_99 : lk 99 C_X11_seat = some (.invokestatic 199, (0, 2, 2, 682)) := by decide +kernel
theorem s_X11_seat_99 {ca : Nat → List Value → tM → tO} {M : tM} {L : tL} {x y : Int32} : rn ca C_X11_seat 99 L [.int y, .int x] M = rn ca C_X11_seat 102 L [.int (mxI x y)] M := (rn_at k_X11_seat_99).trans rfl
theorem k_X11_seat_102 : lk 102 C_X11_seat = some (.istore 6, (0, 0, 0, 0)) := by decide +kernel
theorem s_X11_seat_102 {ca : Nat → List Value → tM → tO} {M : tM} {a0 a1 a2 a3 a4 a5 a6 a7 : Option Value} {x : Int32} {S : List Value} : rn ca C_X11_seat 102 [a0, a1, a2, a3, a4, a5, a6, a7] (.int x :: S) M = rn ca C_X11_seat 104 [a0, a1, a2, a3, a4, a5, some (.int x), a7] S M := (rn_at k_X11_seat_102).trans rfl
theorem k_X11_seat_104 : lk 104 C_X11_seat = some (.iinc 7 1, (0, 0, 0, 0)) := by decide +kernel
theorem s_X11_seat_104 {ca : Nat → List Value → tM → tO} {M : tM} {a0 a1 a2 a3 a4 a5 a6 : Option Value} {x : Int32} {S : List Value} : rn ca C_X11_seat 104 [a0, a1, a2, a3, a4, a5, a6, some (.int x)] S M = rn ca C_X11_seat 107 [a0, a1, a2, a3, a4, a5, a6, some (.int (x + iI 1))] S M := (rn_at k_X11_seat_104).trans rfl
theorem k_X11_seat_107 : lk 107 C_X11_seat = some (.goto (-41), (66, 0, 0, 0)) := by decide +kernel
theorem s_X11_seat_107 {ca : Nat → List Value → tM → tO} {M : tM} {L : tL} {S : List Value} : rn ca C_X11_seat 107 L S M = rn ca C_X11_seat 66 L S M := (rn_at k_X11_seat_107).trans rfl
theorem k_X11_seat_110 : lk 110 C_X11_seat = some (.iload 6, (0, 0, 0, 0)) := by decide +kernel
theorem s_X11_seat_110 {ca : Nat → List Value → tM → tO} {M : tM} {a0 a1 a2 a3 a4 a5 a7 : Option Value} {x : Int32} {S : List Value} : rn ca C_X11_seat 110 [a0, a1, a2, a3, a4, a5, some (.int x), a7] S M = rn ca C_X11_seat 112 [a0, a1, a2, a3, a4, a5, some (.int x), a7] (.int x :: S) M := (rn_at k_X11_seat_110).trans rfl
theorem k_X11_seat_112 : lk 112 C_X11_seat = some (.iload 4, (0, 0, 0, 0)) := by decide +kernel
theorem s_X11_seat_112 {ca : Nat → List Value → tM → tO} {M : tM} {a0 a1 a2 a3 a5 a6 a7 : Option Value} {x : Int32} {S : List Value} : rn ca C_X11_seat 112 [a0, a1, a2, a3, some (.int x), a5, a6, a7] S M = rn ca C_X11_seat 114 [a0, a1, a2, a3, some (.int x), a5, a6, a7] (.int x :: S) M := (rn_at k_X11_seat_112).trans rfl
theorem k_X11_seat_114 : lk 114 C_X11_seat = some (.if_icmp .ge 8, (122, 0, 0, 0)) := by decide +kernel
theorem s_X11_seat_114 {ca : Nat → List Value → tM → tO} {M : tM} {L : tL} {x y : Int32} {S : List Value} : rn ca C_X11_seat 114 L (.int y :: .int x :: S) M = if y ≤ x then rn ca C_X11_seat 122 L S M else rn ca C_X11_seat 117 L S M := (rn_at k_X11_seat_114).trans rnx_ite
theorem k_X11_seat_117 : lk 117 C_X11_seat = some (.iload 5, (0, 0, 0, 0)) := by decide +kernel
theorem s_X11_seat_117 {ca : Nat → List Value → tM → tO} {M : tM} {a0 a1 a2 a3 a4 a6 a7 : Option Value} {x : Int32} {S : List Value} : rn ca C_X11_seat 117 [a0, a1, a2, a3, a4, some (.int x), a6, a7] S M = rn ca C_X11_seat 119 [a0, a1, a2, a3, a4, some (.int x), a6, a7] (.int x :: S) M := (rn_at k_X11_seat_117).trans rfl
theorem k_X11_seat_119 : lk 119 C_X11_seat = some (.goto 4, (123, 0, 0, 0)) := by decide +kernel
theorem s_X11_seat_119 {ca : Nat → List Value → tM → tO} {M : tM} {L : tL} {S : List Value} : rn ca C_X11_seat 119 L S M = rn ca C_X11_seat 123 L S M := (rn_at k_X11_seat_119).trans rfl
theorem k_X11_seat_122 : lk 122 C_X11_seat = some (.iload_n 3, (0, 0, 0, 0)) := by decide +kernel
theorem s_X11_seat_122 {ca : Nat → List Value → tM → tO} {M : tM} {a0 a1 a2 a4 a5 a6 a7 : Option Value} {x : Int32} {S : List Value} : rn ca C_X11_seat 122 [a0, a1, a2, some (.int x), a4, a5, a6, a7] S M = rn ca C_X11_seat 123 [a0, a1, a2, some (.int x), a4, a5, a6, a7] (.int x :: S) M := (rn_at k_X11_seat_122).trans rfl
theorem k_X11_seat_123 : lk 123 C_X11_seat = some (.istore_n 3, (0, 0, 0, 0)) := by decide +kernel
theorem s_X11_seat_123 {ca : Nat → List Value → tM → tO} {M : tM} {a0 a1 a2 a3 a4 a5 a6 a7 : Option Value} {x : Int32} {S : List Value} : rn ca C_X11_seat 123 [a0, a1, a2, a3, a4, a5, a6, a7] (.int x :: S) M = rn ca C_X11_seat 124 [a0, a1, a2, some (.int x), a4, a5, a6, a7] S M := (rn_at k_X11_seat_123).trans rfl
theorem k_X11_seat_124 : lk 124 C_X11_seat = some (.iload 6, (0, 0, 0, 0)) := by decide +kernel
theorem s_X11_seat_124 {ca : Nat → List Value → tM → tO} {M : tM} {a0 a1 a2 a3 a4 a5 a7 : Option Value} {x : Int32} {S : List Value} : rn ca C_X11_seat 124 [a0, a1, a2, a3, a4, a5, some (.int x), a7] S M = rn ca C_X11_seat 126 [a0, a1, a2, a3, a4, a5, some (.int x), a7] (.int x :: S) M := (rn_at k_X11_seat_124).trans rfl
theorem k_X11_seat_126 : lk 126 C_X11_seat = some (.iload 4, (0, 0, 0, 0)) := by decide +kernel
theorem s_X11_seat_126 {ca : Nat → List Value → tM → tO} {M : tM} {a0 a1 a2 a3 a5 a6 a7 : Option Value} {x : Int32} {S : List Value} : rn ca C_X11_seat 126 [a0, a1, a2, a3, some (.int x), a5, a6, a7] S M = rn ca C_X11_seat 128 [a0, a1, a2, a3, some (.int x), a5, a6, a7] (.int x :: S) M := (rn_at k_X11_seat_126).trans rfl
theorem k_X11_seat_128 : lk 128 C_X11_seat = some (.invokestatic 207, (0, 2, 3, 781)) := by decide +kernel
theorem s_X11_seat_128 {ca : Nat → List Value → tM → tO} {M : tM} {L : tL} {x y : Int32} : rn ca C_X11_seat 128 L [.int y, .int x] M = rn ca C_X11_seat 131 L [.int (mnI x y)] M := (rn_at k_X11_seat_128).trans rfl
theorem k_X11_seat_131 : lk 131 C_X11_seat = some (.istore 4, (0, 0, 0, 0)) := by decide +kernel
theorem s_X11_seat_131 {ca : Nat → List Value → tM → tO} {M : tM} {a0 a1 a2 a3 a4 a5 a6 a7 : Option Value} {x : Int32} {S : List Value} : rn ca C_X11_seat 131 [a0, a1, a2, a3, a4, a5, a6, a7] (.int x :: S) M = rn ca C_X11_seat 133 [a0, a1, a2, a3, some (.int x), a5, a6, a7] S M := (rn_at k_X11_seat_131).trans rfl
theorem k_X11_seat_133 : lk 133 C_X11_seat = some (.iinc 5 1, (0, 0, 0, 0)) := by decide +kernel
theorem s_X11_seat_133 {ca : Nat → List Value → tM → tO} {M : tM} {a0 a1 a2 a3 a4 a6 a7 : Option Value} {x : Int32} {S : List Value} : rn ca C_X11_seat 133 [a0, a1, a2, a3, a4, some (.int x), a6, a7] S M = rn ca C_X11_seat 136 [a0, a1, a2, a3, a4, some (.int (x + iI 1)), a6, a7] S M := (rn_at k_X11_seat_133).trans rfl
theorem k_X11_seat_136 : lk 136 C_X11_seat = some (.goto (-88), (48, 0, 0, 0)) := by decide +kernel
theorem s_X11_seat_136 {ca : Nat → List Value → tM → tO} {M : tM} {L : tL} {S : List Value} : rn ca C_X11_seat 136 L S M = rn ca C_X11_seat 48 L S M := (rn_at k_X11_seat_136).trans rfl
theorem k_X11_seat_139 : lk 139 C_X11_seat = some (.iload_n 2, (0, 0, 0, 0)) := by decide +kernel
theorem s_X11_seat_139 {ca : Nat → List Value → tM → tO} {M : tM} {a0 a1 a3 a4 a5 a6 a7 : Option Value} {x : Int32} {S : List Value} : rn ca C_X11_seat 139 [a0, a1, some (.int x), a3, a4, a5, a6, a7] S M = rn ca C_X11_seat 140 [a0, a1, some (.int x), a3, a4, a5, a6, a7] (.int x :: S) M := (rn_at k_X11_seat_139).trans rfl
theorem k_X11_seat_140 : lk 140 C_X11_seat = some (.ifCond .ne 7, (147, 0, 0, 0)) := by decide +kernel
theorem s_X11_seat_140 {ca : Nat → List Value → tM → tO} {M : tM} {L : tL} {x : Int32} {S : List Value} : rn ca C_X11_seat 140 L (.int x :: S) M = if ¬ x = iI 0 then rn ca C_X11_seat 147 L S M else rn ca C_X11_seat 143 L S M := (rn_at k_X11_seat_140).trans rnx_ite
theorem k_X11_seat_143 : lk 143 C_X11_seat = some (.iload_n 3, (0, 0, 0, 0)) := by decide +kernel
theorem s_X11_seat_143 {ca : Nat → List Value → tM → tO} {M : tM} {a0 a1 a2 a4 a5 a6 a7 : Option Value} {x : Int32} {S : List Value} : rn ca C_X11_seat 143 [a0, a1, a2, some (.int x), a4, a5, a6, a7] S M = rn ca C_X11_seat 144 [a0, a1, a2, some (.int x), a4, a5, a6, a7] (.int x :: S) M := (rn_at k_X11_seat_143).trans rfl
theorem k_X11_seat_144 : lk 144 C_X11_seat = some (.goto 5, (149, 0, 0, 0)) := by decide +kernel
theorem s_X11_seat_144 {ca : Nat → List Value → tM → tO} {M : tM} {L : tL} {S : List Value} : rn ca C_X11_seat 144 L S M = rn ca C_X11_seat 149 L S M := (rn_at k_X11_seat_144).trans rfl
theorem k_X11_seat_147 : lk 147 C_X11_seat = some (.iload 4, (0, 0, 0, 0)) := by decide +kernel
theorem s_X11_seat_147 {ca : Nat → List Value → tM → tO} {M : tM} {a0 a1 a2 a3 a5 a6 a7 : Option Value} {x : Int32} {S : List Value} : rn ca C_X11_seat 147 [a0, a1, a2, a3, some (.int x), a5, a6, a7] S M = rn ca C_X11_seat 149 [a0, a1, a2, a3, some (.int x), a5, a6, a7] (.int x :: S) M := (rn_at k_X11_seat_147).trans rfl
theorem k_X11_seat_149 : lk 149 C_X11_seat = some (.ireturn, (0, 0, 0, 0)) := by decide +kernel
theorem s_X11_seat_149 {ca : Nat → List Value → tM → tO} {M : tM} {L : tL} {x : Int32} : rn ca C_X11_seat 149 L [.int x] M = some (some (.int x), M) := (rn_at k_X11_seat_149).trans rfl
theorem k_X11_legs_0 : lk 0 C_X11_legs = some (.aload_n 0, (0, 0, 0, 0)) := by decide +kernel
theorem s_X11_legs_0 {ca : Nat → List Value → tM → tO} {M : tM} {a1 a2 : Option Value} {x : Nat} {S : List Value} : rn ca C_X11_legs 0 [some (.ref x), a1, a2] S M = rn ca C_X11_legs 1 [some (.ref x), a1, a2] (.ref x :: S) M := (rn_at k_X11_legs_0).trans rfl
theorem k_X11_legs_1 : lk 1 C_X11_legs = some (.iload_n 1, (0, 0, 0, 0)) := by decide +kernel
theorem s_X11_legs_1 {ca : Nat → List Value → tM → tO} {M : tM} {a0 a2 : Option Value} {x : Int32} {S : List Value} : rn ca C_X11_legs 1 [a0, some (.int x), a2] S M = rn ca C_X11_legs 2 [a0, some (.int x), a2] (.int x :: S) M := (rn_at k_X11_legs_1).trans rfl
theorem k_X11_legs_2 : lk 2 C_X11_legs = some (.invokevirtual 126, (172, 1, 11, 236)) := by decide +kernel
theorem s_X11_legs_2 {ca : Nat → List Value → tM → tO} {M : tM} {L : tL} {v1 : Value} {b : Nat} : rn ca C_X11_legs 2 L [v1, .ref b] M = if clsO b = some 11 then rnk ca C_X11_legs 5 L [] (ca m_X11_rowIn [.ref b, v1] M) else none := (rn_at k_X11_legs_2).trans rnx_ite
theorem k_X11_legs_5 : lk 5 C_X11_legs = some (.ifCond .ge 11, (16, 0, 0, 0)) := by decide +kernel
theorem s_X11_legs_5 {ca : Nat → List Value → tM → tO} {M : tM} {L : tL} {x : Int32} {S : List Value} : rn ca C_X11_legs 5 L (.int x :: S) M = if iI 0 ≤ x then rn ca C_X11_legs 16 L S M else rn ca C_X11_legs 8 L S M := (rn_at k_X11_legs_5).trans rnx_ite
theorem k_X11_legs_8 : lk 8 C_X11_legs = some (.aload_n 0, (0, 0, 0, 0)) := by decide +kernel
theorem s_X11_legs_8 {ca : Nat → List Value → tM → tO} {M : tM} {a1 a2 : Option Value} {x : Nat} {S : List Value} : rn ca C_X11_legs 8 [some (.ref x), a1, a2] S M = rn ca C_X11_legs 9 [some (.ref x), a1, a2] (.ref x :: S) M := (rn_at k_X11_legs_8).trans rfl
theorem k_X11_legs_9 : lk 9 C_X11_legs = some (.iload_n 1, (0, 0, 0, 0)) := by decide +kernel
theorem s_X11_legs_9 {ca : Nat → List Value → tM → tO} {M : tM} {a0 a2 : Option Value} {x : Int32} {S : List Value} : rn ca C_X11_legs 9 [a0, some (.int x), a2] S M = rn ca C_X11_legs 10 [a0, some (.int x), a2] (.int x :: S) M := (rn_at k_X11_legs_9).trans rfl
theorem k_X11_legs_10 : lk 10 C_X11_legs = some (.invokevirtual 126, (172, 1, 11, 236)) := by decide +kernel
theorem s_X11_legs_10 {ca : Nat → List Value → tM → tO} {M : tM} {L : tL} {v1 : Value} {b : Nat} : rn ca C_X11_legs 10 L [v1, .ref b] M = if clsO b = some 11 then rnk ca C_X11_legs 13 L [] (ca m_X11_rowIn [.ref b, v1] M) else none := (rn_at k_X11_legs_10).trans rnx_ite
theorem k_X11_legs_13 : lk 13 C_X11_legs = some (.goto 39, (52, 0, 0, 0)) := by decide +kernel
theorem s_X11_legs_13 {ca : Nat → List Value → tM → tO} {M : tM} {L : tL} {S : List Value} : rn ca C_X11_legs 13 L S M = rn ca C_X11_legs 52 L S M := (rn_at k_X11_legs_13).trans rfl
theorem k_X11_legs_16 : lk 16 C_X11_legs = some (.iload_n 2, (0, 0, 0, 0)) := by decide +kernel
theorem s_X11_legs_16 {ca : Nat → List Value → tM → tO} {M : tM} {a0 a1 : Option Value} {x : Int32} {S : List Value} : rn ca C_X11_legs 16 [a0, a1, some (.int x)] S M = rn ca C_X11_legs 17 [a0, a1, some (.int x)] (.int x :: S) M := (rn_at k_X11_legs_16).trans rfl
theorem k_X11_legs_17 : lk 17 C_X11_legs = some (.ifCond .ge 8, (25, 0, 0, 0)) := by decide +kernel
theorem s_X11_legs_17 {ca : Nat → List Value → tM → tO} {M : tM} {L : tL} {x : Int32} {S : List Value} : rn ca C_X11_legs 17 L (.int x :: S) M = if iI 0 ≤ x then rn ca C_X11_legs 25 L S M else rn ca C_X11_legs 20 L S M := (rn_at k_X11_legs_17).trans rnx_ite
theorem k_X11_legs_20 : lk 20 C_X11_legs = some (.bipush (-4), (0, 0, 0, 0)) := by decide +kernel
theorem s_X11_legs_20 {ca : Nat → List Value → tM → tO} {M : tM} {L : tL} {S : List Value} : rn ca C_X11_legs 20 L S M = rn ca C_X11_legs 22 L (.int (iI (-4)) :: S) M := (rn_at k_X11_legs_20).trans rfl
theorem k_X11_legs_22 : lk 22 C_X11_legs = some (.goto 30, (52, 0, 0, 0)) := by decide +kernel
theorem s_X11_legs_22 {ca : Nat → List Value → tM → tO} {M : tM} {L : tL} {S : List Value} : rn ca C_X11_legs 22 L S M = rn ca C_X11_legs 52 L S M := (rn_at k_X11_legs_22).trans rfl
theorem k_X11_legs_25 : lk 25 C_X11_legs = some (.iload_n 2, (0, 0, 0, 0)) := by decide +kernel
theorem s_X11_legs_25 {ca : Nat → List Value → tM → tO} {M : tM} {a0 a1 : Option Value} {x : Int32} {S : List Value} : rn ca C_X11_legs 25 [a0, a1, some (.int x)] S M = rn ca C_X11_legs 26 [a0, a1, some (.int x)] (.int x :: S) M := (rn_at k_X11_legs_25).trans rfl
theorem k_X11_legs_26 : lk 26 C_X11_legs = some (.aload_n 0, (0, 0, 0, 0)) := by decide +kernel
theorem s_X11_legs_26 {ca : Nat → List Value → tM → tO} {M : tM} {a1 a2 : Option Value} {x : Nat} {S : List Value} : rn ca C_X11_legs 26 [some (.ref x), a1, a2] S M = rn ca C_X11_legs 27 [some (.ref x), a1, a2] (.ref x :: S) M := (rn_at k_X11_legs_26).trans rfl
theorem k_X11_legs_27 : lk 27 C_X11_legs = some (.getfield 29, (11, 6, 0, 151)) := by decide +kernel
theorem s_X11_legs_27 {ca : Nat → List Value → tM → tO} {M : tM} {L : tL} {b : Nat} {S : List Value} : rn ca C_X11_legs 27 L (.ref b :: S) M = if clsO b = some 11 then rn ca C_X11_legs 30 L (fv M b 6 :: S) M else none := (rn_at k_X11_legs_27).trans rnx_ite
theorem k_X11_legs_30 : lk 30 C_X11_legs = some (.iload_n 1, (0, 0, 0, 0)) := by decide +kernel
theorem s_X11_legs_30 {ca : Nat → List Value → tM → tO} {M : tM} {a0 a2 : Option Value} {x : Int32} {S : List Value} : rn ca C_X11_legs 30 [a0, some (.int x), a2] S M = rn ca C_X11_legs 31 [a0, some (.int x), a2] (.int x :: S) M := (rn_at k_X11_legs_30).trans rfl
theorem k_X11_legs_31 : lk 31 C_X11_legs = some (.iaload, (0, 0, 0, 0)) := by decide +kernel
theorem s_X11_legs_31 {ca : Nat → List Value → tM → tO} {M : tM} {L : tL} {a : Nat} {i : Int32} {S : List Value} : rn ca C_X11_legs 31 L (.int i :: .ref a :: S) M = if (akind a = 0 ∨ akind a = 6 ∨ akind a = 7) ∧ inb i (alen M a) then rn ca C_X11_legs 32 L (.int (M.1 a i.toInt.toNat) :: S) M else none := (rn_at k_X11_legs_31).trans rnx_ite
theorem k_X11_legs_32 : lk 32 C_X11_legs = some (.if_icmp .le 8, (40, 0, 0, 0)) := by decide +kernel
theorem s_X11_legs_32 {ca : Nat → List Value → tM → tO} {M : tM} {L : tL} {x y : Int32} {S : List Value} : rn ca C_X11_legs 32 L (.int y :: .int x :: S) M = if x ≤ y then rn ca C_X11_legs 40 L S M else rn ca C_X11_legs 35 L S M := (rn_at k_X11_legs_32).trans rnx_ite
theorem k_X11_legs_35 : lk 35 C_X11_legs = some (.bipush (-5), (0, 0, 0, 0)) := by decide +kernel
theorem s_X11_legs_35 {ca : Nat → List Value → tM → tO} {M : tM} {L : tL} {S : List Value} : rn ca C_X11_legs 35 L S M = rn ca C_X11_legs 37 L (.int (iI (-5)) :: S) M := (rn_at k_X11_legs_35).trans rfl
theorem k_X11_legs_37 : lk 37 C_X11_legs = some (.goto 15, (52, 0, 0, 0)) := by decide +kernel
theorem s_X11_legs_37 {ca : Nat → List Value → tM → tO} {M : tM} {L : tL} {S : List Value} : rn ca C_X11_legs 37 L S M = rn ca C_X11_legs 52 L S M := (rn_at k_X11_legs_37).trans rfl
theorem k_X11_legs_40 : lk 40 C_X11_legs = some (.iload_n 2, (0, 0, 0, 0)) := by decide +kernel
theorem s_X11_legs_40 {ca : Nat → List Value → tM → tO} {M : tM} {a0 a1 : Option Value} {x : Int32} {S : List Value} : rn ca C_X11_legs 40 [a0, a1, some (.int x)] S M = rn ca C_X11_legs 41 [a0, a1, some (.int x)] (.int x :: S) M := (rn_at k_X11_legs_40).trans rfl
theorem k_X11_legs_41 : lk 41 C_X11_legs = some (.bipush 40, (0, 0, 0, 0)) := by decide +kernel
theorem s_X11_legs_41 {ca : Nat → List Value → tM → tO} {M : tM} {L : tL} {S : List Value} : rn ca C_X11_legs 41 L S M = rn ca C_X11_legs 43 L (.int (iI 40) :: S) M := (rn_at k_X11_legs_41).trans rfl
theorem k_X11_legs_43 : lk 43 C_X11_legs = some (.if_icmp .le 8, (51, 0, 0, 0)) := by decide +kernel
theorem s_X11_legs_43 {ca : Nat → List Value → tM → tO} {M : tM} {L : tL} {x y : Int32} {S : List Value} : rn ca C_X11_legs 43 L (.int y :: .int x :: S) M = if x ≤ y then rn ca C_X11_legs 51 L S M else rn ca C_X11_legs 46 L S M := (rn_at k_X11_legs_43).trans rnx_ite
theorem k_X11_legs_46 : lk 46 C_X11_legs = some (.bipush (-6), (0, 0, 0, 0)) := by decide +kernel
theorem s_X11_legs_46 {ca : Nat → List Value → tM → tO} {M : tM} {L : tL} {S : List Value} : rn ca C_X11_legs 46 L S M = rn ca C_X11_legs 48 L (.int (iI (-6)) :: S) M := (rn_at k_X11_legs_46).trans rfl
theorem k_X11_legs_48 : lk 48 C_X11_legs = some (.goto 4, (52, 0, 0, 0)) := by decide +kernel
theorem s_X11_legs_48 {ca : Nat → List Value → tM → tO} {M : tM} {L : tL} {S : List Value} : rn ca C_X11_legs 48 L S M = rn ca C_X11_legs 52 L S M := (rn_at k_X11_legs_48).trans rfl
theorem k_X11_legs_51 : lk 51 C_X11_legs = some (.iconst 1, (0, 0, 0, 0)) := by decide +kernel
theorem s_X11_legs_51 {ca : Nat → List Value → tM → tO} {M : tM} {L : tL} {S : List Value} : rn ca C_X11_legs 51 L S M = rn ca C_X11_legs 52 L (.int (iI 1) :: S) M := (rn_at k_X11_legs_51).trans rfl
theorem k_X11_legs_52 : lk 52 C_X11_legs = some (.ireturn, (0, 0, 0, 0)) := by decide +kernel
theorem s_X11_legs_52 {ca : Nat → List Value → tM → tO} {M : tM} {L : tL} {x : Int32} : rn ca C_X11_legs 52 L [.int x] M = some (some (.int x), M) := (rn_at k_X11_legs_52).trans rfl
theorem k_X11_leg_0 : lk 0 C_X11_leg = some (.aload_n 0, (0, 0, 0, 0)) := by decide +kernel
theorem s_X11_leg_0 {ca : Nat → List Value → tM → tO} {M : tM} {a1 a2 a3 a4 : Option Value} {x : Nat} {S : List Value} : rn ca C_X11_leg 0 [some (.ref x), a1, a2, a3, a4] S M = rn ca C_X11_leg 1 [some (.ref x), a1, a2, a3, a4] (.ref x :: S) M := (rn_at k_X11_leg_0).trans rfl
theorem k_X11_leg_1 : lk 1 C_X11_leg = some (.iload_n 1, (0, 0, 0, 0)) := by decide +kernel
theorem s_X11_leg_1 {ca : Nat → List Value → tM → tO} {M : tM} {a0 a2 a3 a4 : Option Value} {x : Int32} {S : List Value} : rn ca C_X11_leg 1 [a0, some (.int x), a2, a3, a4] S M = rn ca C_X11_leg 2 [a0, some (.int x), a2, a3, a4] (.int x :: S) M := (rn_at k_X11_leg_1).trans rfl
theorem k_X11_leg_2 : lk 2 C_X11_leg = some (.iconst 0, (0, 0, 0, 0)) := by decide +kernel
theorem s_X11_leg_2 {ca : Nat → List Value → tM → tO} {M : tM} {L : tL} {S : List Value} : rn ca C_X11_leg 2 L S M = rn ca C_X11_leg 3 L (.int (iI 0) :: S) M := (rn_at k_X11_leg_2).trans rfl
theorem k_X11_leg_3 : lk 3 C_X11_leg = some (.invokevirtual 238, (195, 2, 11, 753)) := by decide +kernel
theorem s_X11_leg_3 {ca : Nat → List Value → tM → tO} {M : tM} {L : tL} {v1 v2 : Value} {b : Nat} : rn ca C_X11_leg 3 L [v2, v1, .ref b] M = if clsO b = some 11 then rnk ca C_X11_leg 6 L [] (ca m_X11_fill [.ref b, v1, v2] M) else none := (rn_at k_X11_leg_3).trans rnx_ite
theorem k_X11_leg_6 : lk 6 C_X11_leg = some (.aload_n 0, (0, 0, 0, 0)) := by decide +kernel
theorem s_X11_leg_6 {ca : Nat → List Value → tM → tO} {M : tM} {a1 a2 a3 a4 : Option Value} {x : Nat} {S : List Value} : rn ca C_X11_leg 6 [some (.ref x), a1, a2, a3, a4] S M = rn ca C_X11_leg 7 [some (.ref x), a1, a2, a3, a4] (.ref x :: S) M := (rn_at k_X11_leg_6).trans rfl
theorem k_X11_leg_7 : lk 7 C_X11_leg = some (.iload_n 1, (0, 0, 0, 0)) := by decide +kernel
theorem s_X11_leg_7 {ca : Nat → List Value → tM → tO} {M : tM} {a0 a2 a3 a4 : Option Value} {x : Int32} {S : List Value} : rn ca C_X11_leg 7 [a0, some (.int x), a2, a3, a4] S M = rn ca C_X11_leg 8 [a0, some (.int x), a2, a3, a4] (.int x :: S) M := (rn_at k_X11_leg_7).trans rfl
theorem k_X11_leg_8 : lk 8 C_X11_leg = some (.iload_n 2, (0, 0, 0, 0)) := by decide +kernel
theorem s_X11_leg_8 {ca : Nat → List Value → tM → tO} {M : tM} {a0 a1 a3 a4 : Option Value} {x : Int32} {S : List Value} : rn ca C_X11_leg 8 [a0, a1, some (.int x), a3, a4] S M = rn ca C_X11_leg 9 [a0, a1, some (.int x), a3, a4] (.int x :: S) M := (rn_at k_X11_leg_8).trans rfl
theorem k_X11_leg_9 : lk 9 C_X11_leg = some (.invokevirtual 230, (196, 2, 11, 790)) := by decide +kernel
theorem s_X11_leg_9 {ca : Nat → List Value → tM → tO} {M : tM} {L : tL} {v1 v2 : Value} {b : Nat} : rn ca C_X11_leg 9 L [v2, v1, .ref b] M = if clsO b = some 11 then rnk ca C_X11_leg 12 L [] (ca m_X11_way [.ref b, v1, v2] M) else none := (rn_at k_X11_leg_9).trans rnx_ite
theorem k_X11_leg_12 : lk 12 C_X11_leg = some (.istore 4, (0, 0, 0, 0)) := by decide +kernel
theorem s_X11_leg_12 {ca : Nat → List Value → tM → tO} {M : tM} {a0 a1 a2 a3 a4 : Option Value} {x : Int32} {S : List Value} : rn ca C_X11_leg 12 [a0, a1, a2, a3, a4] (.int x :: S) M = rn ca C_X11_leg 14 [a0, a1, a2, a3, some (.int x)] S M := (rn_at k_X11_leg_12).trans rfl
theorem k_X11_leg_14 : lk 14 C_X11_leg = some (.iload 4, (0, 0, 0, 0)) := by decide +kernel
theorem s_X11_leg_14 {ca : Nat → List Value → tM → tO} {M : tM} {a0 a1 a2 a3 : Option Value} {x : Int32} {S : List Value} : rn ca C_X11_leg 14 [a0, a1, a2, a3, some (.int x)] S M = rn ca C_X11_leg 16 [a0, a1, a2, a3, some (.int x)] (.int x :: S) M := (rn_at k_X11_leg_14).trans rfl
theorem k_X11_leg_16 : lk 16 C_X11_leg = some (.sipush 9999, (0, 0, 0, 0)) := by decide +kernel
theorem s_X11_leg_16 {ca : Nat → List Value → tM → tO} {M : tM} {L : tL} {S : List Value} : rn ca C_X11_leg 16 L S M = rn ca C_X11_leg 19 L (.int (iI 9999) :: S) M := (rn_at k_X11_leg_16).trans rfl
theorem k_X11_leg_19 : lk 19 C_X11_leg = some (.if_icmp .lt 5, (24, 0, 0, 0)) := by decide +kernel
theorem s_X11_leg_19 {ca : Nat → List Value → tM → tO} {M : tM} {L : tL} {x y : Int32} {S : List Value} : rn ca C_X11_leg 19 L (.int y :: .int x :: S) M = if x < y then rn ca C_X11_leg 24 L S M else rn ca C_X11_leg 22 L S M := (rn_at k_X11_leg_19).trans rnx_ite
theorem k_X11_leg_22 : lk 22 C_X11_leg = some (.iconst (-1), (0, 0, 0, 0)) := by decide +kernel
theorem s_X11_leg_22 {ca : Nat → List Value → tM → tO} {M : tM} {L : tL} {S : List Value} : rn ca C_X11_leg 22 L S M = rn ca C_X11_leg 23 L (.int (iI (-1)) :: S) M := (rn_at k_X11_leg_22).trans rfl
theorem k_X11_leg_23 : lk 23 C_X11_leg = some (.ireturn, (0, 0, 0, 0)) := by decide +kernel
theorem s_X11_leg_23 {ca : Nat → List Value → tM → tO} {M : tM} {L : tL} {x : Int32} : rn ca C_X11_leg 23 L [.int x] M = some (some (.int x), M) := (rn_at k_X11_leg_23).trans rfl
theorem k_X11_leg_24 : lk 24 C_X11_leg = some (.aload_n 0, (0, 0, 0, 0)) := by decide +kernel
theorem s_X11_leg_24 {ca : Nat → List Value → tM → tO} {M : tM} {a1 a2 a3 a4 : Option Value} {x : Nat} {S : List Value} : rn ca C_X11_leg 24 [some (.ref x), a1, a2, a3, a4] S M = rn ca C_X11_leg 25 [some (.ref x), a1, a2, a3, a4] (.ref x :: S) M := (rn_at k_X11_leg_24).trans rfl
theorem k_X11_leg_25 : lk 25 C_X11_leg = some (.getfield 17, (11, 1, 0, 147)) := by decide +kernel
theorem s_X11_leg_25 {ca : Nat → List Value → tM → tO} {M : tM} {L : tL} {b : Nat} {S : List Value} : rn ca C_X11_leg 25 L (.ref b :: S) M = if clsO b = some 11 then rn ca C_X11_leg 28 L (fv M b 1 :: S) M else none := (rn_at k_X11_leg_25).trans rnx_ite
theorem k_X11_leg_28 : lk 28 C_X11_leg = some (.bipush 88, (0, 0, 0, 0)) := by decide +kernel
theorem s_X11_leg_28 {ca : Nat → List Value → tM → tO} {M : tM} {L : tL} {S : List Value} : rn ca C_X11_leg 28 L S M = rn ca C_X11_leg 30 L (.int (iI 88) :: S) M := (rn_at k_X11_leg_28).trans rfl
theorem k_X11_leg_30 : lk 30 C_X11_leg = some (.iconst 4, (0, 0, 0, 0)) := by decide +kernel
theorem s_X11_leg_30 {ca : Nat → List Value → tM → tO} {M : tM} {L : tL} {S : List Value} : rn ca C_X11_leg 30 L S M = rn ca C_X11_leg 31 L (.int (iI 4) :: S) M := (rn_at k_X11_leg_30).trans rfl
theorem k_X11_leg_31 : lk 31 C_X11_leg = some (.iload_n 1, (0, 0, 0, 0)) := by decide +kernel
theorem s_X11_leg_31 {ca : Nat → List Value → tM → tO} {M : tM} {a0 a2 a3 a4 : Option Value} {x : Int32} {S : List Value} : rn ca C_X11_leg 31 [a0, some (.int x), a2, a3, a4] S M = rn ca C_X11_leg 32 [a0, some (.int x), a2, a3, a4] (.int x :: S) M := (rn_at k_X11_leg_31).trans rfl
theorem k_X11_leg_32 : lk 32 C_X11_leg = some (.imul, (0, 0, 0, 0)) := by decide +kernel
theorem s_X11_leg_32 {ca : Nat → List Value → tM → tO} {M : tM} {L : tL} {x y : Int32} {S : List Value} : rn ca C_X11_leg 32 L (.int y :: .int x :: S) M = rn ca C_X11_leg 33 L (.int (x * y) :: S) M := (rn_at k_X11_leg_32).trans rfl
theorem k_X11_leg_33 : lk 33 C_X11_leg = some (.iadd, (0, 0, 0, 0)) := by decide +kernel
theorem s_X11_leg_33 {ca : Nat → List Value → tM → tO} {M : tM} {L : tL} {x y : Int32} {S : List Value} : rn ca C_X11_leg 33 L (.int y :: .int x :: S) M = rn ca C_X11_leg 34 L (.int (x + y) :: S) M := (rn_at k_X11_leg_33).trans rfl
theorem k_X11_leg_34 : lk 34 C_X11_leg = some (.iconst 3, (0, 0, 0, 0)) := by decide +kernel
theorem s_X11_leg_34 {ca : Nat → List Value → tM → tO} {M : tM} {L : tL} {S : List Value} : rn ca C_X11_leg 34 L S M = rn ca C_X11_leg 35 L (.int (iI 3) :: S) M := (rn_at k_X11_leg_34).trans rfl
theorem k_X11_leg_35 : lk 35 C_X11_leg = some (.iadd, (0, 0, 0, 0)) := by decide +kernel
theorem s_X11_leg_35 {ca : Nat → List Value → tM → tO} {M : tM} {L : tL} {x y : Int32} {S : List Value} : rn ca C_X11_leg 35 L (.int y :: .int x :: S) M = rn ca C_X11_leg 36 L (.int (x + y) :: S) M := (rn_at k_X11_leg_35).trans rfl
theorem k_X11_leg_36 : lk 36 C_X11_leg = some (.iload_n 2, (0, 0, 0, 0)) := by decide +kernel
theorem s_X11_leg_36 {ca : Nat → List Value → tM → tO} {M : tM} {a0 a1 a3 a4 : Option Value} {x : Int32} {S : List Value} : rn ca C_X11_leg 36 [a0, a1, some (.int x), a3, a4] S M = rn ca C_X11_leg 37 [a0, a1, some (.int x), a3, a4] (.int x :: S) M := (rn_at k_X11_leg_36).trans rfl
theorem k_X11_leg_37 : lk 37 C_X11_leg = some (.iastore, (0, 0, 0, 0)) := by decide +kernel
theorem s_X11_leg_37 {ca : Nat → List Value → tM → tO} {M : tM} {L : tL} {a : Nat} {i x : Int32} {S : List Value} : rn ca C_X11_leg 37 L (.int x :: .int i :: .ref a :: S) M = if akind a = 0 ∧ inb i (alen M a) then rn ca C_X11_leg 38 L S (sI M a i.toInt.toNat x) else none := (rn_at k_X11_leg_37).trans rnx_ite
theorem k_X11_leg_38 : lk 38 C_X11_leg = some (.aload_n 0, (0, 0, 0, 0)) := by decide +kernel
theorem s_X11_leg_38 {ca : Nat → List Value → tM → tO} {M : tM} {a1 a2 a3 a4 : Option Value} {x : Nat} {S : List Value} : rn ca C_X11_leg 38 [some (.ref x), a1, a2, a3, a4] S M = rn ca C_X11_leg 39 [some (.ref x), a1, a2, a3, a4] (.ref x :: S) M := (rn_at k_X11_leg_38).trans rfl
theorem k_X11_leg_39 : lk 39 C_X11_leg = some (.getfield 17, (11, 1, 0, 147)) := by decide +kernel
theorem s_X11_leg_39 {ca : Nat → List Value → tM → tO} {M : tM} {L : tL} {b : Nat} {S : List Value} : rn ca C_X11_leg 39 L (.ref b :: S) M = if clsO b = some 11 then rn ca C_X11_leg 42 L (fv M b 1 :: S) M else none := (rn_at k_X11_leg_39).trans rnx_ite
theorem k_X11_leg_42 : lk 42 C_X11_leg = some (.bipush 112, (0, 0, 0, 0)) := by decide +kernel
theorem s_X11_leg_42 {ca : Nat → List Value → tM → tO} {M : tM} {L : tL} {S : List Value} : rn ca C_X11_leg 42 L S M = rn ca C_X11_leg 44 L (.int (iI 112) :: S) M := (rn_at k_X11_leg_42).trans rfl
theorem k_X11_leg_44 : lk 44 C_X11_leg = some (.dup2, (0, 0, 0, 0)) := by decide +kernel
theorem s_X11_leg_44 {ca : Nat → List Value → tM → tO} {M : tM} {L : tL} {x : Nat} {y : Int32} {S : List Value} : rn ca C_X11_leg 44 L (.int y :: .ref x :: S) M = rn ca C_X11_leg 45 L (.int y :: .ref x :: .int y :: .ref x :: S) M := (rn_at k_X11_leg_44).trans rfl
theorem k_X11_leg_45 : lk 45 C_X11_leg = some (.iaload, (0, 0, 0, 0)) := by decide +kernel
theorem s_X11_leg_45 {ca : Nat → List Value → tM → tO} {M : tM} {L : tL} {a : Nat} {i : Int32} {S : List Value} : rn ca C_X11_leg 45 L (.int i :: .ref a :: S) M = if (akind a = 0 ∨ akind a = 6 ∨ akind a = 7) ∧ inb i (alen M a) then rn ca C_X11_leg 46 L (.int (M.1 a i.toInt.toNat) :: S) M else none := (rn_at k_X11_leg_45).trans rnx_ite
theorem k_X11_leg_46 : lk 46 C_X11_leg = some (.iload 4, (0, 0, 0, 0)) := by decide +kernel
theorem s_X11_leg_46 {ca : Nat → List Value → tM → tO} {M : tM} {a0 a1 a2 a3 : Option Value} {x : Int32} {S : List Value} : rn ca C_X11_leg 46 [a0, a1, a2, a3, some (.int x)] S M = rn ca C_X11_leg 48 [a0, a1, a2, a3, some (.int x)] (.int x :: S) M := (rn_at k_X11_leg_46).trans rfl
theorem k_X11_leg_48 : lk 48 C_X11_leg = some (.iadd, (0, 0, 0, 0)) := by decide +kernel
theorem s_X11_leg_48 {ca : Nat → List Value → tM → tO} {M : tM} {L : tL} {x y : Int32} {S : List Value} : rn ca C_X11_leg 48 L (.int y :: .int x :: S) M = rn ca C_X11_leg 49 L (.int (x + y) :: S) M := (rn_at k_X11_leg_48).trans rfl
theorem k_X11_leg_49 : lk 49 C_X11_leg = some (.iastore, (0, 0, 0, 0)) := by decide +kernel
theorem s_X11_leg_49 {ca : Nat → List Value → tM → tO} {M : tM} {L : tL} {a : Nat} {i x : Int32} {S : List Value} : rn ca C_X11_leg 49 L (.int x :: .int i :: .ref a :: S) M = if akind a = 0 ∧ inb i (alen M a) then rn ca C_X11_leg 50 L S (sI M a i.toInt.toNat x) else none := (rn_at k_X11_leg_49).trans rnx_ite
theorem k_X11_leg_50 : lk 50 C_X11_leg = some (.aload_n 0, (0, 0, 0, 0)) := by decide +kernel
theorem s_X11_leg_50 {ca : Nat → List Value → tM → tO} {M : tM} {a1 a2 a3 a4 : Option Value} {x : Nat} {S : List Value} : rn ca C_X11_leg 50 [some (.ref x), a1, a2, a3, a4] S M = rn ca C_X11_leg 51 [some (.ref x), a1, a2, a3, a4] (.ref x :: S) M := (rn_at k_X11_leg_50).trans rfl
theorem k_X11_leg_51 : lk 51 C_X11_leg = some (.dup, (0, 0, 0, 0)) := by decide +kernel
theorem s_X11_leg_51 {ca : Nat → List Value → tM → tO} {M : tM} {L : tL} {x : Nat} {S : List Value} : rn ca C_X11_leg 51 L (.ref x :: S) M = rn ca C_X11_leg 52 L (.ref x :: .ref x :: S) M := (rn_at k_X11_leg_51).trans rfl
theorem s_X11_leg_51b {ca : Nat → List Value → tM → tO} {M : tM} {L : tL} {x : Int32} {S : List Value} : rn ca C_X11_leg 51 L (.int x :: S) M = rn ca C_X11_leg 52 L (.int x :: .int x :: S) M := (rn_at k_X11_leg_51).trans rfl
theorem k_X11_leg_52 : lk 52 C_X11_leg = some (.getfield 290, (11, 19, 0, 1093)) := by decide +kernel
theorem s_X11_leg_52 {ca : Nat → List Value → tM → tO} {M : tM} {L : tL} {b : Nat} {S : List Value} : rn ca C_X11_leg 52 L (.ref b :: S) M = if clsO b = some 11 then rn ca C_X11_leg 55 L (fv M b 19 :: S) M else none := (rn_at k_X11_leg_52).trans rnx_ite
theorem k_X11_leg_55 : lk 55 C_X11_leg = some (.iload 4, (0, 0, 0, 0)) := by decide +kernel
theorem s_X11_leg_55 {ca : Nat → List Value → tM → tO} {M : tM} {a0 a1 a2 a3 : Option Value} {x : Int32} {S : List Value} : rn ca C_X11_leg 55 [a0, a1, a2, a3, some (.int x)] S M = rn ca C_X11_leg 57 [a0, a1, a2, a3, some (.int x)] (.int x :: S) M := (rn_at k_X11_leg_55).trans rfl
theorem k_X11_leg_57 : lk 57 C_X11_leg = some (.iadd, (0, 0, 0, 0)) := by decide +kernel
theorem s_X11_leg_57 {ca : Nat → List Value → tM → tO} {M : tM} {L : tL} {x y : Int32} {S : List Value} : rn ca C_X11_leg 57 L (.int y :: .int x :: S) M = rn ca C_X11_leg 58 L (.int (x + y) :: S) M := (rn_at k_X11_leg_57).trans rfl
theorem k_X11_leg_58 : lk 58 C_X11_leg = some (.putfield 290, (11, 19, 0, 1093)) := by decide +kernel
theorem s_X11_leg_58 {ca : Nat → List Value → tM → tO} {M : tM} {L : tL} {b : Nat} {v : Int32} {S : List Value} : rn ca C_X11_leg 58 L (.int v :: .ref b :: S) M = if clsO b = some 11 then rn ca C_X11_leg 61 L S (sI M b 19 v) else none := (rn_at k_X11_leg_58).trans rnx_ite
theorem k_X11_leg_61 : lk 61 C_X11_leg = some (.iload_n 3, (0, 0, 0, 0)) := by decide +kernel
theorem s_X11_leg_61 {ca : Nat → List Value → tM → tO} {M : tM} {a0 a1 a2 a4 : Option Value} {x : Int32} {S : List Value} : rn ca C_X11_leg 61 [a0, a1, a2, some (.int x), a4] S M = rn ca C_X11_leg 62 [a0, a1, a2, some (.int x), a4] (.int x :: S) M := (rn_at k_X11_leg_61).trans rfl
theorem k_X11_leg_62 : lk 62 C_X11_leg = some (.ifCond .eq 39, (101, 0, 0, 0)) := by decide +kernel
theorem s_X11_leg_62 {ca : Nat → List Value → tM → tO} {M : tM} {L : tL} {x : Int32} {S : List Value} : rn ca C_X11_leg 62 L (.int x :: S) M = if x = iI 0 then rn ca C_X11_leg 101 L S M else rn ca C_X11_leg 65 L S M := (rn_at k_X11_leg_62).trans rnx_ite
theorem k_X11_leg_65 : lk 65 C_X11_leg = some (.aload_n 0, (0, 0, 0, 0)) := by decide +kernel
theorem s_X11_leg_65 {ca : Nat → List Value → tM → tO} {M : tM} {a1 a2 a3 a4 : Option Value} {x : Nat} {S : List Value} : rn ca C_X11_leg 65 [some (.ref x), a1, a2, a3, a4] S M = rn ca C_X11_leg 66 [some (.ref x), a1, a2, a3, a4] (.ref x :: S) M := (rn_at k_X11_leg_65).trans rfl
theorem k_X11_leg_66 : lk 66 C_X11_leg = some (.dup, (0, 0, 0, 0)) := by decide +kernel
theorem s_X11_leg_66 {ca : Nat → List Value → tM → tO} {M : tM} {L : tL} {x : Nat} {S : List Value} : rn ca C_X11_leg 66 L (.ref x :: S) M = rn ca C_X11_leg 67 L (.ref x :: .ref x :: S) M := (rn_at k_X11_leg_66).trans rfl
theorem s_X11_leg_66b {ca : Nat → List Value → tM → tO} {M : tM} {L : tL} {x : Int32} {S : List Value} : rn ca C_X11_leg 66 L (.int x :: S) M = rn ca C_X11_leg 67 L (.int x :: .int x :: S) M := (rn_at k_X11_leg_66).trans rfl
theorem k_X11_leg_67 : lk 67 C_X11_leg = some (.getfield 293, (11, 20, 0, 1094)) := by decide +kernel
theorem s_X11_leg_67 {ca : Nat → List Value → tM → tO} {M : tM} {L : tL} {b : Nat} {S : List Value} : rn ca C_X11_leg 67 L (.ref b :: S) M = if clsO b = some 11 then rn ca C_X11_leg 70 L (fv M b 20 :: S) M else none := (rn_at k_X11_leg_67).trans rnx_ite
theorem k_X11_leg_70 : lk 70 C_X11_leg = some (.iconst 1, (0, 0, 0, 0)) := by decide +kernel
theorem s_X11_leg_70 {ca : Nat → List Value → tM → tO} {M : tM} {L : tL} {S : List Value} : rn ca C_X11_leg 70 L S M = rn ca C_X11_leg 71 L (.int (iI 1) :: S) M := (rn_at k_X11_leg_70).trans rfl
theorem k_X11_leg_71 : lk 71 C_X11_leg = some (.iadd, (0, 0, 0, 0)) := by decide +kernel
theorem s_X11_leg_71 {ca : Nat → List Value → tM → tO} {M : tM} {L : tL} {x y : Int32} {S : List Value} : rn ca C_X11_leg 71 L (.int y :: .int x :: S) M = rn ca C_X11_leg 72 L (.int (x + y) :: S) M := (rn_at k_X11_leg_71).trans rfl
theorem k_X11_leg_72 : lk 72 C_X11_leg = some (.putfield 293, (11, 20, 0, 1094)) := by decide +kernel
theorem s_X11_leg_72 {ca : Nat → List Value → tM → tO} {M : tM} {L : tL} {b : Nat} {v : Int32} {S : List Value} : rn ca C_X11_leg 72 L (.int v :: .ref b :: S) M = if clsO b = some 11 then rn ca C_X11_leg 75 L S (sI M b 20 v) else none := (rn_at k_X11_leg_72).trans rnx_ite
theorem k_X11_leg_75 : lk 75 C_X11_leg = some (.aload_n 0, (0, 0, 0, 0)) := by decide +kernel
theorem s_X11_leg_75 {ca : Nat → List Value → tM → tO} {M : tM} {a1 a2 a3 a4 : Option Value} {x : Nat} {S : List Value} : rn ca C_X11_leg 75 [some (.ref x), a1, a2, a3, a4] S M = rn ca C_X11_leg 76 [some (.ref x), a1, a2, a3, a4] (.ref x :: S) M := (rn_at k_X11_leg_75).trans rfl
theorem k_X11_leg_76 : lk 76 C_X11_leg = some (.getfield 17, (11, 1, 0, 147)) := by decide +kernel
theorem s_X11_leg_76 {ca : Nat → List Value → tM → tO} {M : tM} {L : tL} {b : Nat} {S : List Value} : rn ca C_X11_leg 76 L (.ref b :: S) M = if clsO b = some 11 then rn ca C_X11_leg 79 L (fv M b 1 :: S) M else none := (rn_at k_X11_leg_76).trans rnx_ite
theorem k_X11_leg_79 : lk 79 C_X11_leg = some (.bipush 80, (0, 0, 0, 0)) := by decide +kernel
theorem s_X11_leg_79 {ca : Nat → List Value → tM → tO} {M : tM} {L : tL} {S : List Value} : rn ca C_X11_leg 79 L S M = rn ca C_X11_leg 81 L (.int (iI 80) :: S) M := (rn_at k_X11_leg_79).trans rfl
theorem k_X11_leg_81 : lk 81 C_X11_leg = some (.iload_n 2, (0, 0, 0, 0)) := by decide +kernel
theorem s_X11_leg_81 {ca : Nat → List Value → tM → tO} {M : tM} {a0 a1 a3 a4 : Option Value} {x : Int32} {S : List Value} : rn ca C_X11_leg 81 [a0, a1, some (.int x), a3, a4] S M = rn ca C_X11_leg 82 [a0, a1, some (.int x), a3, a4] (.int x :: S) M := (rn_at k_X11_leg_81).trans rfl
theorem k_X11_leg_82 : lk 82 C_X11_leg = some (.iadd, (0, 0, 0, 0)) := by decide +kernel
theorem s_X11_leg_82 {ca : Nat → List Value → tM → tO} {M : tM} {L : tL} {x y : Int32} {S : List Value} : rn ca C_X11_leg 82 L (.int y :: .int x :: S) M = rn ca C_X11_leg 83 L (.int (x + y) :: S) M := (rn_at k_X11_leg_82).trans rfl
theorem k_X11_leg_83 : lk 83 C_X11_leg = some (.sipush 999, (0, 0, 0, 0)) := by decide +kernel
theorem s_X11_leg_83 {ca : Nat → List Value → tM → tO} {M : tM} {L : tL} {S : List Value} : rn ca C_X11_leg 83 L S M = rn ca C_X11_leg 86 L (.int (iI 999) :: S) M := (rn_at k_X11_leg_83).trans rfl
theorem k_X11_leg_86 : lk 86 C_X11_leg = some (.aload_n 0, (0, 0, 0, 0)) := by decide +kernel
theorem s_X11_leg_86 {ca : Nat → List Value → tM → tO} {M : tM} {a1 a2 a3 a4 : Option Value} {x : Nat} {S : List Value} : rn ca C_X11_leg 86 [some (.ref x), a1, a2, a3, a4] S M = rn ca C_X11_leg 87 [some (.ref x), a1, a2, a3, a4] (.ref x :: S) M := (rn_at k_X11_leg_86).trans rfl
theorem k_X11_leg_87 : lk 87 C_X11_leg = some (.getfield 17, (11, 1, 0, 147)) := by decide +kernel
theorem s_X11_leg_87 {ca : Nat → List Value → tM → tO} {M : tM} {L : tL} {b : Nat} {S : List Value} : rn ca C_X11_leg 87 L (.ref b :: S) M = if clsO b = some 11 then rn ca C_X11_leg 90 L (fv M b 1 :: S) M else none := (rn_at k_X11_leg_87).trans rnx_ite
theorem k_X11_leg_90 : lk 90 C_X11_leg = some (.bipush 80, (0, 0, 0, 0)) := by decide +kernel
theorem s_X11_leg_90 {ca : Nat → List Value → tM → tO} {M : tM} {L : tL} {S : List Value} : rn ca C_X11_leg 90 L S M = rn ca C_X11_leg 92 L (.int (iI 80) :: S) M := (rn_at k_X11_leg_90).trans rfl
theorem k_X11_leg_92 : lk 92 C_X11_leg = some (.iload_n 2, (0, 0, 0, 0)) := by decide +kernel
theorem s_X11_leg_92 {ca : Nat → List Value → tM → tO} {M : tM} {a0 a1 a3 a4 : Option Value} {x : Int32} {S : List Value} : rn ca C_X11_leg 92 [a0, a1, some (.int x), a3, a4] S M = rn ca C_X11_leg 93 [a0, a1, some (.int x), a3, a4] (.int x :: S) M := (rn_at k_X11_leg_92).trans rfl
theorem k_X11_leg_93 : lk 93 C_X11_leg = some (.iadd, (0, 0, 0, 0)) := by decide +kernel
theorem s_X11_leg_93 {ca : Nat → List Value → tM → tO} {M : tM} {L : tL} {x y : Int32} {S : List Value} : rn ca C_X11_leg 93 L (.int y :: .int x :: S) M = rn ca C_X11_leg 94 L (.int (x + y) :: S) M := (rn_at k_X11_leg_93).trans rfl
theorem k_X11_leg_94 : lk 94 C_X11_leg = some (.iaload, (0, 0, 0, 0)) := by decide +kernel
theorem s_X11_leg_94 {ca : Nat → List Value → tM → tO} {M : tM} {L : tL} {a : Nat} {i : Int32} {S : List Value} : rn ca C_X11_leg 94 L (.int i :: .ref a :: S) M = if (akind a = 0 ∨ akind a = 6 ∨ akind a = 7) ∧ inb i (alen M a) then rn ca C_X11_leg 95 L (.int (M.1 a i.toInt.toNat) :: S) M else none := (rn_at k_X11_leg_94).trans rnx_ite
theorem k_X11_leg_95 : lk 95 C_X11_leg = some (.iconst 1, (0, 0, 0, 0)) := by decide +kernel
theorem s_X11_leg_95 {ca : Nat → List Value → tM → tO} {M : tM} {L : tL} {S : List Value} : rn ca C_X11_leg 95 L S M = rn ca C_X11_leg 96 L (.int (iI 1) :: S) M := (rn_at k_X11_leg_95).trans rfl
theorem k_X11_leg_96 : lk 96 C_X11_leg = some (.iadd, (0, 0, 0, 0)) := by decide +kernel
theorem s_X11_leg_96 {ca : Nat → List Value → tM → tO} {M : tM} {L : tL} {x y : Int32} {S : List Value} : rn ca C_X11_leg 96 L (.int y :: .int x :: S) M = rn ca C_X11_leg 97 L (.int (x + y) :: S) M := (rn_at k_X11_leg_96).trans rfl
theorem k_X11_leg_97 : lk 97 C_X11_leg = some (.invokestatic 207, (0, 2, 3, 781)) := by decide +kernel
theorem s_X11_leg_97 {ca : Nat → List Value → tM → tO} {M : tM} {L : tL} {x y : Int32} {r0 : Int32} {r1 : Nat} : rn ca C_X11_leg 97 L [.int y, .int x, .int r0, .ref r1] M = rn ca C_X11_leg 100 L [.int (mnI x y), .int r0, .ref r1] M := (rn_at k_X11_leg_97).trans rfl
theorem k_X11_leg_100 : lk 100 C_X11_leg = some (.iastore, (0, 0, 0, 0)) := by decide +kernel
theorem s_X11_leg_100 {ca : Nat → List Value → tM → tO} {M : tM} {L : tL} {a : Nat} {i x : Int32} {S : List Value} : rn ca C_X11_leg 100 L (.int x :: .int i :: .ref a :: S) M = if akind a = 0 ∧ inb i (alen M a) then rn ca C_X11_leg 101 L S (sI M a i.toInt.toNat x) else none := (rn_at k_X11_leg_100).trans rnx_ite
theorem k_X11_leg_101 : lk 101 C_X11_leg = some (.iload 4, (0, 0, 0, 0)) := by decide +kernel
theorem s_X11_leg_101 {ca : Nat → List Value → tM → tO} {M : tM} {a0 a1 a2 a3 : Option Value} {x : Int32} {S : List Value} : rn ca C_X11_leg 101 [a0, a1, a2, a3, some (.int x)] S M = rn ca C_X11_leg 103 [a0, a1, a2, a3, some (.int x)] (.int x :: S) M := (rn_at k_X11_leg_101).trans rfl
theorem k_X11_leg_103 : lk 103 C_X11_leg = some (.ireturn, (0, 0, 0, 0)) := by decide +kernel
theorem s_X11_leg_103 {ca : Nat → List Value → tM → tO} {M : tM} {L : tL} {x : Int32} : rn ca C_X11_leg 103 L [.int x] M = some (some (.int x), M) := (rn_at k_X11_leg_103).trans rfl
theorem k_X11_day_0 : lk 0 C_X11_day = some (.aload_n 0, (0, 0, 0, 0)) := by decide +kernel
theorem s_X11_day_0 {ca : Nat → List Value → tM → tO} {M : tM} {a1 a2 a3 a4 a5 : Option Value} {x : Nat} {S : List Value} : rn ca C_X11_day 0 [some (.ref x), a1, a2, a3, a4, a5] S M = rn ca C_X11_day 1 [some (.ref x), a1, a2, a3, a4, a5] (.ref x :: S) M := (rn_at k_X11_day_0).trans rfl
theorem k_X11_day_1 : lk 1 C_X11_day = some (.iconst 0, (0, 0, 0, 0)) := by decide +kernel
theorem s_X11_day_1 {ca : Nat → List Value → tM → tO} {M : tM} {L : tL} {S : List Value} : rn ca C_X11_day 1 L S M = rn ca C_X11_day 2 L (.int (iI 0) :: S) M := (rn_at k_X11_day_1).trans rfl
theorem k_X11_day_2 : lk 2 C_X11_day = some (.putfield 290, (11, 19, 0, 1093)) := by decide +kernel
theorem s_X11_day_2 {ca : Nat → List Value → tM → tO} {M : tM} {L : tL} {b : Nat} {v : Int32} {S : List Value} : rn ca C_X11_day 2 L (.int v :: .ref b :: S) M = if clsO b = some 11 then rn ca C_X11_day 5 L S (sI M b 19 v) else none := (rn_at k_X11_day_2).trans rnx_ite
theorem k_X11_day_5 : lk 5 C_X11_day = some (.aload_n 0, (0, 0, 0, 0)) := by decide +kernel
theorem s_X11_day_5 {ca : Nat → List Value → tM → tO} {M : tM} {a1 a2 a3 a4 a5 : Option Value} {x : Nat} {S : List Value} : rn ca C_X11_day 5 [some (.ref x), a1, a2, a3, a4, a5] S M = rn ca C_X11_day 6 [some (.ref x), a1, a2, a3, a4, a5] (.ref x :: S) M := (rn_at k_X11_day_5).trans rfl
theorem k_X11_day_6 : lk 6 C_X11_day = some (.iconst 0, (0, 0, 0, 0)) := by decide +kernel
theorem s_X11_day_6 {ca : Nat → List Value → tM → tO} {M : tM} {L : tL} {S : List Value} : rn ca C_X11_day 6 L S M = rn ca C_X11_day 7 L (.int (iI 0) :: S) M := (rn_at k_X11_day_6).trans rfl
theorem k_X11_day_7 : lk 7 C_X11_day = some (.putfield 293, (11, 20, 0, 1094)) := by decide +kernel
theorem s_X11_day_7 {ca : Nat → List Value → tM → tO} {M : tM} {L : tL} {b : Nat} {v : Int32} {S : List Value} : rn ca C_X11_day 7 L (.int v :: .ref b :: S) M = if clsO b = some 11 then rn ca C_X11_day 10 L S (sI M b 20 v) else none := (rn_at k_X11_day_7).trans rnx_ite
theorem k_X11_day_10 : lk 10 C_X11_day = some (.iconst 0, (0, 0, 0, 0)) := by decide +kernel
theorem s_X11_day_10 {ca : Nat → List Value → tM → tO} {M : tM} {L : tL} {S : List Value} : rn ca C_X11_day 10 L S M = rn ca C_X11_day 11 L (.int (iI 0) :: S) M := (rn_at k_X11_day_10).trans rfl
theorem k_X11_day_11 : lk 11 C_X11_day = some (.istore_n 3, (0, 0, 0, 0)) := by decide +kernel
theorem s_X11_day_11 {ca : Nat → List Value → tM → tO} {M : tM} {a0 a1 a2 a3 a4 a5 : Option Value} {x : Int32} {S : List Value} : rn ca C_X11_day 11 [a0, a1, a2, a3, a4, a5] (.int x :: S) M = rn ca C_X11_day 12 [a0, a1, a2, some (.int x), a4, a5] S M := (rn_at k_X11_day_11).trans rfl
theorem k_X11_day_12 : lk 12 C_X11_day = some (.iload_n 3, (0, 0, 0, 0)) := by decide +kernel
theorem s_X11_day_12 {ca : Nat → List Value → tM → tO} {M : tM} {a0 a1 a2 a4 a5 : Option Value} {x : Int32} {S : List Value} : rn ca C_X11_day 12 [a0, a1, a2, some (.int x), a4, a5] S M = rn ca C_X11_day 13 [a0, a1, a2, some (.int x), a4, a5] (.int x :: S) M := (rn_at k_X11_day_12).trans rfl
theorem k_X11_day_13 : lk 13 C_X11_day = some (.iload_n 2, (0, 0, 0, 0)) := by decide +kernel
theorem s_X11_day_13 {ca : Nat → List Value → tM → tO} {M : tM} {a0 a1 a3 a4 a5 : Option Value} {x : Int32} {S : List Value} : rn ca C_X11_day 13 [a0, a1, some (.int x), a3, a4, a5] S M = rn ca C_X11_day 14 [a0, a1, some (.int x), a3, a4, a5] (.int x :: S) M := (rn_at k_X11_day_13).trans rfl
theorem k_X11_day_14 : lk 14 C_X11_day = some (.if_icmp .ge 109, (123, 0, 0, 0)) := by decide +kernel
theorem s_X11_day_14 {ca : Nat → List Value → tM → tO} {M : tM} {L : tL} {x y : Int32} {S : List Value} : rn ca C_X11_day 14 L (.int y :: .int x :: S) M = if y ≤ x then rn ca C_X11_day 123 L S M else rn ca C_X11_day 17 L S M := (rn_at k_X11_day_14).trans rnx_ite
theorem k_X11_day_17 : lk 17 C_X11_day = some (.aload_n 0, (0, 0, 0, 0)) := by decide +kernel
theorem s_X11_day_17 {ca : Nat → List Value → tM → tO} {M : tM} {a1 a2 a3 a4 a5 : Option Value} {x : Nat} {S : List Value} : rn ca C_X11_day 17 [some (.ref x), a1, a2, a3, a4, a5] S M = rn ca C_X11_day 18 [some (.ref x), a1, a2, a3, a4, a5] (.ref x :: S) M := (rn_at k_X11_day_17).trans rfl
theorem k_X11_day_18 : lk 18 C_X11_day = some (.iload_n 1, (0, 0, 0, 0)) := by decide +kernel
theorem s_X11_day_18 {ca : Nat → List Value → tM → tO} {M : tM} {a0 a2 a3 a4 a5 : Option Value} {x : Int32} {S : List Value} : rn ca C_X11_day 18 [a0, some (.int x), a2, a3, a4, a5] S M = rn ca C_X11_day 19 [a0, some (.int x), a2, a3, a4, a5] (.int x :: S) M := (rn_at k_X11_day_18).trans rfl
theorem k_X11_day_19 : lk 19 C_X11_day = some (.iload_n 3, (0, 0, 0, 0)) := by decide +kernel
theorem s_X11_day_19 {ca : Nat → List Value → tM → tO} {M : tM} {a0 a1 a2 a4 a5 : Option Value} {x : Int32} {S : List Value} : rn ca C_X11_day 19 [a0, a1, a2, some (.int x), a4, a5] S M = rn ca C_X11_day 20 [a0, a1, a2, some (.int x), a4, a5] (.int x :: S) M := (rn_at k_X11_day_19).trans rfl
theorem k_X11_day_20 : lk 20 C_X11_day = some (.invokevirtual 152, (177, 2, 11, 632)) := by decide +kernel
theorem s_X11_day_20 {ca : Nat → List Value → tM → tO} {M : tM} {L : tL} {v1 v2 : Value} {b : Nat} : rn ca C_X11_day 20 L [v2, v1, .ref b] M = if clsO b = some 11 then rnk ca C_X11_day 23 L [] (ca m_X11_told [.ref b, v1, v2] M) else none := (rn_at k_X11_day_20).trans rnx_ite
theorem k_X11_day_23 : lk 23 C_X11_day = some (.istore 4, (0, 0, 0, 0)) := by decide +kernel
theorem s_X11_day_23 {ca : Nat → List Value → tM → tO} {M : tM} {a0 a1 a2 a3 a4 a5 : Option Value} {x : Int32} {S : List Value} : rn ca C_X11_day 23 [a0, a1, a2, a3, a4, a5] (.int x :: S) M = rn ca C_X11_day 25 [a0, a1, a2, a3, some (.int x), a5] S M := (rn_at k_X11_day_23).trans rfl
theorem k_X11_day_25 : lk 25 C_X11_day = some (.iload 4, (0, 0, 0, 0)) := by decide +kernel
theorem s_X11_day_25 {ca : Nat → List Value → tM → tO} {M : tM} {a0 a1 a2 a3 a5 : Option Value} {x : Int32} {S : List Value} : rn ca C_X11_day 25 [a0, a1, a2, a3, some (.int x), a5] S M = rn ca C_X11_day 27 [a0, a1, a2, a3, some (.int x), a5] (.int x :: S) M := (rn_at k_X11_day_25).trans rfl
theorem k_X11_day_27 : lk 27 C_X11_day = some (.ifCond .lt 45, (72, 0, 0, 0)) := by decide +kernel
theorem s_X11_day_27 {ca : Nat → List Value → tM → tO} {M : tM} {L : tL} {x : Int32} {S : List Value} : rn ca C_X11_day 27 L (.int x :: S) M = if x < iI 0 then rn ca C_X11_day 72 L S M else rn ca C_X11_day 30 L S M := (rn_at k_X11_day_27).trans rnx_ite
theorem k_X11_day_30 : lk 30 C_X11_day = some (.aload_n 0, (0, 0, 0, 0)) := by decide +kernel
theorem s_X11_day_30 {ca : Nat → List Value → tM → tO} {M : tM} {a1 a2 a3 a4 a5 : Option Value} {x : Nat} {S : List Value} : rn ca C_X11_day 30 [some (.ref x), a1, a2, a3, a4, a5] S M = rn ca C_X11_day 31 [some (.ref x), a1, a2, a3, a4, a5] (.ref x :: S) M := (rn_at k_X11_day_30).trans rfl
theorem k_X11_day_31 : lk 31 C_X11_day = some (.iload 4, (0, 0, 0, 0)) := by decide +kernel
theorem s_X11_day_31 {ca : Nat → List Value → tM → tO} {M : tM} {a0 a1 a2 a3 a5 : Option Value} {x : Int32} {S : List Value} : rn ca C_X11_day 31 [a0, a1, a2, a3, some (.int x), a5] S M = rn ca C_X11_day 33 [a0, a1, a2, a3, some (.int x), a5] (.int x :: S) M := (rn_at k_X11_day_31).trans rfl
theorem k_X11_day_33 : lk 33 C_X11_day = some (.bipush 100, (0, 0, 0, 0)) := by decide +kernel
theorem s_X11_day_33 {ca : Nat → List Value → tM → tO} {M : tM} {L : tL} {S : List Value} : rn ca C_X11_day 33 L S M = rn ca C_X11_day 35 L (.int (iI 100) :: S) M := (rn_at k_X11_day_33).trans rfl
theorem k_X11_day_35 : lk 35 C_X11_day = some (.idiv, (0, 0, 0, 0)) := by decide +kernel
theorem s_X11_day_35 {ca : Nat → List Value → tM → tO} {M : tM} {L : tL} {x y : Int32} {S : List Value} : rn ca C_X11_day 35 L (.int y :: .int x :: S) M = if y = iI 0 then none else rn ca C_X11_day 36 L (.int (x / y) :: S) M := (rn_at k_X11_day_35).trans rnx_ite
theorem k_X11_day_36 : lk 36 C_X11_day = some (.i2l, (0, 0, 0, 0)) := by decide +kernel
theorem s_X11_day_36 {ca : Nat → List Value → tM → tO} {M : tM} {L : tL} {x : Int32} {S : List Value} : rn ca C_X11_day 36 L (.int x :: S) M = rn ca C_X11_day 37 L (.long x.toInt64 :: S) M := (rn_at k_X11_day_36).trans rfl
theorem k_X11_day_37 : lk 37 C_X11_day = some (.invokevirtual 114, (149, 1, 11, 302)) := by decide +kernel
theorem s_X11_day_37 {ca : Nat → List Value → tM → tO} {M : tM} {L : tL} {v1 : Value} {b : Nat} : rn ca C_X11_day 37 L [v1, .ref b] M = if clsO b = some 11 then rnk ca C_X11_day 40 L [] (ca m_X11_isCapsule [.ref b, v1] M) else none := (rn_at k_X11_day_37).trans rnx_ite
theorem k_X11_day_40 : lk 40 C_X11_day = some (.ifCond .eq 32, (72, 0, 0, 0)) := by decide +kernel
theorem s_X11_day_40 {ca : Nat → List Value → tM → tO} {M : tM} {L : tL} {x : Int32} {S : List Value} : rn ca C_X11_day 40 L (.int x :: S) M = if x = iI 0 then rn ca C_X11_day 72 L S M else rn ca C_X11_day 43 L S M := (rn_at k_X11_day_40).trans rnx_ite
theorem k_X11_day_43 : lk 43 C_X11_day = some (.aload_n 0, (0, 0, 0, 0)) := by decide +kernel
theorem s_X11_day_43 {ca : Nat → List Value → tM → tO} {M : tM} {a1 a2 a3 a4 a5 : Option Value} {x : Nat} {S : List Value} : rn ca C_X11_day 43 [some (.ref x), a1, a2, a3, a4, a5] S M = rn ca C_X11_day 44 [some (.ref x), a1, a2, a3, a4, a5] (.ref x :: S) M := (rn_at k_X11_day_43).trans rfl
theorem k_X11_day_44 : lk 44 C_X11_day = some (.iload 4, (0, 0, 0, 0)) := by decide +kernel
theorem s_X11_day_44 {ca : Nat → List Value → tM → tO} {M : tM} {a0 a1 a2 a3 a5 : Option Value} {x : Int32} {S : List Value} : rn ca C_X11_day 44 [a0, a1, a2, a3, some (.int x), a5] S M = rn ca C_X11_day 46 [a0, a1, a2, a3, some (.int x), a5] (.int x :: S) M := (rn_at k_X11_day_44).trans rfl
theorem k_X11_day_46 : lk 46 C_X11_day = some (.bipush 10, (0, 0, 0, 0)) := by decide +kernel
theorem s_X11_day_46 {ca : Nat → List Value → tM → tO} {M : tM} {L : tL} {S : List Value} : rn ca C_X11_day 46 L S M = rn ca C_X11_day 48 L (.int (iI 10) :: S) M := (rn_at k_X11_day_46).trans rfl
theorem k_X11_day_48 : lk 48 C_X11_day = some (.idiv, (0, 0, 0, 0)) := by decide +kernel
theorem s_X11_day_48 {ca : Nat → List Value → tM → tO} {M : tM} {L : tL} {x y : Int32} {S : List Value} : rn ca C_X11_day 48 L (.int y :: .int x :: S) M = if y = iI 0 then none else rn ca C_X11_day 49 L (.int (x / y) :: S) M := (rn_at k_X11_day_48).trans rnx_ite
theorem k_X11_day_49 : lk 49 C_X11_day = some (.bipush 10, (0, 0, 0, 0)) := by decide +kernel
theorem s_X11_day_49 {ca : Nat → List Value → tM → tO} {M : tM} {L : tL} {S : List Value} : rn ca C_X11_day 49 L S M = rn ca C_X11_day 51 L (.int (iI 10) :: S) M := (rn_at k_X11_day_49).trans rfl
theorem k_X11_day_51 : lk 51 C_X11_day = some (.irem, (0, 0, 0, 0)) := by decide +kernel
theorem s_X11_day_51 {ca : Nat → List Value → tM → tO} {M : tM} {L : tL} {x y : Int32} {S : List Value} : rn ca C_X11_day 51 L (.int y :: .int x :: S) M = if y = iI 0 then none else rn ca C_X11_day 52 L (.int (irm x y) :: S) M := (rn_at k_X11_day_51).trans rnx_ite
theorem k_X11_day_52 : lk 52 C_X11_day = some (.i2l, (0, 0, 0, 0)) := by decide +kernel
theorem s_X11_day_52 {ca : Nat → List Value → tM → tO} {M : tM} {L : tL} {x : Int32} {S : List Value} : rn ca C_X11_day 52 L (.int x :: S) M = rn ca C_X11_day 53 L (.long x.toInt64 :: S) M := (rn_at k_X11_day_52).trans rfl
theorem k_X11_day_53 : lk 53 C_X11_day = some (.invokevirtual 95, (147, 1, 11, 397)) := by decide +kernel
theorem s_X11_day_53 {ca : Nat → List Value → tM → tO} {M : tM} {L : tL} {v1 : Value} {b : Nat} : rn ca C_X11_day 53 L [v1, .ref b] M = if clsO b = some 11 then rnk ca C_X11_day 56 L [] (ca m_X11_isDesk [.ref b, v1] M) else none := (rn_at k_X11_day_53).trans rnx_ite
theorem k_X11_day_56 : lk 56 C_X11_day = some (.ifCond .eq 16, (72, 0, 0, 0)) := by decide +kernel
theorem s_X11_day_56 {ca : Nat → List Value → tM → tO} {M : tM} {L : tL} {x : Int32} {S : List Value} : rn ca C_X11_day 56 L (.int x :: S) M = if x = iI 0 then rn ca C_X11_day 72 L S M else rn ca C_X11_day 59 L S M := (rn_at k_X11_day_56).trans rnx_ite
theorem k_X11_day_59 : lk 59 C_X11_day = some (.iload 4, (0, 0, 0, 0)) := by decide +kernel
theorem s_X11_day_59 {ca : Nat → List Value → tM → tO} {M : tM} {a0 a1 a2 a3 a5 : Option Value} {x : Int32} {S : List Value} : rn ca C_X11_day 59 [a0, a1, a2, a3, some (.int x), a5] S M = rn ca C_X11_day 61 [a0, a1, a2, a3, some (.int x), a5] (.int x :: S) M := (rn_at k_X11_day_59).trans rfl
theorem k_X11_day_61 : lk 61 C_X11_day = some (.bipush 10, (0, 0, 0, 0)) := by decide +kernel
theorem s_X11_day_61 {ca : Nat → List Value → tM → tO} {M : tM} {L : tL} {S : List Value} : rn ca C_X11_day 61 L S M = rn ca C_X11_day 63 L (.int (iI 10) :: S) M := (rn_at k_X11_day_61).trans rfl
theorem k_X11_day_63 : lk 63 C_X11_day = some (.irem, (0, 0, 0, 0)) := by decide +kernel
theorem s_X11_day_63 {ca : Nat → List Value → tM → tO} {M : tM} {L : tL} {x y : Int32} {S : List Value} : rn ca C_X11_day 63 L (.int y :: .int x :: S) M = if y = iI 0 then none else rn ca C_X11_day 64 L (.int (irm x y) :: S) M := (rn_at k_X11_day_63).trans rnx_ite
theorem k_X11_day_64 : lk 64 C_X11_day = some (.iconst 2, (0, 0, 0, 0)) := by decide +kernel
theorem s_X11_day_64 {ca : Nat → List Value → tM → tO} {M : tM} {L : tL} {S : List Value} : rn ca C_X11_day 64 L S M = rn ca C_X11_day 65 L (.int (iI 2) :: S) M := (rn_at k_X11_day_64).trans rfl
theorem k_X11_day_65 : lk 65 C_X11_day = some (.if_icmp .ge 7, (72, 0, 0, 0)) := by decide +kernel
theorem s_X11_day_65 {ca : Nat → List Value → tM → tO} {M : tM} {L : tL} {x y : Int32} {S : List Value} : rn ca C_X11_day 65 L (.int y :: .int x :: S) M = if y ≤ x then rn ca C_X11_day 72 L S M else rn ca C_X11_day 68 L S M := (rn_at k_X11_day_65).trans rnx_ite
theorem k_X11_day_68 : lk 68 C_X11_day = some (.iconst 1, (0, 0, 0, 0)) := by decide +kernel
theorem s_X11_day_68 {ca : Nat → List Value → tM → tO} {M : tM} {L : tL} {S : List Value} : rn ca C_X11_day 68 L S M = rn ca C_X11_day 69 L (.int (iI 1) :: S) M := (rn_at k_X11_day_68).trans rfl
theorem k_X11_day_69 : lk 69 C_X11_day = some (.goto 4, (73, 0, 0, 0)) := by decide +kernel
theorem s_X11_day_69 {ca : Nat → List Value → tM → tO} {M : tM} {L : tL} {S : List Value} : rn ca C_X11_day 69 L S M = rn ca C_X11_day 73 L S M := (rn_at k_X11_day_69).trans rfl
theorem k_X11_day_72 : lk 72 C_X11_day = some (.iconst 0, (0, 0, 0, 0)) := by decide +kernel
theorem s_X11_day_72 {ca : Nat → List Value → tM → tO} {M : tM} {L : tL} {S : List Value} : rn ca C_X11_day 72 L S M = rn ca C_X11_day 73 L (.int (iI 0) :: S) M := (rn_at k_X11_day_72).trans rfl
theorem k_X11_day_73 : lk 73 C_X11_day = some (.istore 5, (0, 0, 0, 0)) := by decide +kernel
theorem s_X11_day_73 {ca : Nat → List Value → tM → tO} {M : tM} {a0 a1 a2 a3 a4 a5 : Option Value} {x : Int32} {S : List Value} : rn ca C_X11_day 73 [a0, a1, a2, a3, a4, a5] (.int x :: S) M = rn ca C_X11_day 75 [a0, a1, a2, a3, a4, some (.int x)] S M := (rn_at k_X11_day_73).trans rfl
theorem k_X11_day_75 : lk 75 C_X11_day = some (.iload 5, (0, 0, 0, 0)) := by decide +kernel
theorem s_X11_day_75 {ca : Nat → List Value → tM → tO} {M : tM} {a0 a1 a2 a3 a4 : Option Value} {x : Int32} {S : List Value} : rn ca C_X11_day 75 [a0, a1, a2, a3, a4, some (.int x)] S M = rn ca C_X11_day 77 [a0, a1, a2, a3, a4, some (.int x)] (.int x :: S) M := (rn_at k_X11_day_75).trans rfl
theorem k_X11_day_77 : lk 77 C_X11_day = some (.ifCond .eq 38, (115, 0, 0, 0)) := by decide +kernel
theorem s_X11_day_77 {ca : Nat → List Value → tM → tO} {M : tM} {L : tL} {x : Int32} {S : List Value} : rn ca C_X11_day 77 L (.int x :: S) M = if x = iI 0 then rn ca C_X11_day 115 L S M else rn ca C_X11_day 80 L S M := (rn_at k_X11_day_77).trans rnx_ite
theorem k_X11_day_80 : lk 80 C_X11_day = some (.aload_n 0, (0, 0, 0, 0)) := by decide +kernel
theorem s_X11_day_80 {ca : Nat → List Value → tM → tO} {M : tM} {a1 a2 a3 a4 a5 : Option Value} {x : Nat} {S : List Value} : rn ca C_X11_day 80 [some (.ref x), a1, a2, a3, a4, a5] S M = rn ca C_X11_day 81 [some (.ref x), a1, a2, a3, a4, a5] (.ref x :: S) M := (rn_at k_X11_day_80).trans rfl
theorem k_X11_day_81 : lk 81 C_X11_day = some (.iload 4, (0, 0, 0, 0)) := by decide +kernel
theorem s_X11_day_81 {ca : Nat → List Value → tM → tO} {M : tM} {a0 a1 a2 a3 a5 : Option Value} {x : Int32} {S : List Value} : rn ca C_X11_day 81 [a0, a1, a2, a3, some (.int x), a5] S M = rn ca C_X11_day 83 [a0, a1, a2, a3, some (.int x), a5] (.int x :: S) M := (rn_at k_X11_day_81).trans rfl
theorem k_X11_day_83 : lk 83 C_X11_day = some (.bipush 100, (0, 0, 0, 0)) := by decide +kernel
theorem s_X11_day_83 {ca : Nat → List Value → tM → tO} {M : tM} {L : tL} {S : List Value} : rn ca C_X11_day 83 L S M = rn ca C_X11_day 85 L (.int (iI 100) :: S) M := (rn_at k_X11_day_83).trans rfl
theorem k_X11_day_85 : lk 85 C_X11_day = some (.idiv, (0, 0, 0, 0)) := by decide +kernel
theorem s_X11_day_85 {ca : Nat → List Value → tM → tO} {M : tM} {L : tL} {x y : Int32} {S : List Value} : rn ca C_X11_day 85 L (.int y :: .int x :: S) M = if y = iI 0 then none else rn ca C_X11_day 86 L (.int (x / y) :: S) M := (rn_at k_X11_day_85).trans rnx_ite
theorem k_X11_day_86 : lk 86 C_X11_day = some (.iload 4, (0, 0, 0, 0)) := by decide +kernel
theorem s_X11_day_86 {ca : Nat → List Value → tM → tO} {M : tM} {a0 a1 a2 a3 a5 : Option Value} {x : Int32} {S : List Value} : rn ca C_X11_day 86 [a0, a1, a2, a3, some (.int x), a5] S M = rn ca C_X11_day 88 [a0, a1, a2, a3, some (.int x), a5] (.int x :: S) M := (rn_at k_X11_day_86).trans rfl
theorem k_X11_day_88 : lk 88 C_X11_day = some (.bipush 10, (0, 0, 0, 0)) := by decide +kernel
theorem s_X11_day_88 {ca : Nat → List Value → tM → tO} {M : tM} {L : tL} {S : List Value} : rn ca C_X11_day 88 L S M = rn ca C_X11_day 90 L (.int (iI 10) :: S) M := (rn_at k_X11_day_88).trans rfl
theorem k_X11_day_90 : lk 90 C_X11_day = some (.idiv, (0, 0, 0, 0)) := by decide +kernel
theorem s_X11_day_90 {ca : Nat → List Value → tM → tO} {M : tM} {L : tL} {x y : Int32} {S : List Value} : rn ca C_X11_day 90 L (.int y :: .int x :: S) M = if y = iI 0 then none else rn ca C_X11_day 91 L (.int (x / y) :: S) M := (rn_at k_X11_day_90).trans rnx_ite
theorem k_X11_day_91 : lk 91 C_X11_day = some (.bipush 10, (0, 0, 0, 0)) := by decide +kernel
theorem s_X11_day_91 {ca : Nat → List Value → tM → tO} {M : tM} {L : tL} {S : List Value} : rn ca C_X11_day 91 L S M = rn ca C_X11_day 93 L (.int (iI 10) :: S) M := (rn_at k_X11_day_91).trans rfl
theorem k_X11_day_93 : lk 93 C_X11_day = some (.irem, (0, 0, 0, 0)) := by decide +kernel
theorem s_X11_day_93 {ca : Nat → List Value → tM → tO} {M : tM} {L : tL} {x y : Int32} {S : List Value} : rn ca C_X11_day 93 L (.int y :: .int x :: S) M = if y = iI 0 then none else rn ca C_X11_day 94 L (.int (irm x y) :: S) M := (rn_at k_X11_day_93).trans rnx_ite
theorem k_X11_day_94 : lk 94 C_X11_day = some (.iload 4, (0, 0, 0, 0)) := by decide +kernel
theorem s_X11_day_94 {ca : Nat → List Value → tM → tO} {M : tM} {a0 a1 a2 a3 a5 : Option Value} {x : Int32} {S : List Value} : rn ca C_X11_day 94 [a0, a1, a2, a3, some (.int x), a5] S M = rn ca C_X11_day 96 [a0, a1, a2, a3, some (.int x), a5] (.int x :: S) M := (rn_at k_X11_day_94).trans rfl
theorem k_X11_day_96 : lk 96 C_X11_day = some (.bipush 10, (0, 0, 0, 0)) := by decide +kernel
theorem s_X11_day_96 {ca : Nat → List Value → tM → tO} {M : tM} {L : tL} {S : List Value} : rn ca C_X11_day 96 L S M = rn ca C_X11_day 98 L (.int (iI 10) :: S) M := (rn_at k_X11_day_96).trans rfl
theorem k_X11_day_98 : lk 98 C_X11_day = some (.irem, (0, 0, 0, 0)) := by decide +kernel
theorem s_X11_day_98 {ca : Nat → List Value → tM → tO} {M : tM} {L : tL} {x y : Int32} {S : List Value} : rn ca C_X11_day 98 L (.int y :: .int x :: S) M = if y = iI 0 then none else rn ca C_X11_day 99 L (.int (irm x y) :: S) M := (rn_at k_X11_day_98).trans rnx_ite
theorem k_X11_day_99 : lk 99 C_X11_day = some (.iconst 1, (0, 0, 0, 0)) := by decide +kernel
theorem s_X11_day_99 {ca : Nat → List Value → tM → tO} {M : tM} {L : tL} {S : List Value} : rn ca C_X11_day 99 L S M = rn ca C_X11_day 100 L (.int (iI 1) :: S) M := (rn_at k_X11_day_99).trans rfl
theorem k_X11_day_100 : lk 100 C_X11_day = some (.if_icmp .ne 7, (107, 0, 0, 0)) := by decide +kernel
theorem s_X11_day_100 {ca : Nat → List Value → tM → tO} {M : tM} {L : tL} {x y : Int32} {S : List Value} : rn ca C_X11_day 100 L (.int y :: .int x :: S) M = if ¬ x = y then rn ca C_X11_day 107 L S M else rn ca C_X11_day 103 L S M := (rn_at k_X11_day_100).trans rnx_ite
theorem k_X11_day_103 : lk 103 C_X11_day = some (.iconst 1, (0, 0, 0, 0)) := by decide +kernel
theorem s_X11_day_103 {ca : Nat → List Value → tM → tO} {M : tM} {L : tL} {S : List Value} : rn ca C_X11_day 103 L S M = rn ca C_X11_day 104 L (.int (iI 1) :: S) M := (rn_at k_X11_day_103).trans rfl
theorem k_X11_day_104 : lk 104 C_X11_day = some (.goto 4, (108, 0, 0, 0)) := by decide +kernel
theorem s_X11_day_104 {ca : Nat → List Value → tM → tO} {M : tM} {L : tL} {S : List Value} : rn ca C_X11_day 104 L S M = rn ca C_X11_day 108 L S M := (rn_at k_X11_day_104).trans rfl
theorem k_X11_day_107 : lk 107 C_X11_day = some (.iconst 0, (0, 0, 0, 0)) := by decide +kernel
theorem s_X11_day_107 {ca : Nat → List Value → tM → tO} {M : tM} {L : tL} {S : List Value} : rn ca C_X11_day 107 L S M = rn ca C_X11_day 108 L (.int (iI 0) :: S) M := (rn_at k_X11_day_107).trans rfl
theorem k_X11_day_108 : lk 108 C_X11_day = some (.invokevirtual 296, (220, 3, 11, 1095)) := by decide +kernel
theorem s_X11_day_108 {ca : Nat → List Value → tM → tO} {M : tM} {L : tL} {v1 v2 v3 : Value} {b : Nat} : rn ca C_X11_day 108 L [v3, v2, v1, .ref b] M = if clsO b = some 11 then rnk ca C_X11_day 111 L [] (ca m_X11_leg [.ref b, v1, v2, v3] M) else none := (rn_at k_X11_day_108).trans rnx_ite
theorem k_X11_day_111 : lk 111 C_X11_day = some (.iconst (-1), (0, 0, 0, 0)) := by decide +kernel
theorem s_X11_day_111 {ca : Nat → List Value → tM → tO} {M : tM} {L : tL} {S : List Value} : rn ca C_X11_day 111 L S M = rn ca C_X11_day 112 L (.int (iI (-1)) :: S) M := (rn_at k_X11_day_111).trans rfl
theorem k_X11_day_112 : lk 112 C_X11_day = some (.if_icmp .ne 5, (117, 0, 0, 0)) := by decide +kernel
theorem s_X11_day_112 {ca : Nat → List Value → tM → tO} {M : tM} {L : tL} {x y : Int32} {S : List Value} : rn ca C_X11_day 112 L (.int y :: .int x :: S) M = if ¬ x = y then rn ca C_X11_day 117 L S M else rn ca C_X11_day 115 L S M := (rn_at k_X11_day_112).trans rnx_ite
theorem k_X11_day_115 : lk 115 C_X11_day = some (.iload_n 3, (0, 0, 0, 0)) := by decide +kernel
theorem s_X11_day_115 {ca : Nat → List Value → tM → tO} {M : tM} {a0 a1 a2 a4 a5 : Option Value} {x : Int32} {S : List Value} : rn ca C_X11_day 115 [a0, a1, a2, some (.int x), a4, a5] S M = rn ca C_X11_day 116 [a0, a1, a2, some (.int x), a4, a5] (.int x :: S) M := (rn_at k_X11_day_115).trans rfl
theorem k_X11_day_116 : lk 116 C_X11_day = some (.ireturn, (0, 0, 0, 0)) := by decide +kernel
theorem s_X11_day_116 {ca : Nat → List Value → tM → tO} {M : tM} {L : tL} {x : Int32} : rn ca C_X11_day 116 L [.int x] M = some (some (.int x), M) := (rn_at k_X11_day_116).trans rfl
theorem k_X11_day_117 : lk 117 C_X11_day = some (.iinc 3 1, (0, 0, 0, 0)) := by decide +kernel
theorem s_X11_day_117 {ca : Nat → List Value → tM → tO} {M : tM} {a0 a1 a2 a4 a5 : Option Value} {x : Int32} {S : List Value} : rn ca C_X11_day 117 [a0, a1, a2, some (.int x), a4, a5] S M = rn ca C_X11_day 120 [a0, a1, a2, some (.int (x + iI 1)), a4, a5] S M := (rn_at k_X11_day_117).trans rfl
theorem k_X11_day_120 : lk 120 C_X11_day = some (.goto (-108), (12, 0, 0, 0)) := by decide +kernel
theorem s_X11_day_120 {ca : Nat → List Value → tM → tO} {M : tM} {L : tL} {S : List Value} : rn ca C_X11_day 120 L S M = rn ca C_X11_day 12 L S M := (rn_at k_X11_day_120).trans rfl
theorem k_X11_day_123 : lk 123 C_X11_day = some (.iconst (-1), (0, 0, 0, 0)) := by decide +kernel
theorem s_X11_day_123 {ca : Nat → List Value → tM → tO} {M : tM} {L : tL} {S : List Value} : rn ca C_X11_day 123 L S M = rn ca C_X11_day 124 L (.int (iI (-1)) :: S) M := (rn_at k_X11_day_123).trans rfl
theorem k_X11_day_124 : lk 124 C_X11_day = some (.ireturn, (0, 0, 0, 0)) := by decide +kernel
theorem s_X11_day_124 {ca : Nat → List Value → tM → tO} {M : tM} {L : tL} {x : Int32} : rn ca C_X11_day 124 L [.int x] M = some (some (.int x), M) := (rn_at k_X11_day_124).trans rfl
theorem k_X11_judge_0 : lk 0 C_X11_judge = some (.aload_n 0, (0, 0, 0, 0)) := by decide +kernel
theorem s_X11_judge_0 {ca : Nat → List Value → tM → tO} {M : tM} {a1 a2 a3 a4 : Option Value} {x : Nat} {S : List Value} : rn ca C_X11_judge 0 [some (.ref x), a1, a2, a3, a4] S M = rn ca C_X11_judge 1 [some (.ref x), a1, a2, a3, a4] (.ref x :: S) M := (rn_at k_X11_judge_0).trans rfl
theorem k_X11_judge_1 : lk 1 C_X11_judge = some (.iload_n 1, (0, 0, 0, 0)) := by decide +kernel
theorem s_X11_judge_1 {ca : Nat → List Value → tM → tO} {M : tM} {a0 a2 a3 a4 : Option Value} {x : Int32} {S : List Value} : rn ca C_X11_judge 1 [a0, some (.int x), a2, a3, a4] S M = rn ca C_X11_judge 2 [a0, some (.int x), a2, a3, a4] (.int x :: S) M := (rn_at k_X11_judge_1).trans rfl
theorem k_X11_judge_2 : lk 2 C_X11_judge = some (.iload_n 2, (0, 0, 0, 0)) := by decide +kernel
theorem s_X11_judge_2 {ca : Nat → List Value → tM → tO} {M : tM} {a0 a1 a3 a4 : Option Value} {x : Int32} {S : List Value} : rn ca C_X11_judge 2 [a0, a1, some (.int x), a3, a4] S M = rn ca C_X11_judge 3 [a0, a1, some (.int x), a3, a4] (.int x :: S) M := (rn_at k_X11_judge_2).trans rfl
theorem k_X11_judge_3 : lk 3 C_X11_judge = some (.invokevirtual 300, (219, 2, 11, 1085)) := by decide +kernel
theorem s_X11_judge_3 {ca : Nat → List Value → tM → tO} {M : tM} {L : tL} {v1 v2 : Value} {b : Nat} : rn ca C_X11_judge 3 L [v2, v1, .ref b] M = if clsO b = some 11 then rnk ca C_X11_judge 6 L [] (ca m_X11_legs [.ref b, v1, v2] M) else none := (rn_at k_X11_judge_3).trans rnx_ite
theorem k_X11_judge_6 : lk 6 C_X11_judge = some (.istore_n 3, (0, 0, 0, 0)) := by decide +kernel
theorem s_X11_judge_6 {ca : Nat → List Value → tM → tO} {M : tM} {a0 a1 a2 a3 a4 : Option Value} {x : Int32} {S : List Value} : rn ca C_X11_judge 6 [a0, a1, a2, a3, a4] (.int x :: S) M = rn ca C_X11_judge 7 [a0, a1, a2, some (.int x), a4] S M := (rn_at k_X11_judge_6).trans rfl
theorem k_X11_judge_7 : lk 7 C_X11_judge = some (.iload_n 3, (0, 0, 0, 0)) := by decide +kernel
theorem s_X11_judge_7 {ca : Nat → List Value → tM → tO} {M : tM} {a0 a1 a2 a4 : Option Value} {x : Int32} {S : List Value} : rn ca C_X11_judge 7 [a0, a1, a2, some (.int x), a4] S M = rn ca C_X11_judge 8 [a0, a1, a2, some (.int x), a4] (.int x :: S) M := (rn_at k_X11_judge_7).trans rfl
theorem k_X11_judge_8 : lk 8 C_X11_judge = some (.ifCond .ge 9, (17, 0, 0, 0)) := by decide +kernel
theorem s_X11_judge_8 {ca : Nat → List Value → tM → tO} {M : tM} {L : tL} {x : Int32} {S : List Value} : rn ca C_X11_judge 8 L (.int x :: S) M = if iI 0 ≤ x then rn ca C_X11_judge 17 L S M else rn ca C_X11_judge 11 L S M := (rn_at k_X11_judge_8).trans rnx_ite
theorem k_X11_judge_11 : lk 11 C_X11_judge = some (.aload_n 0, (0, 0, 0, 0)) := by decide +kernel
theorem s_X11_judge_11 {ca : Nat → List Value → tM → tO} {M : tM} {a1 a2 a3 a4 : Option Value} {x : Nat} {S : List Value} : rn ca C_X11_judge 11 [some (.ref x), a1, a2, a3, a4] S M = rn ca C_X11_judge 12 [some (.ref x), a1, a2, a3, a4] (.ref x :: S) M := (rn_at k_X11_judge_11).trans rfl
theorem k_X11_judge_12 : lk 12 C_X11_judge = some (.iload_n 3, (0, 0, 0, 0)) := by decide +kernel
theorem s_X11_judge_12 {ca : Nat → List Value → tM → tO} {M : tM} {a0 a1 a2 a4 : Option Value} {x : Int32} {S : List Value} : rn ca C_X11_judge 12 [a0, a1, a2, some (.int x), a4] S M = rn ca C_X11_judge 13 [a0, a1, a2, some (.int x), a4] (.int x :: S) M := (rn_at k_X11_judge_12).trans rfl
theorem k_X11_judge_13 : lk 13 C_X11_judge = some (.invokevirtual 233, (145, 1, 11, 749)) := by decide +kernel
theorem s_X11_judge_13 {ca : Nat → List Value → tM → tO} {M : tM} {L : tL} {v1 : Value} {b : Nat} : rn ca C_X11_judge 13 L [v1, .ref b] M = if clsO b = some 11 then rnk ca C_X11_judge 16 L [] (ca m_X11_refuseBy10 [.ref b, v1] M) else none := (rn_at k_X11_judge_13).trans rnx_ite
theorem k_X11_judge_16 : lk 16 C_X11_judge = some (.ireturn, (0, 0, 0, 0)) := by decide +kernel
theorem s_X11_judge_16 {ca : Nat → List Value → tM → tO} {M : tM} {L : tL} {x : Int32} : rn ca C_X11_judge 16 L [.int x] M = some (some (.int x), M) := (rn_at k_X11_judge_16).trans rfl
theorem k_X11_judge_17 : lk 17 C_X11_judge = some (.aload_n 0, (0, 0, 0, 0)) := by decide +kernel
theorem s_X11_judge_17 {ca : Nat → List Value → tM → tO} {M : tM} {a1 a2 a3 a4 : Option Value} {x : Nat} {S : List Value} : rn ca C_X11_judge 17 [some (.ref x), a1, a2, a3, a4] S M = rn ca C_X11_judge 18 [some (.ref x), a1, a2, a3, a4] (.ref x :: S) M := (rn_at k_X11_judge_17).trans rfl
theorem k_X11_judge_18 : lk 18 C_X11_judge = some (.getfield 17, (11, 1, 0, 147)) := by decide +kernel
theorem s_X11_judge_18 {ca : Nat → List Value → tM → tO} {M : tM} {L : tL} {b : Nat} {S : List Value} : rn ca C_X11_judge 18 L (.ref b :: S) M = if clsO b = some 11 then rn ca C_X11_judge 21 L (fv M b 1 :: S) M else none := (rn_at k_X11_judge_18).trans rnx_ite
theorem k_X11_judge_21 : lk 21 C_X11_judge = some (.aload_n 0, (0, 0, 0, 0)) := by decide +kernel
theorem s_X11_judge_21 {ca : Nat → List Value → tM → tO} {M : tM} {a1 a2 a3 a4 : Option Value} {x : Nat} {S : List Value} : rn ca C_X11_judge 21 [some (.ref x), a1, a2, a3, a4] S M = rn ca C_X11_judge 22 [some (.ref x), a1, a2, a3, a4] (.ref x :: S) M := (rn_at k_X11_judge_21).trans rfl
theorem k_X11_judge_22 : lk 22 C_X11_judge = some (.getfield 23, (11, 3, 0, 149)) := by decide +kernel
theorem s_X11_judge_22 {ca : Nat → List Value → tM → tO} {M : tM} {L : tL} {b : Nat} {S : List Value} : rn ca C_X11_judge 22 L (.ref b :: S) M = if clsO b = some 11 then rn ca C_X11_judge 25 L (fv M b 3 :: S) M else none := (rn_at k_X11_judge_22).trans rnx_ite
theorem k_X11_judge_25 : lk 25 C_X11_judge = some (.invokestatic 183, (146, 2, 0, 616)) := by decide +kernel
theorem s_X11_judge_25 {ca : Nat → List Value → tM → tO} {M : tM} {L : tL} {v1 v2 : Value} : rn ca C_X11_judge 25 L [v2, v1] M = rnk ca C_X11_judge 28 L [] (ca m_X11_move [v1, v2] M) := (rn_at k_X11_judge_25).trans rfl
theorem k_X11_judge_28 : lk 28 C_X11_judge = some (.aload_n 0, (0, 0, 0, 0)) := by decide +kernel
theorem s_X11_judge_28 {ca : Nat → List Value → tM → tO} {M : tM} {a1 a2 a3 a4 : Option Value} {x : Nat} {S : List Value} : rn ca C_X11_judge 28 [some (.ref x), a1, a2, a3, a4] S M = rn ca C_X11_judge 29 [some (.ref x), a1, a2, a3, a4] (.ref x :: S) M := (rn_at k_X11_judge_28).trans rfl
theorem k_X11_judge_29 : lk 29 C_X11_judge = some (.iload_n 1, (0, 0, 0, 0)) := by decide +kernel
theorem s_X11_judge_29 {ca : Nat → List Value → tM → tO} {M : tM} {a0 a2 a3 a4 : Option Value} {x : Int32} {S : List Value} : rn ca C_X11_judge 29 [a0, some (.int x), a2, a3, a4] S M = rn ca C_X11_judge 30 [a0, some (.int x), a2, a3, a4] (.int x :: S) M := (rn_at k_X11_judge_29).trans rfl
theorem k_X11_judge_30 : lk 30 C_X11_judge = some (.iload_n 2, (0, 0, 0, 0)) := by decide +kernel
theorem s_X11_judge_30 {ca : Nat → List Value → tM → tO} {M : tM} {a0 a1 a3 a4 : Option Value} {x : Int32} {S : List Value} : rn ca C_X11_judge 30 [a0, a1, some (.int x), a3, a4] S M = rn ca C_X11_judge 31 [a0, a1, some (.int x), a3, a4] (.int x :: S) M := (rn_at k_X11_judge_30).trans rfl
theorem k_X11_judge_31 : lk 31 C_X11_judge = some (.invokevirtual 303, (221, 2, 11, 1089)) := by decide +kernel
theorem s_X11_judge_31 {ca : Nat → List Value → tM → tO} {M : tM} {L : tL} {v1 v2 : Value} {b : Nat} : rn ca C_X11_judge 31 L [v2, v1, .ref b] M = if clsO b = some 11 then rnk ca C_X11_judge 34 L [] (ca m_X11_day [.ref b, v1, v2] M) else none := (rn_at k_X11_judge_31).trans rnx_ite
theorem k_X11_judge_34 : lk 34 C_X11_judge = some (.istore 4, (0, 0, 0, 0)) := by decide +kernel
theorem s_X11_judge_34 {ca : Nat → List Value → tM → tO} {M : tM} {a0 a1 a2 a3 a4 : Option Value} {x : Int32} {S : List Value} : rn ca C_X11_judge 34 [a0, a1, a2, a3, a4] (.int x :: S) M = rn ca C_X11_judge 36 [a0, a1, a2, a3, some (.int x)] S M := (rn_at k_X11_judge_34).trans rfl
theorem k_X11_judge_36 : lk 36 C_X11_judge = some (.aload_n 0, (0, 0, 0, 0)) := by decide +kernel
theorem s_X11_judge_36 {ca : Nat → List Value → tM → tO} {M : tM} {a1 a2 a3 a4 : Option Value} {x : Nat} {S : List Value} : rn ca C_X11_judge 36 [some (.ref x), a1, a2, a3, a4] S M = rn ca C_X11_judge 37 [some (.ref x), a1, a2, a3, a4] (.ref x :: S) M := (rn_at k_X11_judge_36).trans rfl
theorem k_X11_judge_37 : lk 37 C_X11_judge = some (.getfield 23, (11, 3, 0, 149)) := by decide +kernel
theorem s_X11_judge_37 {ca : Nat → List Value → tM → tO} {M : tM} {L : tL} {b : Nat} {S : List Value} : rn ca C_X11_judge 37 L (.ref b :: S) M = if clsO b = some 11 then rn ca C_X11_judge 40 L (fv M b 3 :: S) M else none := (rn_at k_X11_judge_37).trans rnx_ite
theorem k_X11_judge_40 : lk 40 C_X11_judge = some (.aload_n 0, (0, 0, 0, 0)) := by decide +kernel
theorem s_X11_judge_40 {ca : Nat → List Value → tM → tO} {M : tM} {a1 a2 a3 a4 : Option Value} {x : Nat} {S : List Value} : rn ca C_X11_judge 40 [some (.ref x), a1, a2, a3, a4] S M = rn ca C_X11_judge 41 [some (.ref x), a1, a2, a3, a4] (.ref x :: S) M := (rn_at k_X11_judge_40).trans rfl
theorem k_X11_judge_41 : lk 41 C_X11_judge = some (.getfield 17, (11, 1, 0, 147)) := by decide +kernel
theorem s_X11_judge_41 {ca : Nat → List Value → tM → tO} {M : tM} {L : tL} {b : Nat} {S : List Value} : rn ca C_X11_judge 41 L (.ref b :: S) M = if clsO b = some 11 then rn ca C_X11_judge 44 L (fv M b 1 :: S) M else none := (rn_at k_X11_judge_41).trans rnx_ite
theorem k_X11_judge_44 : lk 44 C_X11_judge = some (.invokestatic 183, (146, 2, 0, 616)) := by decide +kernel
theorem s_X11_judge_44 {ca : Nat → List Value → tM → tO} {M : tM} {L : tL} {v1 v2 : Value} : rn ca C_X11_judge 44 L [v2, v1] M = rnk ca C_X11_judge 47 L [] (ca m_X11_move [v1, v2] M) := (rn_at k_X11_judge_44).trans rfl
theorem k_X11_judge_47 : lk 47 C_X11_judge = some (.iload 4, (0, 0, 0, 0)) := by decide +kernel
theorem s_X11_judge_47 {ca : Nat → List Value → tM → tO} {M : tM} {a0 a1 a2 a3 : Option Value} {x : Int32} {S : List Value} : rn ca C_X11_judge 47 [a0, a1, a2, a3, some (.int x)] S M = rn ca C_X11_judge 49 [a0, a1, a2, a3, some (.int x)] (.int x :: S) M := (rn_at k_X11_judge_47).trans rfl
theorem k_X11_judge_49 : lk 49 C_X11_judge = some (.ireturn, (0, 0, 0, 0)) := by decide +kernel
theorem s_X11_judge_49 {ca : Nat → List Value → tM → tO} {M : tM} {L : tL} {x : Int32} : rn ca C_X11_judge 49 L [.int x] M = some (some (.int x), M) := (rn_at k_X11_judge_49).trans rfl
theorem k_X11_after_0 : lk 0 C_X11_after = some (.aload_n 0, (0, 0, 0, 0)) := by decide +kernel
theorem s_X11_after_0 {ca : Nat → List Value → tM → tO} {M : tM} {a1 a2 a3 a4 a5 : Option Value} {x : Nat} {S : List Value} : rn ca C_X11_after 0 [some (.ref x), a1, a2, a3, a4, a5] S M = rn ca C_X11_after 1 [some (.ref x), a1, a2, a3, a4, a5] (.ref x :: S) M := (rn_at k_X11_after_0).trans rfl
theorem k_X11_after_1 : lk 1 C_X11_after = some (.getfield 17, (11, 1, 0, 147)) := by decide +kernel
theorem s_X11_after_1 {ca : Nat → List Value → tM → tO} {M : tM} {L : tL} {b : Nat} {S : List Value} : rn ca C_X11_after 1 L (.ref b :: S) M = if clsO b = some 11 then rn ca C_X11_after 4 L (fv M b 1 :: S) M else none := (rn_at k_X11_after_1).trans rnx_ite
theorem k_X11_after_4 : lk 4 C_X11_after = some (.aload_n 0, (0, 0, 0, 0)) := by decide +kernel
theorem s_X11_after_4 {ca : Nat → List Value → tM → tO} {M : tM} {a1 a2 a3 a4 a5 : Option Value} {x : Nat} {S : List Value} : rn ca C_X11_after 4 [some (.ref x), a1, a2, a3, a4, a5] S M = rn ca C_X11_after 5 [some (.ref x), a1, a2, a3, a4, a5] (.ref x :: S) M := (rn_at k_X11_after_4).trans rfl
theorem k_X11_after_5 : lk 5 C_X11_after = some (.getfield 23, (11, 3, 0, 149)) := by decide +kernel
theorem s_X11_after_5 {ca : Nat → List Value → tM → tO} {M : tM} {L : tL} {b : Nat} {S : List Value} : rn ca C_X11_after 5 L (.ref b :: S) M = if clsO b = some 11 then rn ca C_X11_after 8 L (fv M b 3 :: S) M else none := (rn_at k_X11_after_5).trans rnx_ite
theorem k_X11_after_8 : lk 8 C_X11_after = some (.invokestatic 183, (146, 2, 0, 616)) := by decide +kernel
theorem s_X11_after_8 {ca : Nat → List Value → tM → tO} {M : tM} {L : tL} {v1 v2 : Value} : rn ca C_X11_after 8 L [v2, v1] M = rnk ca C_X11_after 11 L [] (ca m_X11_move [v1, v2] M) := (rn_at k_X11_after_8).trans rfl
theorem k_X11_after_11 : lk 11 C_X11_after = some (.aload_n 0, (0, 0, 0, 0)) := by decide +kernel
theorem s_X11_after_11 {ca : Nat → List Value → tM → tO} {M : tM} {a1 a2 a3 a4 a5 : Option Value} {x : Nat} {S : List Value} : rn ca C_X11_after 11 [some (.ref x), a1, a2, a3, a4, a5] S M = rn ca C_X11_after 12 [some (.ref x), a1, a2, a3, a4, a5] (.ref x :: S) M := (rn_at k_X11_after_11).trans rfl
theorem k_X11_after_12 : lk 12 C_X11_after = some (.iload_n 1, (0, 0, 0, 0)) := by decide +kernel
theorem s_X11_after_12 {ca : Nat → List Value → tM → tO} {M : tM} {a0 a2 a3 a4 a5 : Option Value} {x : Int32} {S : List Value} : rn ca C_X11_after 12 [a0, some (.int x), a2, a3, a4, a5] S M = rn ca C_X11_after 13 [a0, some (.int x), a2, a3, a4, a5] (.int x :: S) M := (rn_at k_X11_after_12).trans rfl
theorem k_X11_after_13 : lk 13 C_X11_after = some (.iload_n 2, (0, 0, 0, 0)) := by decide +kernel
theorem s_X11_after_13 {ca : Nat → List Value → tM → tO} {M : tM} {a0 a1 a3 a4 a5 : Option Value} {x : Int32} {S : List Value} : rn ca C_X11_after 13 [a0, a1, some (.int x), a3, a4, a5] S M = rn ca C_X11_after 14 [a0, a1, some (.int x), a3, a4, a5] (.int x :: S) M := (rn_at k_X11_after_13).trans rfl
theorem k_X11_after_14 : lk 14 C_X11_after = some (.invokevirtual 303, (221, 2, 11, 1089)) := by decide +kernel
theorem s_X11_after_14 {ca : Nat → List Value → tM → tO} {M : tM} {L : tL} {v1 v2 : Value} {b : Nat} : rn ca C_X11_after 14 L [v2, v1, .ref b] M = if clsO b = some 11 then rnk ca C_X11_after 17 L [] (ca m_X11_day [.ref b, v1, v2] M) else none := (rn_at k_X11_after_14).trans rnx_ite
theorem k_X11_after_17 : lk 17 C_X11_after = some (.istore 4, (0, 0, 0, 0)) := by decide +kernel
theorem s_X11_after_17 {ca : Nat → List Value → tM → tO} {M : tM} {a0 a1 a2 a3 a4 a5 : Option Value} {x : Int32} {S : List Value} : rn ca C_X11_after 17 [a0, a1, a2, a3, a4, a5] (.int x :: S) M = rn ca C_X11_after 19 [a0, a1, a2, a3, some (.int x), a5] S M := (rn_at k_X11_after_17).trans rfl
theorem k_X11_after_19 : lk 19 C_X11_after = some (.aload_n 0, (0, 0, 0, 0)) := by decide +kernel
theorem s_X11_after_19 {ca : Nat → List Value → tM → tO} {M : tM} {a1 a2 a3 a4 a5 : Option Value} {x : Nat} {S : List Value} : rn ca C_X11_after 19 [some (.ref x), a1, a2, a3, a4, a5] S M = rn ca C_X11_after 20 [some (.ref x), a1, a2, a3, a4, a5] (.ref x :: S) M := (rn_at k_X11_after_19).trans rfl
theorem k_X11_after_20 : lk 20 C_X11_after = some (.getfield 17, (11, 1, 0, 147)) := by decide +kernel
theorem s_X11_after_20 {ca : Nat → List Value → tM → tO} {M : tM} {L : tL} {b : Nat} {S : List Value} : rn ca C_X11_after 20 L (.ref b :: S) M = if clsO b = some 11 then rn ca C_X11_after 23 L (fv M b 1 :: S) M else none := (rn_at k_X11_after_20).trans rnx_ite
theorem k_X11_after_23 : lk 23 C_X11_after = some (.bipush 91, (0, 0, 0, 0)) := by decide +kernel
theorem s_X11_after_23 {ca : Nat → List Value → tM → tO} {M : tM} {L : tL} {S : List Value} : rn ca C_X11_after 23 L S M = rn ca C_X11_after 25 L (.int (iI 91) :: S) M := (rn_at k_X11_after_23).trans rfl
theorem k_X11_after_25 : lk 25 C_X11_after = some (.iaload, (0, 0, 0, 0)) := by decide +kernel
theorem s_X11_after_25 {ca : Nat → List Value → tM → tO} {M : tM} {L : tL} {a : Nat} {i : Int32} {S : List Value} : rn ca C_X11_after 25 L (.int i :: .ref a :: S) M = if (akind a = 0 ∨ akind a = 6 ∨ akind a = 7) ∧ inb i (alen M a) then rn ca C_X11_after 26 L (.int (M.1 a i.toInt.toNat) :: S) M else none := (rn_at k_X11_after_25).trans rnx_ite
theorem k_X11_after_26 : lk 26 C_X11_after = some (.istore 5, (0, 0, 0, 0)) := by decide +kernel
theorem s_X11_after_26 {ca : Nat → List Value → tM → tO} {M : tM} {a0 a1 a2 a3 a4 a5 : Option Value} {x : Int32} {S : List Value} : rn ca C_X11_after 26 [a0, a1, a2, a3, a4, a5] (.int x :: S) M = rn ca C_X11_after 28 [a0, a1, a2, a3, a4, some (.int x)] S M := (rn_at k_X11_after_26).trans rfl
theorem k_X11_after_28 : lk 28 C_X11_after = some (.aload_n 0, (0, 0, 0, 0)) := by decide +kernel
theorem s_X11_after_28 {ca : Nat → List Value → tM → tO} {M : tM} {a1 a2 a3 a4 a5 : Option Value} {x : Nat} {S : List Value} : rn ca C_X11_after 28 [some (.ref x), a1, a2, a3, a4, a5] S M = rn ca C_X11_after 29 [some (.ref x), a1, a2, a3, a4, a5] (.ref x :: S) M := (rn_at k_X11_after_28).trans rfl
theorem k_X11_after_29 : lk 29 C_X11_after = some (.getfield 23, (11, 3, 0, 149)) := by decide +kernel
theorem s_X11_after_29 {ca : Nat → List Value → tM → tO} {M : tM} {L : tL} {b : Nat} {S : List Value} : rn ca C_X11_after 29 L (.ref b :: S) M = if clsO b = some 11 then rn ca C_X11_after 32 L (fv M b 3 :: S) M else none := (rn_at k_X11_after_29).trans rnx_ite
theorem k_X11_after_32 : lk 32 C_X11_after = some (.aload_n 0, (0, 0, 0, 0)) := by decide +kernel
theorem s_X11_after_32 {ca : Nat → List Value → tM → tO} {M : tM} {a1 a2 a3 a4 a5 : Option Value} {x : Nat} {S : List Value} : rn ca C_X11_after 32 [some (.ref x), a1, a2, a3, a4, a5] S M = rn ca C_X11_after 33 [some (.ref x), a1, a2, a3, a4, a5] (.ref x :: S) M := (rn_at k_X11_after_32).trans rfl
theorem k_X11_after_33 : lk 33 C_X11_after = some (.getfield 17, (11, 1, 0, 147)) := by decide +kernel
theorem s_X11_after_33 {ca : Nat → List Value → tM → tO} {M : tM} {L : tL} {b : Nat} {S : List Value} : rn ca C_X11_after 33 L (.ref b :: S) M = if clsO b = some 11 then rn ca C_X11_after 36 L (fv M b 1 :: S) M else none := (rn_at k_X11_after_33).trans rnx_ite
theorem k_X11_after_36 : lk 36 C_X11_after = some (.invokestatic 183, (146, 2, 0, 616)) := by decide +kernel
theorem s_X11_after_36 {ca : Nat → List Value → tM → tO} {M : tM} {L : tL} {v1 v2 : Value} : rn ca C_X11_after 36 L [v2, v1] M = rnk ca C_X11_after 39 L [] (ca m_X11_move [v1, v2] M) := (rn_at k_X11_after_36).trans rfl
theorem k_X11_after_39 : lk 39 C_X11_after = some (.iload 4, (0, 0, 0, 0)) := by decide +kernel
theorem s_X11_after_39 {ca : Nat → List Value → tM → tO} {M : tM} {a0 a1 a2 a3 a5 : Option Value} {x : Int32} {S : List Value} : rn ca C_X11_after 39 [a0, a1, a2, a3, some (.int x), a5] S M = rn ca C_X11_after 41 [a0, a1, a2, a3, some (.int x), a5] (.int x :: S) M := (rn_at k_X11_after_39).trans rfl
theorem k_X11_after_41 : lk 41 C_X11_after = some (.iconst (-1), (0, 0, 0, 0)) := by decide +kernel
theorem s_X11_after_41 {ca : Nat → List Value → tM → tO} {M : tM} {L : tL} {S : List Value} : rn ca C_X11_after 41 L S M = rn ca C_X11_after 42 L (.int (iI (-1)) :: S) M := (rn_at k_X11_after_41).trans rfl
theorem k_X11_after_42 : lk 42 C_X11_after = some (.if_icmp .eq 12, (54, 0, 0, 0)) := by decide +kernel
theorem s_X11_after_42 {ca : Nat → List Value → tM → tO} {M : tM} {L : tL} {x y : Int32} {S : List Value} : rn ca C_X11_after 42 L (.int y :: .int x :: S) M = if x = y then rn ca C_X11_after 54 L S M else rn ca C_X11_after 45 L S M := (rn_at k_X11_after_42).trans rnx_ite
theorem k_X11_after_45 : lk 45 C_X11_after = some (.aload_n 0, (0, 0, 0, 0)) := by decide +kernel
theorem s_X11_after_45 {ca : Nat → List Value → tM → tO} {M : tM} {a1 a2 a3 a4 a5 : Option Value} {x : Nat} {S : List Value} : rn ca C_X11_after 45 [some (.ref x), a1, a2, a3, a4, a5] S M = rn ca C_X11_after 46 [some (.ref x), a1, a2, a3, a4, a5] (.ref x :: S) M := (rn_at k_X11_after_45).trans rfl
theorem k_X11_after_46 : lk 46 C_X11_after = some (.bipush (-6), (0, 0, 0, 0)) := by decide +kernel
theorem s_X11_after_46 {ca : Nat → List Value → tM → tO} {M : tM} {L : tL} {S : List Value} : rn ca C_X11_after 46 L S M = rn ca C_X11_after 48 L (.int (iI (-6)) :: S) M := (rn_at k_X11_after_46).trans rfl
theorem k_X11_after_48 : lk 48 C_X11_after = some (.invokevirtual 83, (144, 1, 11, 200)) := by decide +kernel
theorem s_X11_after_48 {ca : Nat → List Value → tM → tO} {M : tM} {L : tL} {v1 : Value} {b : Nat} : rn ca C_X11_after 48 L [v1, .ref b] M = if clsO b = some 11 then rnk ca C_X11_after 51 L [] (ca m_X11_refuse [.ref b, v1] M) else none := (rn_at k_X11_after_48).trans rnx_ite
theorem k_X11_after_51 : lk 51 C_X11_after = some (.goto 28, (79, 0, 0, 0)) := by decide +kernel
theorem s_X11_after_51 {ca : Nat → List Value → tM → tO} {M : tM} {L : tL} {S : List Value} : rn ca C_X11_after 51 L S M = rn ca C_X11_after 79 L S M := (rn_at k_X11_after_51).trans rfl
theorem k_X11_after_54 : lk 54 C_X11_after = some (.iload_n 3, (0, 0, 0, 0)) := by decide +kernel
theorem s_X11_after_54 {ca : Nat → List Value → tM → tO} {M : tM} {a0 a1 a2 a4 a5 : Option Value} {x : Int32} {S : List Value} : rn ca C_X11_after 54 [a0, a1, a2, some (.int x), a4, a5] S M = rn ca C_X11_after 55 [a0, a1, a2, some (.int x), a4, a5] (.int x :: S) M := (rn_at k_X11_after_54).trans rfl
theorem k_X11_after_55 : lk 55 C_X11_after = some (.ifCond .ne 10, (65, 0, 0, 0)) := by decide +kernel
theorem s_X11_after_55 {ca : Nat → List Value → tM → tO} {M : tM} {L : tL} {x : Int32} {S : List Value} : rn ca C_X11_after 55 L (.int x :: S) M = if ¬ x = iI 0 then rn ca C_X11_after 65 L S M else rn ca C_X11_after 58 L S M := (rn_at k_X11_after_55).trans rnx_ite
theorem k_X11_after_58 : lk 58 C_X11_after = some (.aload_n 0, (0, 0, 0, 0)) := by decide +kernel
theorem s_X11_after_58 {ca : Nat → List Value → tM → tO} {M : tM} {a1 a2 a3 a4 a5 : Option Value} {x : Nat} {S : List Value} : rn ca C_X11_after 58 [some (.ref x), a1, a2, a3, a4, a5] S M = rn ca C_X11_after 59 [some (.ref x), a1, a2, a3, a4, a5] (.ref x :: S) M := (rn_at k_X11_after_58).trans rfl
theorem k_X11_after_59 : lk 59 C_X11_after = some (.getfield 290, (11, 19, 0, 1093)) := by decide +kernel
theorem s_X11_after_59 {ca : Nat → List Value → tM → tO} {M : tM} {L : tL} {b : Nat} {S : List Value} : rn ca C_X11_after 59 L (.ref b :: S) M = if clsO b = some 11 then rn ca C_X11_after 62 L (fv M b 19 :: S) M else none := (rn_at k_X11_after_59).trans rnx_ite
theorem k_X11_after_62 : lk 62 C_X11_after = some (.goto 17, (79, 0, 0, 0)) := by decide +kernel
theorem s_X11_after_62 {ca : Nat → List Value → tM → tO} {M : tM} {L : tL} {S : List Value} : rn ca C_X11_after 62 L S M = rn ca C_X11_after 79 L S M := (rn_at k_X11_after_62).trans rfl
theorem k_X11_after_65 : lk 65 C_X11_after = some (.iload_n 3, (0, 0, 0, 0)) := by decide +kernel
theorem s_X11_after_65 {ca : Nat → List Value → tM → tO} {M : tM} {a0 a1 a2 a4 a5 : Option Value} {x : Int32} {S : List Value} : rn ca C_X11_after 65 [a0, a1, a2, some (.int x), a4, a5] S M = rn ca C_X11_after 66 [a0, a1, a2, some (.int x), a4, a5] (.int x :: S) M := (rn_at k_X11_after_65).trans rfl
theorem k_X11_after_66 : lk 66 C_X11_after = some (.iconst 1, (0, 0, 0, 0)) := by decide +kernel
theorem s_X11_after_66 {ca : Nat → List Value → tM → tO} {M : tM} {L : tL} {S : List Value} : rn ca C_X11_after 66 L S M = rn ca C_X11_after 67 L (.int (iI 1) :: S) M := (rn_at k_X11_after_66).trans rfl
theorem k_X11_after_67 : lk 67 C_X11_after = some (.if_icmp .ne 10, (77, 0, 0, 0)) := by decide +kernel
theorem s_X11_after_67 {ca : Nat → List Value → tM → tO} {M : tM} {L : tL} {x y : Int32} {S : List Value} : rn ca C_X11_after 67 L (.int y :: .int x :: S) M = if ¬ x = y then rn ca C_X11_after 77 L S M else rn ca C_X11_after 70 L S M := (rn_at k_X11_after_67).trans rnx_ite
theorem k_X11_after_70 : lk 70 C_X11_after = some (.aload_n 0, (0, 0, 0, 0)) := by decide +kernel
theorem s_X11_after_70 {ca : Nat → List Value → tM → tO} {M : tM} {a1 a2 a3 a4 a5 : Option Value} {x : Nat} {S : List Value} : rn ca C_X11_after 70 [some (.ref x), a1, a2, a3, a4, a5] S M = rn ca C_X11_after 71 [some (.ref x), a1, a2, a3, a4, a5] (.ref x :: S) M := (rn_at k_X11_after_70).trans rfl
theorem k_X11_after_71 : lk 71 C_X11_after = some (.getfield 293, (11, 20, 0, 1094)) := by decide +kernel
theorem s_X11_after_71 {ca : Nat → List Value → tM → tO} {M : tM} {L : tL} {b : Nat} {S : List Value} : rn ca C_X11_after 71 L (.ref b :: S) M = if clsO b = some 11 then rn ca C_X11_after 74 L (fv M b 20 :: S) M else none := (rn_at k_X11_after_71).trans rnx_ite
theorem k_X11_after_74 : lk 74 C_X11_after = some (.goto 5, (79, 0, 0, 0)) := by decide +kernel
theorem s_X11_after_74 {ca : Nat → List Value → tM → tO} {M : tM} {L : tL} {S : List Value} : rn ca C_X11_after 74 L S M = rn ca C_X11_after 79 L S M := (rn_at k_X11_after_74).trans rfl
theorem k_X11_after_77 : lk 77 C_X11_after = some (.iload 5, (0, 0, 0, 0)) := by decide +kernel
theorem s_X11_after_77 {ca : Nat → List Value → tM → tO} {M : tM} {a0 a1 a2 a3 a4 : Option Value} {x : Int32} {S : List Value} : rn ca C_X11_after 77 [a0, a1, a2, a3, a4, some (.int x)] S M = rn ca C_X11_after 79 [a0, a1, a2, a3, a4, some (.int x)] (.int x :: S) M := (rn_at k_X11_after_77).trans rfl
theorem k_X11_after_79 : lk 79 C_X11_after = some (.ireturn, (0, 0, 0, 0)) := by decide +kernel
theorem s_X11_after_79 {ca : Nat → List Value → tM → tO} {M : tM} {L : tL} {x : Int32} : rn ca C_X11_after 79 L [.int x] M = some (some (.int x), M) := (rn_at k_X11_after_79).trans rfl
theorem k_X11_done_0 : lk 0 C_X11_done = some (.aload_n 0, (0, 0, 0, 0)) := by decide +kernel
theorem s_X11_done_0 {ca : Nat → List Value → tM → tO} {M : tM} {a1 a2 a3 : Option Value} {x : Nat} {S : List Value} : rn ca C_X11_done 0 [some (.ref x), a1, a2, a3] S M = rn ca C_X11_done 1 [some (.ref x), a1, a2, a3] (.ref x :: S) M := (rn_at k_X11_done_0).trans rfl
theorem k_X11_done_1 : lk 1 C_X11_done = some (.iload_n 1, (0, 0, 0, 0)) := by decide +kernel
theorem s_X11_done_1 {ca : Nat → List Value → tM → tO} {M : tM} {a0 a2 a3 : Option Value} {x : Int32} {S : List Value} : rn ca C_X11_done 1 [a0, some (.int x), a2, a3] S M = rn ca C_X11_done 2 [a0, some (.int x), a2, a3] (.int x :: S) M := (rn_at k_X11_done_1).trans rfl
theorem k_X11_done_2 : lk 2 C_X11_done = some (.iload_n 2, (0, 0, 0, 0)) := by decide +kernel
theorem s_X11_done_2 {ca : Nat → List Value → tM → tO} {M : tM} {a0 a1 a3 : Option Value} {x : Int32} {S : List Value} : rn ca C_X11_done 2 [a0, a1, some (.int x), a3] S M = rn ca C_X11_done 3 [a0, a1, some (.int x), a3] (.int x :: S) M := (rn_at k_X11_done_2).trans rfl
theorem k_X11_done_3 : lk 3 C_X11_done = some (.invokevirtual 300, (219, 2, 11, 1085)) := by decide +kernel
theorem s_X11_done_3 {ca : Nat → List Value → tM → tO} {M : tM} {L : tL} {v1 v2 : Value} {b : Nat} : rn ca C_X11_done 3 L [v2, v1, .ref b] M = if clsO b = some 11 then rnk ca C_X11_done 6 L [] (ca m_X11_legs [.ref b, v1, v2] M) else none := (rn_at k_X11_done_3).trans rnx_ite
theorem k_X11_done_6 : lk 6 C_X11_done = some (.istore_n 3, (0, 0, 0, 0)) := by decide +kernel
theorem s_X11_done_6 {ca : Nat → List Value → tM → tO} {M : tM} {a0 a1 a2 a3 : Option Value} {x : Int32} {S : List Value} : rn ca C_X11_done 6 [a0, a1, a2, a3] (.int x :: S) M = rn ca C_X11_done 7 [a0, a1, a2, some (.int x)] S M := (rn_at k_X11_done_6).trans rfl
theorem k_X11_done_7 : lk 7 C_X11_done = some (.iload_n 3, (0, 0, 0, 0)) := by decide +kernel
theorem s_X11_done_7 {ca : Nat → List Value → tM → tO} {M : tM} {a0 a1 a2 : Option Value} {x : Int32} {S : List Value} : rn ca C_X11_done 7 [a0, a1, a2, some (.int x)] S M = rn ca C_X11_done 8 [a0, a1, a2, some (.int x)] (.int x :: S) M := (rn_at k_X11_done_7).trans rfl
theorem k_X11_done_8 : lk 8 C_X11_done = some (.ifCond .ge 9, (17, 0, 0, 0)) := by decide +kernel
theorem s_X11_done_8 {ca : Nat → List Value → tM → tO} {M : tM} {L : tL} {x : Int32} {S : List Value} : rn ca C_X11_done 8 L (.int x :: S) M = if iI 0 ≤ x then rn ca C_X11_done 17 L S M else rn ca C_X11_done 11 L S M := (rn_at k_X11_done_8).trans rnx_ite
theorem k_X11_done_11 : lk 11 C_X11_done = some (.aload_n 0, (0, 0, 0, 0)) := by decide +kernel
theorem s_X11_done_11 {ca : Nat → List Value → tM → tO} {M : tM} {a1 a2 a3 : Option Value} {x : Nat} {S : List Value} : rn ca C_X11_done 11 [some (.ref x), a1, a2, a3] S M = rn ca C_X11_done 12 [some (.ref x), a1, a2, a3] (.ref x :: S) M := (rn_at k_X11_done_11).trans rfl
theorem k_X11_done_12 : lk 12 C_X11_done = some (.iload_n 3, (0, 0, 0, 0)) := by decide +kernel
theorem s_X11_done_12 {ca : Nat → List Value → tM → tO} {M : tM} {a0 a1 a2 : Option Value} {x : Int32} {S : List Value} : rn ca C_X11_done 12 [a0, a1, a2, some (.int x)] S M = rn ca C_X11_done 13 [a0, a1, a2, some (.int x)] (.int x :: S) M := (rn_at k_X11_done_12).trans rfl
theorem k_X11_done_13 : lk 13 C_X11_done = some (.invokevirtual 83, (144, 1, 11, 200)) := by decide +kernel
theorem s_X11_done_13 {ca : Nat → List Value → tM → tO} {M : tM} {L : tL} {v1 : Value} {b : Nat} : rn ca C_X11_done 13 L [v1, .ref b] M = if clsO b = some 11 then rnk ca C_X11_done 16 L [] (ca m_X11_refuse [.ref b, v1] M) else none := (rn_at k_X11_done_13).trans rnx_ite
theorem k_X11_done_16 : lk 16 C_X11_done = some (.ireturn, (0, 0, 0, 0)) := by decide +kernel
theorem s_X11_done_16 {ca : Nat → List Value → tM → tO} {M : tM} {L : tL} {x : Int32} : rn ca C_X11_done 16 L [.int x] M = some (some (.int x), M) := (rn_at k_X11_done_16).trans rfl
theorem k_X11_done_17 : lk 17 C_X11_done = some (.aload_n 0, (0, 0, 0, 0)) := by decide +kernel
theorem s_X11_done_17 {ca : Nat → List Value → tM → tO} {M : tM} {a1 a2 a3 : Option Value} {x : Nat} {S : List Value} : rn ca C_X11_done 17 [some (.ref x), a1, a2, a3] S M = rn ca C_X11_done 18 [some (.ref x), a1, a2, a3] (.ref x :: S) M := (rn_at k_X11_done_17).trans rfl
theorem k_X11_done_18 : lk 18 C_X11_done = some (.getfield 17, (11, 1, 0, 147)) := by decide +kernel
theorem s_X11_done_18 {ca : Nat → List Value → tM → tO} {M : tM} {L : tL} {b : Nat} {S : List Value} : rn ca C_X11_done 18 L (.ref b :: S) M = if clsO b = some 11 then rn ca C_X11_done 21 L (fv M b 1 :: S) M else none := (rn_at k_X11_done_18).trans rnx_ite
theorem k_X11_done_21 : lk 21 C_X11_done = some (.aload_n 0, (0, 0, 0, 0)) := by decide +kernel
theorem s_X11_done_21 {ca : Nat → List Value → tM → tO} {M : tM} {a1 a2 a3 : Option Value} {x : Nat} {S : List Value} : rn ca C_X11_done 21 [some (.ref x), a1, a2, a3] S M = rn ca C_X11_done 22 [some (.ref x), a1, a2, a3] (.ref x :: S) M := (rn_at k_X11_done_21).trans rfl
theorem k_X11_done_22 : lk 22 C_X11_done = some (.getfield 23, (11, 3, 0, 149)) := by decide +kernel
theorem s_X11_done_22 {ca : Nat → List Value → tM → tO} {M : tM} {L : tL} {b : Nat} {S : List Value} : rn ca C_X11_done 22 L (.ref b :: S) M = if clsO b = some 11 then rn ca C_X11_done 25 L (fv M b 3 :: S) M else none := (rn_at k_X11_done_22).trans rnx_ite
theorem k_X11_done_25 : lk 25 C_X11_done = some (.invokestatic 183, (146, 2, 0, 616)) := by decide +kernel
theorem s_X11_done_25 {ca : Nat → List Value → tM → tO} {M : tM} {L : tL} {v1 v2 : Value} : rn ca C_X11_done 25 L [v2, v1] M = rnk ca C_X11_done 28 L [] (ca m_X11_move [v1, v2] M) := (rn_at k_X11_done_25).trans rfl
theorem k_X11_done_28 : lk 28 C_X11_done = some (.aload_n 0, (0, 0, 0, 0)) := by decide +kernel
theorem s_X11_done_28 {ca : Nat → List Value → tM → tO} {M : tM} {a1 a2 a3 : Option Value} {x : Nat} {S : List Value} : rn ca C_X11_done 28 [some (.ref x), a1, a2, a3] S M = rn ca C_X11_done 29 [some (.ref x), a1, a2, a3] (.ref x :: S) M := (rn_at k_X11_done_28).trans rfl
theorem k_X11_done_29 : lk 29 C_X11_done = some (.iload_n 1, (0, 0, 0, 0)) := by decide +kernel
theorem s_X11_done_29 {ca : Nat → List Value → tM → tO} {M : tM} {a0 a2 a3 : Option Value} {x : Int32} {S : List Value} : rn ca C_X11_done 29 [a0, some (.int x), a2, a3] S M = rn ca C_X11_done 30 [a0, some (.int x), a2, a3] (.int x :: S) M := (rn_at k_X11_done_29).trans rfl
theorem k_X11_done_30 : lk 30 C_X11_done = some (.iload_n 2, (0, 0, 0, 0)) := by decide +kernel
theorem s_X11_done_30 {ca : Nat → List Value → tM → tO} {M : tM} {a0 a1 a3 : Option Value} {x : Int32} {S : List Value} : rn ca C_X11_done 30 [a0, a1, some (.int x), a3] S M = rn ca C_X11_done 31 [a0, a1, some (.int x), a3] (.int x :: S) M := (rn_at k_X11_done_30).trans rfl
theorem k_X11_done_31 : lk 31 C_X11_done = some (.invokevirtual 303, (221, 2, 11, 1089)) := by decide +kernel
theorem s_X11_done_31 {ca : Nat → List Value → tM → tO} {M : tM} {L : tL} {v1 v2 : Value} {b : Nat} : rn ca C_X11_done 31 L [v2, v1, .ref b] M = if clsO b = some 11 then rnk ca C_X11_done 34 L [] (ca m_X11_day [.ref b, v1, v2] M) else none := (rn_at k_X11_done_31).trans rnx_ite
theorem k_X11_done_34 : lk 34 C_X11_done = some (.iconst (-1), (0, 0, 0, 0)) := by decide +kernel
theorem s_X11_done_34 {ca : Nat → List Value → tM → tO} {M : tM} {L : tL} {S : List Value} : rn ca C_X11_done 34 L S M = rn ca C_X11_done 35 L (.int (iI (-1)) :: S) M := (rn_at k_X11_done_34).trans rfl
theorem k_X11_done_35 : lk 35 C_X11_done = some (.if_icmp .eq 21, (56, 0, 0, 0)) := by decide +kernel
theorem s_X11_done_35 {ca : Nat → List Value → tM → tO} {M : tM} {L : tL} {x y : Int32} {S : List Value} : rn ca C_X11_done 35 L (.int y :: .int x :: S) M = if x = y then rn ca C_X11_done 56 L S M else rn ca C_X11_done 38 L S M := (rn_at k_X11_done_35).trans rnx_ite
theorem k_X11_done_38 : lk 38 C_X11_done = some (.aload_n 0, (0, 0, 0, 0)) := by decide +kernel
theorem s_X11_done_38 {ca : Nat → List Value → tM → tO} {M : tM} {a1 a2 a3 : Option Value} {x : Nat} {S : List Value} : rn ca C_X11_done 38 [some (.ref x), a1, a2, a3] S M = rn ca C_X11_done 39 [some (.ref x), a1, a2, a3] (.ref x :: S) M := (rn_at k_X11_done_38).trans rfl
theorem k_X11_done_39 : lk 39 C_X11_done = some (.getfield 23, (11, 3, 0, 149)) := by decide +kernel
theorem s_X11_done_39 {ca : Nat → List Value → tM → tO} {M : tM} {L : tL} {b : Nat} {S : List Value} : rn ca C_X11_done 39 L (.ref b :: S) M = if clsO b = some 11 then rn ca C_X11_done 42 L (fv M b 3 :: S) M else none := (rn_at k_X11_done_39).trans rnx_ite
theorem k_X11_done_42 : lk 42 C_X11_done = some (.aload_n 0, (0, 0, 0, 0)) := by decide +kernel
theorem s_X11_done_42 {ca : Nat → List Value → tM → tO} {M : tM} {a1 a2 a3 : Option Value} {x : Nat} {S : List Value} : rn ca C_X11_done 42 [some (.ref x), a1, a2, a3] S M = rn ca C_X11_done 43 [some (.ref x), a1, a2, a3] (.ref x :: S) M := (rn_at k_X11_done_42).trans rfl
theorem k_X11_done_43 : lk 43 C_X11_done = some (.getfield 17, (11, 1, 0, 147)) := by decide +kernel
theorem s_X11_done_43 {ca : Nat → List Value → tM → tO} {M : tM} {L : tL} {b : Nat} {S : List Value} : rn ca C_X11_done 43 L (.ref b :: S) M = if clsO b = some 11 then rn ca C_X11_done 46 L (fv M b 1 :: S) M else none := (rn_at k_X11_done_43).trans rnx_ite
theorem k_X11_done_46 : lk 46 C_X11_done = some (.invokestatic 183, (146, 2, 0, 616)) := by decide +kernel
theorem s_X11_done_46 {ca : Nat → List Value → tM → tO} {M : tM} {L : tL} {v1 v2 : Value} : rn ca C_X11_done 46 L [v2, v1] M = rnk ca C_X11_done 49 L [] (ca m_X11_move [v1, v2] M) := (rn_at k_X11_done_46).trans rfl
theorem k_X11_done_49 : lk 49 C_X11_done = some (.aload_n 0, (0, 0, 0, 0)) := by decide +kernel
theorem s_X11_done_49 {ca : Nat → List Value → tM → tO} {M : tM} {a1 a2 a3 : Option Value} {x : Nat} {S : List Value} : rn ca C_X11_done 49 [some (.ref x), a1, a2, a3] S M = rn ca C_X11_done 50 [some (.ref x), a1, a2, a3] (.ref x :: S) M := (rn_at k_X11_done_49).trans rfl
theorem k_X11_done_50 : lk 50 C_X11_done = some (.bipush (-6), (0, 0, 0, 0)) := by decide +kernel
theorem s_X11_done_50 {ca : Nat → List Value → tM → tO} {M : tM} {L : tL} {S : List Value} : rn ca C_X11_done 50 L S M = rn ca C_X11_done 52 L (.int (iI (-6)) :: S) M := (rn_at k_X11_done_50).trans rfl
theorem k_X11_done_52 : lk 52 C_X11_done = some (.invokevirtual 83, (144, 1, 11, 200)) := by decide +kernel
theorem s_X11_done_52 {ca : Nat → List Value → tM → tO} {M : tM} {L : tL} {v1 : Value} {b : Nat} : rn ca C_X11_done 52 L [v1, .ref b] M = if clsO b = some 11 then rnk ca C_X11_done 55 L [] (ca m_X11_refuse [.ref b, v1] M) else none := (rn_at k_X11_done_52).trans rnx_ite
theorem k_X11_done_55 : lk 55 C_X11_done = some (.ireturn, (0, 0, 0, 0)) := by decide +kernel
theorem s_X11_done_55 {ca : Nat → List Value → tM → tO} {M : tM} {L : tL} {x : Int32} : rn ca C_X11_done 55 L [.int x] M = some (some (.int x), M) := (rn_at k_X11_done_55).trans rfl
theorem k_X11_done_56 : lk 56 C_X11_done = some (.aload_n 0, (0, 0, 0, 0)) := by decide +kernel
theorem s_X11_done_56 {ca : Nat → List Value → tM → tO} {M : tM} {a1 a2 a3 : Option Value} {x : Nat} {S : List Value} : rn ca C_X11_done 56 [some (.ref x), a1, a2, a3] S M = rn ca C_X11_done 57 [some (.ref x), a1, a2, a3] (.ref x :: S) M := (rn_at k_X11_done_56).trans rfl
theorem k_X11_done_57 : lk 57 C_X11_done = some (.getfield 17, (11, 1, 0, 147)) := by decide +kernel
theorem s_X11_done_57 {ca : Nat → List Value → tM → tO} {M : tM} {L : tL} {b : Nat} {S : List Value} : rn ca C_X11_done 57 L (.ref b :: S) M = if clsO b = some 11 then rn ca C_X11_done 60 L (fv M b 1 :: S) M else none := (rn_at k_X11_done_57).trans rnx_ite
theorem k_X11_done_60 : lk 60 C_X11_done = some (.bipush 112, (0, 0, 0, 0)) := by decide +kernel
theorem s_X11_done_60 {ca : Nat → List Value → tM → tO} {M : tM} {L : tL} {S : List Value} : rn ca C_X11_done 60 L S M = rn ca C_X11_done 62 L (.int (iI 112) :: S) M := (rn_at k_X11_done_60).trans rfl
theorem k_X11_done_62 : lk 62 C_X11_done = some (.iaload, (0, 0, 0, 0)) := by decide +kernel
theorem s_X11_done_62 {ca : Nat → List Value → tM → tO} {M : tM} {L : tL} {a : Nat} {i : Int32} {S : List Value} : rn ca C_X11_done 62 L (.int i :: .ref a :: S) M = if (akind a = 0 ∨ akind a = 6 ∨ akind a = 7) ∧ inb i (alen M a) then rn ca C_X11_done 63 L (.int (M.1 a i.toInt.toNat) :: S) M else none := (rn_at k_X11_done_62).trans rnx_ite
theorem k_X11_done_63 : lk 63 C_X11_done = some (.ireturn, (0, 0, 0, 0)) := by decide +kernel
theorem s_X11_done_63 {ca : Nat → List Value → tM → tO} {M : tM} {L : tL} {x : Int32} : rn ca C_X11_done 63 L [.int x] M = some (some (.int x), M) := (rn_at k_X11_done_63).trans rfl
theorem k_X11_send_0 : lk 0 C_X11_send = some (.aload_n 0, (0, 0, 0, 0)) := by decide +kernel
theorem s_X11_send_0 {ca : Nat → List Value → tM → tO} {M : tM} {a1 a2 a3 a4 : Option Value} {x : Nat} {S : List Value} : rn ca C_X11_send 0 [some (.ref x), a1, a2, a3, a4] S M = rn ca C_X11_send 1 [some (.ref x), a1, a2, a3, a4] (.ref x :: S) M := (rn_at k_X11_send_0).trans rfl
theorem k_X11_send_1 : lk 1 C_X11_send = some (.iload_n 1, (0, 0, 0, 0)) := by decide +kernel
theorem s_X11_send_1 {ca : Nat → List Value → tM → tO} {M : tM} {a0 a2 a3 a4 : Option Value} {x : Int32} {S : List Value} : rn ca C_X11_send 1 [a0, some (.int x), a2, a3, a4] S M = rn ca C_X11_send 2 [a0, some (.int x), a2, a3, a4] (.int x :: S) M := (rn_at k_X11_send_1).trans rfl
theorem k_X11_send_2 : lk 2 C_X11_send = some (.i2l, (0, 0, 0, 0)) := by decide +kernel
theorem s_X11_send_2 {ca : Nat → List Value → tM → tO} {M : tM} {L : tL} {x : Int32} {S : List Value} : rn ca C_X11_send 2 L (.int x :: S) M = rn ca C_X11_send 3 L (.long x.toInt64 :: S) M := (rn_at k_X11_send_2).trans rfl
theorem k_X11_send_3 : lk 3 C_X11_send = some (.invokevirtual 114, (149, 1, 11, 302)) := by decide +kernel
theorem s_X11_send_3 {ca : Nat → List Value → tM → tO} {M : tM} {L : tL} {v1 : Value} {b : Nat} : rn ca C_X11_send 3 L [v1, .ref b] M = if clsO b = some 11 then rnk ca C_X11_send 6 L [] (ca m_X11_isCapsule [.ref b, v1] M) else none := (rn_at k_X11_send_3).trans rnx_ite
theorem k_X11_send_6 : lk 6 C_X11_send = some (.ifCond .eq 12, (18, 0, 0, 0)) := by decide +kernel
theorem s_X11_send_6 {ca : Nat → List Value → tM → tO} {M : tM} {L : tL} {x : Int32} {S : List Value} : rn ca C_X11_send 6 L (.int x :: S) M = if x = iI 0 then rn ca C_X11_send 18 L S M else rn ca C_X11_send 9 L S M := (rn_at k_X11_send_6).trans rnx_ite
theorem k_X11_send_9 : lk 9 C_X11_send = some (.aload_n 0, (0, 0, 0, 0)) := by decide +kernel
theorem s_X11_send_9 {ca : Nat → List Value → tM → tO} {M : tM} {a1 a2 a3 a4 : Option Value} {x : Nat} {S : List Value} : rn ca C_X11_send 9 [some (.ref x), a1, a2, a3, a4] S M = rn ca C_X11_send 10 [some (.ref x), a1, a2, a3, a4] (.ref x :: S) M := (rn_at k_X11_send_9).trans rfl
theorem k_X11_send_10 : lk 10 C_X11_send = some (.iload_n 2, (0, 0, 0, 0)) := by decide +kernel
theorem s_X11_send_10 {ca : Nat → List Value → tM → tO} {M : tM} {a0 a1 a3 a4 : Option Value} {x : Int32} {S : List Value} : rn ca C_X11_send 10 [a0, a1, some (.int x), a3, a4] S M = rn ca C_X11_send 11 [a0, a1, some (.int x), a3, a4] (.int x :: S) M := (rn_at k_X11_send_10).trans rfl
theorem k_X11_send_11 : lk 11 C_X11_send = some (.i2l, (0, 0, 0, 0)) := by decide +kernel
theorem s_X11_send_11 {ca : Nat → List Value → tM → tO} {M : tM} {L : tL} {x : Int32} {S : List Value} : rn ca C_X11_send 11 L (.int x :: S) M = rn ca C_X11_send 12 L (.long x.toInt64 :: S) M := (rn_at k_X11_send_11).trans rfl
theorem k_X11_send_12 : lk 12 C_X11_send = some (.invokevirtual 95, (147, 1, 11, 397)) := by decide +kernel
theorem s_X11_send_12 {ca : Nat → List Value → tM → tO} {M : tM} {L : tL} {v1 : Value} {b : Nat} : rn ca C_X11_send 12 L [v1, .ref b] M = if clsO b = some 11 then rnk ca C_X11_send 15 L [] (ca m_X11_isDesk [.ref b, v1] M) else none := (rn_at k_X11_send_12).trans rnx_ite
theorem k_X11_send_15 : lk 15 C_X11_send = some (.ifCond .ne 9, (24, 0, 0, 0)) := by decide +kernel
theorem s_X11_send_15 {ca : Nat → List Value → tM → tO} {M : tM} {L : tL} {x : Int32} {S : List Value} : rn ca C_X11_send 15 L (.int x :: S) M = if ¬ x = iI 0 then rn ca C_X11_send 24 L S M else rn ca C_X11_send 18 L S M := (rn_at k_X11_send_15).trans rnx_ite
theorem k_X11_send_18 : lk 18 C_X11_send = some (.aload_n 0, (0, 0, 0, 0)) := by decide +kernel
theorem s_X11_send_18 {ca : Nat → List Value → tM → tO} {M : tM} {a1 a2 a3 a4 : Option Value} {x : Nat} {S : List Value} : rn ca C_X11_send 18 [some (.ref x), a1, a2, a3, a4] S M = rn ca C_X11_send 19 [some (.ref x), a1, a2, a3, a4] (.ref x :: S) M := (rn_at k_X11_send_18).trans rfl
theorem k_X11_send_19 : lk 19 C_X11_send = some (.iconst (-1), (0, 0, 0, 0)) := by decide +kernel
theorem s_X11_send_19 {ca : Nat → List Value → tM → tO} {M : tM} {L : tL} {S : List Value} : rn ca C_X11_send 19 L S M = rn ca C_X11_send 20 L (.int (iI (-1)) :: S) M := (rn_at k_X11_send_19).trans rfl
theorem k_X11_send_20 : lk 20 C_X11_send = some (.invokevirtual 83, (144, 1, 11, 200)) := by decide +kernel
theorem s_X11_send_20 {ca : Nat → List Value → tM → tO} {M : tM} {L : tL} {v1 : Value} {b : Nat} : rn ca C_X11_send 20 L [v1, .ref b] M = if clsO b = some 11 then rnk ca C_X11_send 23 L [] (ca m_X11_refuse [.ref b, v1] M) else none := (rn_at k_X11_send_20).trans rnx_ite
theorem k_X11_send_23 : lk 23 C_X11_send = some (.ireturn, (0, 0, 0, 0)) := by decide +kernel
theorem s_X11_send_23 {ca : Nat → List Value → tM → tO} {M : tM} {L : tL} {x : Int32} : rn ca C_X11_send 23 L [.int x] M = some (some (.int x), M) := (rn_at k_X11_send_23).trans rfl
theorem k_X11_send_24 : lk 24 C_X11_send = some (.aload_n 0, (0, 0, 0, 0)) := by decide +kernel
theorem s_X11_send_24 {ca : Nat → List Value → tM → tO} {M : tM} {a1 a2 a3 a4 : Option Value} {x : Nat} {S : List Value} : rn ca C_X11_send 24 [some (.ref x), a1, a2, a3, a4] S M = rn ca C_X11_send 25 [some (.ref x), a1, a2, a3, a4] (.ref x :: S) M := (rn_at k_X11_send_24).trans rfl
theorem k_X11_send_25 : lk 25 C_X11_send = some (.iload_n 1, (0, 0, 0, 0)) := by decide +kernel
theorem s_X11_send_25 {ca : Nat → List Value → tM → tO} {M : tM} {a0 a2 a3 a4 : Option Value} {x : Int32} {S : List Value} : rn ca C_X11_send 25 [a0, some (.int x), a2, a3, a4] S M = rn ca C_X11_send 26 [a0, some (.int x), a2, a3, a4] (.int x :: S) M := (rn_at k_X11_send_25).trans rfl
theorem k_X11_send_26 : lk 26 C_X11_send = some (.iload_n 2, (0, 0, 0, 0)) := by decide +kernel
theorem s_X11_send_26 {ca : Nat → List Value → tM → tO} {M : tM} {a0 a1 a3 a4 : Option Value} {x : Int32} {S : List Value} : rn ca C_X11_send 26 [a0, a1, some (.int x), a3, a4] S M = rn ca C_X11_send 27 [a0, a1, some (.int x), a3, a4] (.int x :: S) M := (rn_at k_X11_send_26).trans rfl
theorem k_X11_send_27 : lk 27 C_X11_send = some (.iload_n 3, (0, 0, 0, 0)) := by decide +kernel
theorem s_X11_send_27 {ca : Nat → List Value → tM → tO} {M : tM} {a0 a1 a2 a4 : Option Value} {x : Int32} {S : List Value} : rn ca C_X11_send 27 [a0, a1, a2, some (.int x), a4] S M = rn ca C_X11_send 28 [a0, a1, a2, some (.int x), a4] (.int x :: S) M := (rn_at k_X11_send_27).trans rfl
theorem k_X11_send_28 : lk 28 C_X11_send = some (.invokevirtual 296, (220, 3, 11, 1095)) := by decide +kernel
theorem s_X11_send_28 {ca : Nat → List Value → tM → tO} {M : tM} {L : tL} {v1 v2 v3 : Value} {b : Nat} : rn ca C_X11_send 28 L [v3, v2, v1, .ref b] M = if clsO b = some 11 then rnk ca C_X11_send 31 L [] (ca m_X11_leg [.ref b, v1, v2, v3] M) else none := (rn_at k_X11_send_28).trans rnx_ite
theorem k_X11_send_31 : lk 31 C_X11_send = some (.istore 4, (0, 0, 0, 0)) := by decide +kernel
theorem s_X11_send_31 {ca : Nat → List Value → tM → tO} {M : tM} {a0 a1 a2 a3 a4 : Option Value} {x : Int32} {S : List Value} : rn ca C_X11_send 31 [a0, a1, a2, a3, a4] (.int x :: S) M = rn ca C_X11_send 33 [a0, a1, a2, a3, some (.int x)] S M := (rn_at k_X11_send_31).trans rfl
theorem k_X11_send_33 : lk 33 C_X11_send = some (.iload 4, (0, 0, 0, 0)) := by decide +kernel
theorem s_X11_send_33 {ca : Nat → List Value → tM → tO} {M : tM} {a0 a1 a2 a3 : Option Value} {x : Int32} {S : List Value} : rn ca C_X11_send 33 [a0, a1, a2, a3, some (.int x)] S M = rn ca C_X11_send 35 [a0, a1, a2, a3, some (.int x)] (.int x :: S) M := (rn_at k_X11_send_33).trans rfl
theorem k_X11_send_35 : lk 35 C_X11_send = some (.iconst (-1), (0, 0, 0, 0)) := by decide +kernel
theorem s_X11_send_35 {ca : Nat → List Value → tM → tO} {M : tM} {L : tL} {S : List Value} : rn ca C_X11_send 35 L S M = rn ca C_X11_send 36 L (.int (iI (-1)) :: S) M := (rn_at k_X11_send_35).trans rfl
theorem k_X11_send_36 : lk 36 C_X11_send = some (.if_icmp .ne 12, (48, 0, 0, 0)) := by decide +kernel
theorem s_X11_send_36 {ca : Nat → List Value → tM → tO} {M : tM} {L : tL} {x y : Int32} {S : List Value} : rn ca C_X11_send 36 L (.int y :: .int x :: S) M = if ¬ x = y then rn ca C_X11_send 48 L S M else rn ca C_X11_send 39 L S M := (rn_at k_X11_send_36).trans rnx_ite
theorem k_X11_send_39 : lk 39 C_X11_send = some (.aload_n 0, (0, 0, 0, 0)) := by decide +kernel
theorem s_X11_send_39 {ca : Nat → List Value → tM → tO} {M : tM} {a1 a2 a3 a4 : Option Value} {x : Nat} {S : List Value} : rn ca C_X11_send 39 [some (.ref x), a1, a2, a3, a4] S M = rn ca C_X11_send 40 [some (.ref x), a1, a2, a3, a4] (.ref x :: S) M := (rn_at k_X11_send_39).trans rfl
theorem k_X11_send_40 : lk 40 C_X11_send = some (.bipush (-6), (0, 0, 0, 0)) := by decide +kernel
theorem s_X11_send_40 {ca : Nat → List Value → tM → tO} {M : tM} {L : tL} {S : List Value} : rn ca C_X11_send 40 L S M = rn ca C_X11_send 42 L (.int (iI (-6)) :: S) M := (rn_at k_X11_send_40).trans rfl
theorem k_X11_send_42 : lk 42 C_X11_send = some (.invokevirtual 83, (144, 1, 11, 200)) := by decide +kernel
theorem s_X11_send_42 {ca : Nat → List Value → tM → tO} {M : tM} {L : tL} {v1 : Value} {b : Nat} : rn ca C_X11_send 42 L [v1, .ref b] M = if clsO b = some 11 then rnk ca C_X11_send 45 L [] (ca m_X11_refuse [.ref b, v1] M) else none := (rn_at k_X11_send_42).trans rnx_ite
theorem k_X11_send_45 : lk 45 C_X11_send = some (.goto 5, (50, 0, 0, 0)) := by decide +kernel
theorem s_X11_send_45 {ca : Nat → List Value → tM → tO} {M : tM} {L : tL} {S : List Value} : rn ca C_X11_send 45 L S M = rn ca C_X11_send 50 L S M := (rn_at k_X11_send_45).trans rfl
theorem k_X11_send_48 : lk 48 C_X11_send = some (.iload 4, (0, 0, 0, 0)) := by decide +kernel
theorem s_X11_send_48 {ca : Nat → List Value → tM → tO} {M : tM} {a0 a1 a2 a3 : Option Value} {x : Int32} {S : List Value} : rn ca C_X11_send 48 [a0, a1, a2, a3, some (.int x)] S M = rn ca C_X11_send 50 [a0, a1, a2, a3, some (.int x)] (.int x :: S) M := (rn_at k_X11_send_48).trans rfl
theorem k_X11_send_50 : lk 50 C_X11_send = some (.ireturn, (0, 0, 0, 0)) := by decide +kernel
theorem s_X11_send_50 {ca : Nat → List Value → tM → tO} {M : tM} {L : tL} {x : Int32} : rn ca C_X11_send 50 L [.int x] M = some (some (.int x), M) := (rn_at k_X11_send_50).trans rfl
theorem k_X11_draw_0 : lk 0 C_X11_draw = some (.aload_n 0, (0, 0, 0, 0)) := by decide +kernel
theorem s_X11_draw_0 {ca : Nat → List Value → tM → tO} {M : tM} {a1 : Option Value} {x : Nat} {S : List Value} : rn ca C_X11_draw 0 [some (.ref x), a1] S M = rn ca C_X11_draw 1 [some (.ref x), a1] (.ref x :: S) M := (rn_at k_X11_draw_0).trans rfl
theorem k_X11_draw_1 : lk 1 C_X11_draw = some (.getfield 17, (11, 1, 0, 147)) := by decide +kernel
theorem s_X11_draw_1 {ca : Nat → List Value → tM → tO} {M : tM} {L : tL} {b : Nat} {S : List Value} : rn ca C_X11_draw 1 L (.ref b :: S) M = if clsO b = some 11 then rn ca C_X11_draw 4 L (fv M b 1 :: S) M else none := (rn_at k_X11_draw_1).trans rnx_ite
theorem k_X11_draw_4 : lk 4 C_X11_draw = some (.bipush 113, (0, 0, 0, 0)) := by decide +kernel
theorem s_X11_draw_4 {ca : Nat → List Value → tM → tO} {M : tM} {L : tL} {S : List Value} : rn ca C_X11_draw 4 L S M = rn ca C_X11_draw 6 L (.int (iI 113) :: S) M := (rn_at k_X11_draw_4).trans rfl
theorem k_X11_draw_6 : lk 6 C_X11_draw = some (.aload_n 0, (0, 0, 0, 0)) := by decide +kernel
theorem s_X11_draw_6 {ca : Nat → List Value → tM → tO} {M : tM} {a1 : Option Value} {x : Nat} {S : List Value} : rn ca C_X11_draw 6 [some (.ref x), a1] S M = rn ca C_X11_draw 7 [some (.ref x), a1] (.ref x :: S) M := (rn_at k_X11_draw_6).trans rfl
theorem k_X11_draw_7 : lk 7 C_X11_draw = some (.getfield 17, (11, 1, 0, 147)) := by decide +kernel
theorem s_X11_draw_7 {ca : Nat → List Value → tM → tO} {M : tM} {L : tL} {b : Nat} {S : List Value} : rn ca C_X11_draw 7 L (.ref b :: S) M = if clsO b = some 11 then rn ca C_X11_draw 10 L (fv M b 1 :: S) M else none := (rn_at k_X11_draw_7).trans rnx_ite
theorem k_X11_draw_10 : lk 10 C_X11_draw = some (.bipush 113, (0, 0, 0, 0)) := by decide +kernel
theorem s_X11_draw_10 {ca : Nat → List Value → tM → tO} {M : tM} {L : tL} {S : List Value} : rn ca C_X11_draw 10 L S M = rn ca C_X11_draw 12 L (.int (iI 113) :: S) M := (rn_at k_X11_draw_10).trans rfl
theorem k_X11_draw_12 : lk 12 C_X11_draw = some (.iaload, (0, 0, 0, 0)) := by decide +kernel
theorem s_X11_draw_12 {ca : Nat → List Value → tM → tO} {M : tM} {L : tL} {a : Nat} {i : Int32} {S : List Value} : rn ca C_X11_draw 12 L (.int i :: .ref a :: S) M = if (akind a = 0 ∨ akind a = 6 ∨ akind a = 7) ∧ inb i (alen M a) then rn ca C_X11_draw 13 L (.int (M.1 a i.toInt.toNat) :: S) M else none := (rn_at k_X11_draw_12).trans rnx_ite
theorem k_X11_draw_13 : lk 13 C_X11_draw = some (.ldc_w 306, (0, 0, 1103515245, 1153)) := by decide +kernel
theorem s_X11_draw_13 {ca : Nat → List Value → tM → tO} {M : tM} {L : tL} {S : List Value} : rn ca C_X11_draw 13 L S M = rn ca C_X11_draw 16 L (.int (iI 1103515245) :: S) M := (rn_at k_X11_draw_13).trans rfl
theorem k_X11_draw_16 : lk 16 C_X11_draw = some (.imul, (0, 0, 0, 0)) := by decide +kernel
theorem s_X11_draw_16 {ca : Nat → List Value → tM → tO} {M : tM} {L : tL} {x y : Int32} {S : List Value} : rn ca C_X11_draw 16 L (.int y :: .int x :: S) M = rn ca C_X11_draw 17 L (.int (x * y) :: S) M := (rn_at k_X11_draw_16).trans rfl
theorem k_X11_draw_17 : lk 17 C_X11_draw = some (.sipush 12345, (0, 0, 0, 0)) := by decide +kernel
theorem s_X11_draw_17 {ca : Nat → List Value → tM → tO} {M : tM} {L : tL} {S : List Value} : rn ca C_X11_draw 17 L S M = rn ca C_X11_draw 20 L (.int (iI 12345) :: S) M := (rn_at k_X11_draw_17).trans rfl
theorem k_X11_draw_20 : lk 20 C_X11_draw = some (.iadd, (0, 0, 0, 0)) := by decide +kernel
theorem s_X11_draw_20 {ca : Nat → List Value → tM → tO} {M : tM} {L : tL} {x y : Int32} {S : List Value} : rn ca C_X11_draw 20 L (.int y :: .int x :: S) M = rn ca C_X11_draw 21 L (.int (x + y) :: S) M := (rn_at k_X11_draw_20).trans rfl
theorem k_X11_draw_21 : lk 21 C_X11_draw = some (.iastore, (0, 0, 0, 0)) := by decide +kernel
theorem s_X11_draw_21 {ca : Nat → List Value → tM → tO} {M : tM} {L : tL} {a : Nat} {i x : Int32} {S : List Value} : rn ca C_X11_draw 21 L (.int x :: .int i :: .ref a :: S) M = if akind a = 0 ∧ inb i (alen M a) then rn ca C_X11_draw 22 L S (sI M a i.toInt.toNat x) else none := (rn_at k_X11_draw_21).trans rnx_ite
theorem k_X11_draw_22 : lk 22 C_X11_draw = some (.aload_n 0, (0, 0, 0, 0)) := by decide +kernel
theorem s_X11_draw_22 {ca : Nat → List Value → tM → tO} {M : tM} {a1 : Option Value} {x : Nat} {S : List Value} : rn ca C_X11_draw 22 [some (.ref x), a1] S M = rn ca C_X11_draw 23 [some (.ref x), a1] (.ref x :: S) M := (rn_at k_X11_draw_22).trans rfl
theorem k_X11_draw_23 : lk 23 C_X11_draw = some (.getfield 17, (11, 1, 0, 147)) := by decide +kernel
theorem s_X11_draw_23 {ca : Nat → List Value → tM → tO} {M : tM} {L : tL} {b : Nat} {S : List Value} : rn ca C_X11_draw 23 L (.ref b :: S) M = if clsO b = some 11 then rn ca C_X11_draw 26 L (fv M b 1 :: S) M else none := (rn_at k_X11_draw_23).trans rnx_ite
theorem k_X11_draw_26 : lk 26 C_X11_draw = some (.bipush 113, (0, 0, 0, 0)) := by decide +kernel
theorem s_X11_draw_26 {ca : Nat → List Value → tM → tO} {M : tM} {L : tL} {S : List Value} : rn ca C_X11_draw 26 L S M = rn ca C_X11_draw 28 L (.int (iI 113) :: S) M := (rn_at k_X11_draw_26).trans rfl
theorem k_X11_draw_28 : lk 28 C_X11_draw = some (.iaload, (0, 0, 0, 0)) := by decide +kernel
theorem s_X11_draw_28 {ca : Nat → List Value → tM → tO} {M : tM} {L : tL} {a : Nat} {i : Int32} {S : List Value} : rn ca C_X11_draw 28 L (.int i :: .ref a :: S) M = if (akind a = 0 ∨ akind a = 6 ∨ akind a = 7) ∧ inb i (alen M a) then rn ca C_X11_draw 29 L (.int (M.1 a i.toInt.toNat) :: S) M else none := (rn_at k_X11_draw_28).trans rnx_ite
theorem k_X11_draw_29 : lk 29 C_X11_draw = some (.bipush 16, (0, 0, 0, 0)) := by decide +kernel
theorem s_X11_draw_29 {ca : Nat → List Value → tM → tO} {M : tM} {L : tL} {S : List Value} : rn ca C_X11_draw 29 L S M = rn ca C_X11_draw 31 L (.int (iI 16) :: S) M := (rn_at k_X11_draw_29).trans rfl
theorem k_X11_draw_31 : lk 31 C_X11_draw = some (.iushr, (0, 0, 0, 0)) := by decide +kernel
theorem s_X11_draw_31 {ca : Nat → List Value → tM → tO} {M : tM} {L : tL} {x y : Int32} {S : List Value} : rn ca C_X11_draw 31 L (.int y :: .int x :: S) M = rn ca C_X11_draw 32 L (.int (ius x y) :: S) M := (rn_at k_X11_draw_31).trans rfl
theorem k_X11_draw_32 : lk 32 C_X11_draw = some (.iload_n 1, (0, 0, 0, 0)) := by decide +kernel
theorem s_X11_draw_32 {ca : Nat → List Value → tM → tO} {M : tM} {a0 : Option Value} {x : Int32} {S : List Value} : rn ca C_X11_draw 32 [a0, some (.int x)] S M = rn ca C_X11_draw 33 [a0, some (.int x)] (.int x :: S) M := (rn_at k_X11_draw_32).trans rfl
theorem k_X11_draw_33 : lk 33 C_X11_draw = some (.irem, (0, 0, 0, 0)) := by decide +kernel
theorem s_X11_draw_33 {ca : Nat → List Value → tM → tO} {M : tM} {L : tL} {x y : Int32} {S : List Value} : rn ca C_X11_draw 33 L (.int y :: .int x :: S) M = if y = iI 0 then none else rn ca C_X11_draw 34 L (.int (irm x y) :: S) M := (rn_at k_X11_draw_33).trans rnx_ite
theorem k_X11_draw_34 : lk 34 C_X11_draw = some (.ireturn, (0, 0, 0, 0)) := by decide +kernel
theorem s_X11_draw_34 {ca : Nat → List Value → tM → tO} {M : tM} {L : tL} {x : Int32} : rn ca C_X11_draw 34 L [.int x] M = some (some (.int x), M) := (rn_at k_X11_draw_34).trans rfl
theorem k_X11_months_0 : lk 0 C_X11_months = some (.aload_n 0, (0, 0, 0, 0)) := by decide +kernel
theorem s_X11_months_0 {ca : Nat → List Value → tM → tO} {M : tM} {a1 a2 a3 a4 : Option Value} {x : Nat} {S : List Value} : rn ca C_X11_months 0 [some (.ref x), a1, a2, a3, a4] S M = rn ca C_X11_months 1 [some (.ref x), a1, a2, a3, a4] (.ref x :: S) M := (rn_at k_X11_months_0).trans rfl
theorem k_X11_months_1 : lk 1 C_X11_months = some (.getfield 17, (11, 1, 0, 147)) := by decide +kernel
theorem s_X11_months_1 {ca : Nat → List Value → tM → tO} {M : tM} {L : tL} {b : Nat} {S : List Value} : rn ca C_X11_months 1 L (.ref b :: S) M = if clsO b = some 11 then rn ca C_X11_months 4 L (fv M b 1 :: S) M else none := (rn_at k_X11_months_1).trans rnx_ite
theorem k_X11_months_4 : lk 4 C_X11_months = some (.bipush 110, (0, 0, 0, 0)) := by decide +kernel
theorem s_X11_months_4 {ca : Nat → List Value → tM → tO} {M : tM} {L : tL} {S : List Value} : rn ca C_X11_months 4 L S M = rn ca C_X11_months 6 L (.int (iI 110) :: S) M := (rn_at k_X11_months_4).trans rfl
theorem k_X11_months_6 : lk 6 C_X11_months = some (.iaload, (0, 0, 0, 0)) := by decide +kernel
theorem s_X11_months_6 {ca : Nat → List Value → tM → tO} {M : tM} {L : tL} {a : Nat} {i : Int32} {S : List Value} : rn ca C_X11_months 6 L (.int i :: .ref a :: S) M = if (akind a = 0 ∨ akind a = 6 ∨ akind a = 7) ∧ inb i (alen M a) then rn ca C_X11_months 7 L (.int (M.1 a i.toInt.toNat) :: S) M else none := (rn_at k_X11_months_6).trans rnx_ite
theorem k_X11_months_7 : lk 7 C_X11_months = some (.ifCond .ne 10, (17, 0, 0, 0)) := by decide +kernel
theorem s_X11_months_7 {ca : Nat → List Value → tM → tO} {M : tM} {L : tL} {x : Int32} {S : List Value} : rn ca C_X11_months 7 L (.int x :: S) M = if ¬ x = iI 0 then rn ca C_X11_months 17 L S M else rn ca C_X11_months 10 L S M := (rn_at k_X11_months_7).trans rnx_ite
theorem k_X11_months_10 : lk 10 C_X11_months = some (.aload_n 0, (0, 0, 0, 0)) := by decide +kernel
theorem s_X11_months_10 {ca : Nat → List Value → tM → tO} {M : tM} {a1 a2 a3 a4 : Option Value} {x : Nat} {S : List Value} : rn ca C_X11_months 10 [some (.ref x), a1, a2, a3, a4] S M = rn ca C_X11_months 11 [some (.ref x), a1, a2, a3, a4] (.ref x :: S) M := (rn_at k_X11_months_10).trans rfl
theorem k_X11_months_11 : lk 11 C_X11_months = some (.bipush (-5), (0, 0, 0, 0)) := by decide +kernel
theorem s_X11_months_11 {ca : Nat → List Value → tM → tO} {M : tM} {L : tL} {S : List Value} : rn ca C_X11_months 11 L S M = rn ca C_X11_months 13 L (.int (iI (-5)) :: S) M := (rn_at k_X11_months_11).trans rfl
theorem k_X11_months_13 : lk 13 C_X11_months = some (.invokevirtual 83, (144, 1, 11, 200)) := by decide +kernel
theorem s_X11_months_13 {ca : Nat → List Value → tM → tO} {M : tM} {L : tL} {v1 : Value} {b : Nat} : rn ca C_X11_months 13 L [v1, .ref b] M = if clsO b = some 11 then rnk ca C_X11_months 16 L [] (ca m_X11_refuse [.ref b, v1] M) else none := (rn_at k_X11_months_13).trans rnx_ite
theorem k_X11_months_16 : lk 16 C_X11_months = some (.ireturn, (0, 0, 0, 0)) := by decide +kernel
theorem s_X11_months_16 {ca : Nat → List Value → tM → tO} {M : tM} {L : tL} {x : Int32} : rn ca C_X11_months 16 L [.int x] M = some (some (.int x), M) := (rn_at k_X11_months_16).trans rfl
theorem k_X11_months_17 : lk 17 C_X11_months = some (.iload_n 1, (0, 0, 0, 0)) := by decide +kernel
theorem s_X11_months_17 {ca : Nat → List Value → tM → tO} {M : tM} {a0 a2 a3 a4 : Option Value} {x : Int32} {S : List Value} : rn ca C_X11_months 17 [a0, some (.int x), a2, a3, a4] S M = rn ca C_X11_months 18 [a0, some (.int x), a2, a3, a4] (.int x :: S) M := (rn_at k_X11_months_17).trans rfl
theorem k_X11_months_18 : lk 18 C_X11_months = some (.i2l, (0, 0, 0, 0)) := by decide +kernel
theorem s_X11_months_18 {ca : Nat → List Value → tM → tO} {M : tM} {L : tL} {x : Int32} {S : List Value} : rn ca C_X11_months 18 L (.int x :: S) M = rn ca C_X11_months 19 L (.long x.toInt64 :: S) M := (rn_at k_X11_months_18).trans rfl
theorem k_X11_months_19 : lk 19 C_X11_months = some (.lconst 1, (0, 0, 0, 0)) := by decide +kernel
theorem s_X11_months_19 {ca : Nat → List Value → tM → tO} {M : tM} {L : tL} {S : List Value} : rn ca C_X11_months 19 L S M = rn ca C_X11_months 20 L (.long (jJ 1) :: S) M := (rn_at k_X11_months_19).trans rfl
theorem k_X11_months_20 : lk 20 C_X11_months = some (.ldc2_w 255, (0, 0, 60, 859)) := by decide +kernel
theorem s_X11_months_20 {ca : Nat → List Value → tM → tO} {M : tM} {L : tL} {S : List Value} : rn ca C_X11_months 20 L S M = rn ca C_X11_months 23 L (.long (jJ 60) :: S) M := (rn_at k_X11_months_20).trans rfl
theorem k_X11_months_23 : lk 23 C_X11_months = some (.invokestatic 87, (143, 3, 0, 197)) := by decide +kernel
theorem s_X11_months_23 {ca : Nat → List Value → tM → tO} {M : tM} {L : tL} {v1 v2 v3 : Value} : rn ca C_X11_months 23 L [v3, v2, v1] M = rnk ca C_X11_months 26 L [] (ca m_X11_isIn [v1, v2, v3] M) := (rn_at k_X11_months_23).trans rfl
theorem k_X11_months_26 : lk 26 C_X11_months = some (.ifCond .ne 10, (36, 0, 0, 0)) := by decide +kernel
theorem s_X11_months_26 {ca : Nat → List Value → tM → tO} {M : tM} {L : tL} {x : Int32} {S : List Value} : rn ca C_X11_months 26 L (.int x :: S) M = if ¬ x = iI 0 then rn ca C_X11_months 36 L S M else rn ca C_X11_months 29 L S M := (rn_at k_X11_months_26).trans rnx_ite
theorem k_X11_months_29 : lk 29 C_X11_months = some (.aload_n 0, (0, 0, 0, 0)) := by decide +kernel
theorem s_X11_months_29 {ca : Nat → List Value → tM → tO} {M : tM} {a1 a2 a3 a4 : Option Value} {x : Nat} {S : List Value} : rn ca C_X11_months 29 [some (.ref x), a1, a2, a3, a4] S M = rn ca C_X11_months 30 [some (.ref x), a1, a2, a3, a4] (.ref x :: S) M := (rn_at k_X11_months_29).trans rfl
theorem k_X11_months_30 : lk 30 C_X11_months = some (.bipush (-6), (0, 0, 0, 0)) := by decide +kernel
theorem s_X11_months_30 {ca : Nat → List Value → tM → tO} {M : tM} {L : tL} {S : List Value} : rn ca C_X11_months 30 L S M = rn ca C_X11_months 32 L (.int (iI (-6)) :: S) M := (rn_at k_X11_months_30).trans rfl
theorem k_X11_months_32 : lk 32 C_X11_months = some (.invokevirtual 83, (144, 1, 11, 200)) := by decide +kernel
theorem s_X11_months_32 {ca : Nat → List Value → tM → tO} {M : tM} {L : tL} {v1 : Value} {b : Nat} : rn ca C_X11_months 32 L [v1, .ref b] M = if clsO b = some 11 then rnk ca C_X11_months 35 L [] (ca m_X11_refuse [.ref b, v1] M) else none := (rn_at k_X11_months_32).trans rnx_ite
theorem k_X11_months_35 : lk 35 C_X11_months = some (.ireturn, (0, 0, 0, 0)) := by decide +kernel
theorem s_X11_months_35 {ca : Nat → List Value → tM → tO} {M : tM} {L : tL} {x : Int32} : rn ca C_X11_months 35 L [.int x] M = some (some (.int x), M) := (rn_at k_X11_months_35).trans rfl
theorem k_X11_months_36 : lk 36 C_X11_months = some (.iconst 0, (0, 0, 0, 0)) := by decide +kernel
theorem s_X11_months_36 {ca : Nat → List Value → tM → tO} {M : tM} {L : tL} {S : List Value} : rn ca C_X11_months 36 L S M = rn ca C_X11_months 37 L (.int (iI 0) :: S) M := (rn_at k_X11_months_36).trans rfl
theorem k_X11_months_37 : lk 37 C_X11_months = some (.istore_n 2, (0, 0, 0, 0)) := by decide +kernel
theorem s_X11_months_37 {ca : Nat → List Value → tM → tO} {M : tM} {a0 a1 a2 a3 a4 : Option Value} {x : Int32} {S : List Value} : rn ca C_X11_months 37 [a0, a1, a2, a3, a4] (.int x :: S) M = rn ca C_X11_months 38 [a0, a1, some (.int x), a3, a4] S M := (rn_at k_X11_months_37).trans rfl
theorem k_X11_months_38 : lk 38 C_X11_months = some (.iload_n 2, (0, 0, 0, 0)) := by decide +kernel
theorem s_X11_months_38 {ca : Nat → List Value → tM → tO} {M : tM} {a0 a1 a3 a4 : Option Value} {x : Int32} {S : List Value} : rn ca C_X11_months 38 [a0, a1, some (.int x), a3, a4] S M = rn ca C_X11_months 39 [a0, a1, some (.int x), a3, a4] (.int x :: S) M := (rn_at k_X11_months_38).trans rfl
theorem k_X11_months_39 : lk 39 C_X11_months = some (.iload_n 1, (0, 0, 0, 0)) := by decide +kernel
theorem s_X11_months_39 {ca : Nat → List Value → tM → tO} {M : tM} {a0 a2 a3 a4 : Option Value} {x : Int32} {S : List Value} : rn ca C_X11_months 39 [a0, some (.int x), a2, a3, a4] S M = rn ca C_X11_months 40 [a0, some (.int x), a2, a3, a4] (.int x :: S) M := (rn_at k_X11_months_39).trans rfl
theorem k_X11_months_40 : lk 40 C_X11_months = some (.if_icmp .ge 56, (96, 0, 0, 0)) := by decide +kernel
theorem s_X11_months_40 {ca : Nat → List Value → tM → tO} {M : tM} {L : tL} {x y : Int32} {S : List Value} : rn ca C_X11_months 40 L (.int y :: .int x :: S) M = if y ≤ x then rn ca C_X11_months 96 L S M else rn ca C_X11_months 43 L S M := (rn_at k_X11_months_40).trans rnx_ite
theorem k_X11_months_43 : lk 43 C_X11_months = some (.aload_n 0, (0, 0, 0, 0)) := by decide +kernel
theorem s_X11_months_43 {ca : Nat → List Value → tM → tO} {M : tM} {a1 a2 a3 a4 : Option Value} {x : Nat} {S : List Value} : rn ca C_X11_months 43 [some (.ref x), a1, a2, a3, a4] S M = rn ca C_X11_months 44 [some (.ref x), a1, a2, a3, a4] (.ref x :: S) M := (rn_at k_X11_months_43).trans rfl
theorem k_X11_months_44 : lk 44 C_X11_months = some (.aload_n 0, (0, 0, 0, 0)) := by decide +kernel
theorem s_X11_months_44 {ca : Nat → List Value → tM → tO} {M : tM} {a1 a2 a3 a4 : Option Value} {x : Nat} {S : List Value} : rn ca C_X11_months 44 [some (.ref x), a1, a2, a3, a4] S M = rn ca C_X11_months 45 [some (.ref x), a1, a2, a3, a4] (.ref x :: S) M := (rn_at k_X11_months_44).trans rfl
theorem k_X11_months_45 : lk 45 C_X11_months = some (.getfield 17, (11, 1, 0, 147)) := by decide +kernel
theorem s_X11_months_45 {ca : Nat → List Value → tM → tO} {M : tM} {L : tL} {b : Nat} {S : List Value} : rn ca C_X11_months 45 L (.ref b :: S) M = if clsO b = some 11 then rn ca C_X11_months 48 L (fv M b 1 :: S) M else none := (rn_at k_X11_months_45).trans rnx_ite
theorem k_X11_months_48 : lk 48 C_X11_months = some (.bipush 110, (0, 0, 0, 0)) := by decide +kernel
theorem s_X11_months_48 {ca : Nat → List Value → tM → tO} {M : tM} {L : tL} {S : List Value} : rn ca C_X11_months 48 L S M = rn ca C_X11_months 50 L (.int (iI 110) :: S) M := (rn_at k_X11_months_48).trans rfl
theorem k_X11_months_50 : lk 50 C_X11_months = some (.iaload, (0, 0, 0, 0)) := by decide +kernel
theorem s_X11_months_50 {ca : Nat → List Value → tM → tO} {M : tM} {L : tL} {a : Nat} {i : Int32} {S : List Value} : rn ca C_X11_months 50 L (.int i :: .ref a :: S) M = if (akind a = 0 ∨ akind a = 6 ∨ akind a = 7) ∧ inb i (alen M a) then rn ca C_X11_months 51 L (.int (M.1 a i.toInt.toNat) :: S) M else none := (rn_at k_X11_months_50).trans rnx_ite
theorem k_X11_months_51 : lk 51 C_X11_months = some (.invokevirtual 307, (226, 1, 11, 1149)) := by decide +kernel
theorem s_X11_months_51 {ca : Nat → List Value → tM → tO} {M : tM} {L : tL} {v1 : Value} {b : Nat} : rn ca C_X11_months 51 L [v1, .ref b] M = if clsO b = some 11 then rnk ca C_X11_months 54 L [] (ca m_X11_draw [.ref b, v1] M) else none := (rn_at k_X11_months_51).trans rnx_ite
theorem k_X11_months_54 : lk 54 C_X11_months = some (.istore_n 3, (0, 0, 0, 0)) := by decide +kernel
theorem s_X11_months_54 {ca : Nat → List Value → tM → tO} {M : tM} {a0 a1 a2 a3 a4 : Option Value} {x : Int32} {S : List Value} : rn ca C_X11_months 54 [a0, a1, a2, a3, a4] (.int x :: S) M = rn ca C_X11_months 55 [a0, a1, a2, some (.int x), a4] S M := (rn_at k_X11_months_54).trans rfl
theorem k_X11_months_55 : lk 55 C_X11_months = some (.aload_n 0, (0, 0, 0, 0)) := by decide +kernel
theorem s_X11_months_55 {ca : Nat → List Value → tM → tO} {M : tM} {a1 a2 a3 a4 : Option Value} {x : Nat} {S : List Value} : rn ca C_X11_months 55 [some (.ref x), a1, a2, a3, a4] S M = rn ca C_X11_months 56 [some (.ref x), a1, a2, a3, a4] (.ref x :: S) M := (rn_at k_X11_months_55).trans rfl
theorem k_X11_months_56 : lk 56 C_X11_months = some (.aload_n 0, (0, 0, 0, 0)) := by decide +kernel
theorem s_X11_months_56 {ca : Nat → List Value → tM → tO} {M : tM} {a1 a2 a3 a4 : Option Value} {x : Nat} {S : List Value} : rn ca C_X11_months 56 [some (.ref x), a1, a2, a3, a4] S M = rn ca C_X11_months 57 [some (.ref x), a1, a2, a3, a4] (.ref x :: S) M := (rn_at k_X11_months_56).trans rfl
theorem k_X11_months_57 : lk 57 C_X11_months = some (.getfield 17, (11, 1, 0, 147)) := by decide +kernel
theorem s_X11_months_57 {ca : Nat → List Value → tM → tO} {M : tM} {L : tL} {b : Nat} {S : List Value} : rn ca C_X11_months 57 L (.ref b :: S) M = if clsO b = some 11 then rn ca C_X11_months 60 L (fv M b 1 :: S) M else none := (rn_at k_X11_months_57).trans rnx_ite
theorem k_X11_months_60 : lk 60 C_X11_months = some (.bipush 108, (0, 0, 0, 0)) := by decide +kernel
theorem s_X11_months_60 {ca : Nat → List Value → tM → tO} {M : tM} {L : tL} {S : List Value} : rn ca C_X11_months 60 L S M = rn ca C_X11_months 62 L (.int (iI 108) :: S) M := (rn_at k_X11_months_60).trans rfl
theorem k_X11_months_62 : lk 62 C_X11_months = some (.iaload, (0, 0, 0, 0)) := by decide +kernel
theorem s_X11_months_62 {ca : Nat → List Value → tM → tO} {M : tM} {L : tL} {a : Nat} {i : Int32} {S : List Value} : rn ca C_X11_months 62 L (.int i :: .ref a :: S) M = if (akind a = 0 ∨ akind a = 6 ∨ akind a = 7) ∧ inb i (alen M a) then rn ca C_X11_months 63 L (.int (M.1 a i.toInt.toNat) :: S) M else none := (rn_at k_X11_months_62).trans rnx_ite
theorem k_X11_months_63 : lk 63 C_X11_months = some (.invokevirtual 307, (226, 1, 11, 1149)) := by decide +kernel
theorem s_X11_months_63 {ca : Nat → List Value → tM → tO} {M : tM} {L : tL} {v1 : Value} {b : Nat} : rn ca C_X11_months 63 L [v1, .ref b] M = if clsO b = some 11 then rnk ca C_X11_months 66 L [] (ca m_X11_draw [.ref b, v1] M) else none := (rn_at k_X11_months_63).trans rnx_ite
theorem k_X11_months_66 : lk 66 C_X11_months = some (.istore 4, (0, 0, 0, 0)) := by decide +kernel
theorem s_X11_months_66 {ca : Nat → List Value → tM → tO} {M : tM} {a0 a1 a2 a3 a4 : Option Value} {x : Int32} {S : List Value} : rn ca C_X11_months 66 [a0, a1, a2, a3, a4] (.int x :: S) M = rn ca C_X11_months 68 [a0, a1, a2, a3, some (.int x)] S M := (rn_at k_X11_months_66).trans rfl
theorem k_X11_months_68 : lk 68 C_X11_months = some (.aload_n 0, (0, 0, 0, 0)) := by decide +kernel
theorem s_X11_months_68 {ca : Nat → List Value → tM → tO} {M : tM} {a1 a2 a3 a4 : Option Value} {x : Nat} {S : List Value} : rn ca C_X11_months 68 [some (.ref x), a1, a2, a3, a4] S M = rn ca C_X11_months 69 [some (.ref x), a1, a2, a3, a4] (.ref x :: S) M := (rn_at k_X11_months_68).trans rfl
theorem k_X11_months_69 : lk 69 C_X11_months = some (.iload_n 3, (0, 0, 0, 0)) := by decide +kernel
theorem s_X11_months_69 {ca : Nat → List Value → tM → tO} {M : tM} {a0 a1 a2 a4 : Option Value} {x : Int32} {S : List Value} : rn ca C_X11_months 69 [a0, a1, a2, some (.int x), a4] S M = rn ca C_X11_months 70 [a0, a1, a2, some (.int x), a4] (.int x :: S) M := (rn_at k_X11_months_69).trans rfl
theorem k_X11_months_70 : lk 70 C_X11_months = some (.iload 4, (0, 0, 0, 0)) := by decide +kernel
theorem s_X11_months_70 {ca : Nat → List Value → tM → tO} {M : tM} {a0 a1 a2 a3 : Option Value} {x : Int32} {S : List Value} : rn ca C_X11_months 70 [a0, a1, a2, a3, some (.int x)] S M = rn ca C_X11_months 72 [a0, a1, a2, a3, some (.int x)] (.int x :: S) M := (rn_at k_X11_months_70).trans rfl
theorem k_X11_months_72 : lk 72 C_X11_months = some (.aload_n 0, (0, 0, 0, 0)) := by decide +kernel
theorem s_X11_months_72 {ca : Nat → List Value → tM → tO} {M : tM} {a1 a2 a3 a4 : Option Value} {x : Nat} {S : List Value} : rn ca C_X11_months 72 [some (.ref x), a1, a2, a3, a4] S M = rn ca C_X11_months 73 [some (.ref x), a1, a2, a3, a4] (.ref x :: S) M := (rn_at k_X11_months_72).trans rfl
theorem k_X11_months_73 : lk 73 C_X11_months = some (.iconst 2, (0, 0, 0, 0)) := by decide +kernel
theorem s_X11_months_73 {ca : Nat → List Value → tM → tO} {M : tM} {L : tL} {S : List Value} : rn ca C_X11_months 73 L S M = rn ca C_X11_months 74 L (.int (iI 2) :: S) M := (rn_at k_X11_months_73).trans rfl
theorem k_X11_months_74 : lk 74 C_X11_months = some (.invokevirtual 307, (226, 1, 11, 1149)) := by decide +kernel
theorem s_X11_months_74 {ca : Nat → List Value → tM → tO} {M : tM} {L : tL} {v1 : Value} {r0 : Int32} {r1 : Int32} {r2 : Nat} {b : Nat} : rn ca C_X11_months 74 L [v1, .ref b, .int r0, .int r1, .ref r2] M = if clsO b = some 11 then rnk ca C_X11_months 77 L [.int r0, .int r1, .ref r2] (ca m_X11_draw [.ref b, v1] M) else none := (rn_at k_X11_months_74).trans rnx_ite
theorem k_X11_months_77 : lk 77 C_X11_months = some (.iconst 1, (0, 0, 0, 0)) := by decide +kernel
theorem s_X11_months_77 {ca : Nat → List Value → tM → tO} {M : tM} {L : tL} {S : List Value} : rn ca C_X11_months 77 L S M = rn ca C_X11_months 78 L (.int (iI 1) :: S) M := (rn_at k_X11_months_77).trans rfl
theorem k_X11_months_78 : lk 78 C_X11_months = some (.if_icmp .ne 7, (85, 0, 0, 0)) := by decide +kernel
theorem s_X11_months_78 {ca : Nat → List Value → tM → tO} {M : tM} {L : tL} {x y : Int32} {S : List Value} : rn ca C_X11_months 78 L (.int y :: .int x :: S) M = if ¬ x = y then rn ca C_X11_months 85 L S M else rn ca C_X11_months 81 L S M := (rn_at k_X11_months_78).trans rnx_ite
theorem k_X11_months_81 : lk 81 C_X11_months = some (.iconst 1, (0, 0, 0, 0)) := by decide +kernel
theorem s_X11_months_81 {ca : Nat → List Value → tM → tO} {M : tM} {L : tL} {S : List Value} : rn ca C_X11_months 81 L S M = rn ca C_X11_months 82 L (.int (iI 1) :: S) M := (rn_at k_X11_months_81).trans rfl
theorem k_X11_months_82 : lk 82 C_X11_months = some (.goto 4, (86, 0, 0, 0)) := by decide +kernel
theorem s_X11_months_82 {ca : Nat → List Value → tM → tO} {M : tM} {L : tL} {S : List Value} : rn ca C_X11_months 82 L S M = rn ca C_X11_months 86 L S M := (rn_at k_X11_months_82).trans rfl
theorem k_X11_months_85 : lk 85 C_X11_months = some (.iconst 0, (0, 0, 0, 0)) := by decide +kernel
theorem s_X11_months_85 {ca : Nat → List Value → tM → tO} {M : tM} {L : tL} {S : List Value} : rn ca C_X11_months 85 L S M = rn ca C_X11_months 86 L (.int (iI 0) :: S) M := (rn_at k_X11_months_85).trans rfl
theorem k_X11_months_86 : lk 86 C_X11_months = some (.invokevirtual 296, (220, 3, 11, 1095)) := by decide +kernel
theorem s_X11_months_86 {ca : Nat → List Value → tM → tO} {M : tM} {L : tL} {v1 v2 v3 : Value} {b : Nat} : rn ca C_X11_months 86 L [v3, v2, v1, .ref b] M = if clsO b = some 11 then rnk ca C_X11_months 89 L [] (ca m_X11_leg [.ref b, v1, v2, v3] M) else none := (rn_at k_X11_months_86).trans rnx_ite
theorem k_X11_months_89 : lk 89 C_X11_months = some (.pop, (0, 0, 0, 0)) := by decide +kernel
theorem s_X11_months_89 {ca : Nat → List Value → tM → tO} {M : tM} {L : tL} {x : Int32} {S : List Value} : rn ca C_X11_months 89 L (.int x :: S) M = rn ca C_X11_months 90 L S M := (rn_at k_X11_months_89).trans rfl
theorem k_X11_months_90 : lk 90 C_X11_months = some (.iinc 2 1, (0, 0, 0, 0)) := by decide +kernel
theorem s_X11_months_90 {ca : Nat → List Value → tM → tO} {M : tM} {a0 a1 a3 a4 : Option Value} {x : Int32} {S : List Value} : rn ca C_X11_months 90 [a0, a1, some (.int x), a3, a4] S M = rn ca C_X11_months 93 [a0, a1, some (.int (x + iI 1)), a3, a4] S M := (rn_at k_X11_months_90).trans rfl
theorem k_X11_months_93 : lk 93 C_X11_months = some (.goto (-55), (38, 0, 0, 0)) := by decide +kernel
theorem s_X11_months_93 {ca : Nat → List Value → tM → tO} {M : tM} {L : tL} {S : List Value} : rn ca C_X11_months 93 L S M = rn ca C_X11_months 38 L S M := (rn_at k_X11_months_93).trans rfl
theorem k_X11_months_96 : lk 96 C_X11_months = some (.aload_n 0, (0, 0, 0, 0)) := by decide +kernel
theorem s_X11_months_96 {ca : Nat → List Value → tM → tO} {M : tM} {a1 a2 a3 a4 : Option Value} {x : Nat} {S : List Value} : rn ca C_X11_months 96 [some (.ref x), a1, a2, a3, a4] S M = rn ca C_X11_months 97 [some (.ref x), a1, a2, a3, a4] (.ref x :: S) M := (rn_at k_X11_months_96).trans rfl
theorem k_X11_months_97 : lk 97 C_X11_months = some (.getfield 17, (11, 1, 0, 147)) := by decide +kernel
theorem s_X11_months_97 {ca : Nat → List Value → tM → tO} {M : tM} {L : tL} {b : Nat} {S : List Value} : rn ca C_X11_months 97 L (.ref b :: S) M = if clsO b = some 11 then rn ca C_X11_months 100 L (fv M b 1 :: S) M else none := (rn_at k_X11_months_97).trans rnx_ite
theorem k_X11_months_100 : lk 100 C_X11_months = some (.bipush 112, (0, 0, 0, 0)) := by decide +kernel
theorem s_X11_months_100 {ca : Nat → List Value → tM → tO} {M : tM} {L : tL} {S : List Value} : rn ca C_X11_months 100 L S M = rn ca C_X11_months 102 L (.int (iI 112) :: S) M := (rn_at k_X11_months_100).trans rfl
theorem k_X11_months_102 : lk 102 C_X11_months = some (.iaload, (0, 0, 0, 0)) := by decide +kernel
theorem s_X11_months_102 {ca : Nat → List Value → tM → tO} {M : tM} {L : tL} {a : Nat} {i : Int32} {S : List Value} : rn ca C_X11_months 102 L (.int i :: .ref a :: S) M = if (akind a = 0 ∨ akind a = 6 ∨ akind a = 7) ∧ inb i (alen M a) then rn ca C_X11_months 103 L (.int (M.1 a i.toInt.toNat) :: S) M else none := (rn_at k_X11_months_102).trans rnx_ite
theorem k_X11_months_103 : lk 103 C_X11_months = some (.ireturn, (0, 0, 0, 0)) := by decide +kernel
theorem s_X11_months_103 {ca : Nat → List Value → tM → tO} {M : tM} {L : tL} {x : Int32} : rn ca C_X11_months 103 L [.int x] M = some (some (.int x), M) := (rn_at k_X11_months_103).trans rfl
theorem k_X11_seed_0 : lk 0 C_X11_seed = some (.aload_n 0, (0, 0, 0, 0)) := by decide +kernel
theorem s_X11_seed_0 {ca : Nat → List Value → tM → tO} {M : tM} {a1 a2 : Option Value} {x : Nat} {S : List Value} : rn ca C_X11_seed 0 [some (.ref x), a1, a2] S M = rn ca C_X11_seed 1 [some (.ref x), a1, a2] (.ref x :: S) M := (rn_at k_X11_seed_0).trans rfl
theorem k_X11_seed_1 : lk 1 C_X11_seed = some (.getfield 17, (11, 1, 0, 147)) := by decide +kernel
theorem s_X11_seed_1 {ca : Nat → List Value → tM → tO} {M : tM} {L : tL} {b : Nat} {S : List Value} : rn ca C_X11_seed 1 L (.ref b :: S) M = if clsO b = some 11 then rn ca C_X11_seed 4 L (fv M b 1 :: S) M else none := (rn_at k_X11_seed_1).trans rnx_ite
theorem k_X11_seed_4 : lk 4 C_X11_seed = some (.bipush 113, (0, 0, 0, 0)) := by decide +kernel
theorem s_X11_seed_4 {ca : Nat → List Value → tM → tO} {M : tM} {L : tL} {S : List Value} : rn ca C_X11_seed 4 L S M = rn ca C_X11_seed 6 L (.int (iI 113) :: S) M := (rn_at k_X11_seed_4).trans rfl
theorem k_X11_seed_6 : lk 6 C_X11_seed = some (.iaload, (0, 0, 0, 0)) := by decide +kernel
theorem s_X11_seed_6 {ca : Nat → List Value → tM → tO} {M : tM} {L : tL} {a : Nat} {i : Int32} {S : List Value} : rn ca C_X11_seed 6 L (.int i :: .ref a :: S) M = if (akind a = 0 ∨ akind a = 6 ∨ akind a = 7) ∧ inb i (alen M a) then rn ca C_X11_seed 7 L (.int (M.1 a i.toInt.toNat) :: S) M else none := (rn_at k_X11_seed_6).trans rnx_ite
theorem k_X11_seed_7 : lk 7 C_X11_seed = some (.istore_n 2, (0, 0, 0, 0)) := by decide +kernel
theorem s_X11_seed_7 {ca : Nat → List Value → tM → tO} {M : tM} {a0 a1 a2 : Option Value} {x : Int32} {S : List Value} : rn ca C_X11_seed 7 [a0, a1, a2] (.int x :: S) M = rn ca C_X11_seed 8 [a0, a1, some (.int x)] S M := (rn_at k_X11_seed_7).trans rfl
theorem k_X11_seed_8 : lk 8 C_X11_seed = some (.aload_n 0, (0, 0, 0, 0)) := by decide +kernel
theorem s_X11_seed_8 {ca : Nat → List Value → tM → tO} {M : tM} {a1 a2 : Option Value} {x : Nat} {S : List Value} : rn ca C_X11_seed 8 [some (.ref x), a1, a2] S M = rn ca C_X11_seed 9 [some (.ref x), a1, a2] (.ref x :: S) M := (rn_at k_X11_seed_8).trans rfl
theorem k_X11_seed_9 : lk 9 C_X11_seed = some (.getfield 17, (11, 1, 0, 147)) := by decide +kernel
theorem s_X11_seed_9 {ca : Nat → List Value → tM → tO} {M : tM} {L : tL} {b : Nat} {S : List Value} : rn ca C_X11_seed 9 L (.ref b :: S) M = if clsO b = some 11 then rn ca C_X11_seed 12 L (fv M b 1 :: S) M else none := (rn_at k_X11_seed_9).trans rnx_ite
theorem k_X11_seed_12 : lk 12 C_X11_seed = some (.bipush 113, (0, 0, 0, 0)) := by decide +kernel
theorem s_X11_seed_12 {ca : Nat → List Value → tM → tO} {M : tM} {L : tL} {S : List Value} : rn ca C_X11_seed 12 L S M = rn ca C_X11_seed 14 L (.int (iI 113) :: S) M := (rn_at k_X11_seed_12).trans rfl
theorem k_X11_seed_14 : lk 14 C_X11_seed = some (.iload_n 1, (0, 0, 0, 0)) := by decide +kernel
theorem s_X11_seed_14 {ca : Nat → List Value → tM → tO} {M : tM} {a0 a2 : Option Value} {x : Int32} {S : List Value} : rn ca C_X11_seed 14 [a0, some (.int x), a2] S M = rn ca C_X11_seed 15 [a0, some (.int x), a2] (.int x :: S) M := (rn_at k_X11_seed_14).trans rfl
theorem k_X11_seed_15 : lk 15 C_X11_seed = some (.iastore, (0, 0, 0, 0)) := by decide +kernel
theorem s_X11_seed_15 {ca : Nat → List Value → tM → tO} {M : tM} {L : tL} {a : Nat} {i x : Int32} {S : List Value} : rn ca C_X11_seed 15 L (.int x :: .int i :: .ref a :: S) M = if akind a = 0 ∧ inb i (alen M a) then rn ca C_X11_seed 16 L S (sI M a i.toInt.toNat x) else none := (rn_at k_X11_seed_15).trans rnx_ite
theorem k_X11_seed_16 : lk 16 C_X11_seed = some (.iload_n 2, (0, 0, 0, 0)) := by decide +kernel
theorem s_X11_seed_16 {ca : Nat → List Value → tM → tO} {M : tM} {a0 a1 : Option Value} {x : Int32} {S : List Value} : rn ca C_X11_seed 16 [a0, a1, some (.int x)] S M = rn ca C_X11_seed 17 [a0, a1, some (.int x)] (.int x :: S) M := (rn_at k_X11_seed_16).trans rfl
theorem k_X11_seed_17 : lk 17 C_X11_seed = some (.ireturn, (0, 0, 0, 0)) := by decide +kernel
theorem s_X11_seed_17 {ca : Nat → List Value → tM → tO} {M : tM} {L : tL} {x : Int32} : rn ca C_X11_seed 17 L [.int x] M = some (some (.int x), M) := (rn_at k_X11_seed_17).trans rfl
theorem k_X11_began_0 : lk 0 C_X11_began = some (.aload_n 0, (0, 0, 0, 0)) := by decide +kernel
theorem s_X11_began_0 {ca : Nat → List Value → tM → tO} {M : tM} {a1 : Option Value} {x : Nat} {S : List Value} : rn ca C_X11_began 0 [some (.ref x), a1] S M = rn ca C_X11_began 1 [some (.ref x), a1] (.ref x :: S) M := (rn_at k_X11_began_0).trans rfl
theorem k_X11_began_1 : lk 1 C_X11_began = some (.getfield 310, (11, 22, 0, 1194)) := by decide +kernel
theorem s_X11_began_1 {ca : Nat → List Value → tM → tO} {M : tM} {L : tL} {b : Nat} {S : List Value} : rn ca C_X11_began 1 L (.ref b :: S) M = if clsO b = some 11 then rn ca C_X11_began 4 L (fv M b 22 :: S) M else none := (rn_at k_X11_began_1).trans rnx_ite
theorem k_X11_began_4 : lk 4 C_X11_began = some (.bipush 20, (0, 0, 0, 0)) := by decide +kernel
theorem s_X11_began_4 {ca : Nat → List Value → tM → tO} {M : tM} {L : tL} {S : List Value} : rn ca C_X11_began 4 L S M = rn ca C_X11_began 6 L (.int (iI 20) :: S) M := (rn_at k_X11_began_4).trans rfl
theorem k_X11_began_6 : lk 6 C_X11_began = some (.if_icmp .ge 13, (19, 0, 0, 0)) := by decide +kernel
theorem s_X11_began_6 {ca : Nat → List Value → tM → tO} {M : tM} {L : tL} {x y : Int32} {S : List Value} : rn ca C_X11_began 6 L (.int y :: .int x :: S) M = if y ≤ x then rn ca C_X11_began 19 L S M else rn ca C_X11_began 9 L S M := (rn_at k_X11_began_6).trans rnx_ite
theorem k_X11_began_9 : lk 9 C_X11_began = some (.aload_n 0, (0, 0, 0, 0)) := by decide +kernel
theorem s_X11_began_9 {ca : Nat → List Value → tM → tO} {M : tM} {a1 : Option Value} {x : Nat} {S : List Value} : rn ca C_X11_began 9 [some (.ref x), a1] S M = rn ca C_X11_began 10 [some (.ref x), a1] (.ref x :: S) M := (rn_at k_X11_began_9).trans rfl
theorem k_X11_began_10 : lk 10 C_X11_began = some (.getfield 80, (11, 21, 0, 163)) := by decide +kernel
theorem s_X11_began_10 {ca : Nat → List Value → tM → tO} {M : tM} {L : tL} {b : Nat} {S : List Value} : rn ca C_X11_began 10 L (.ref b :: S) M = if clsO b = some 11 then rn ca C_X11_began 13 L (fv M b 21 :: S) M else none := (rn_at k_X11_began_10).trans rnx_ite
theorem k_X11_began_13 : lk 13 C_X11_began = some (.aload_n 0, (0, 0, 0, 0)) := by decide +kernel
theorem s_X11_began_13 {ca : Nat → List Value → tM → tO} {M : tM} {a1 : Option Value} {x : Nat} {S : List Value} : rn ca C_X11_began 13 [some (.ref x), a1] S M = rn ca C_X11_began 14 [some (.ref x), a1] (.ref x :: S) M := (rn_at k_X11_began_13).trans rfl
theorem k_X11_began_14 : lk 14 C_X11_began = some (.getfield 310, (11, 22, 0, 1194)) := by decide +kernel
theorem s_X11_began_14 {ca : Nat → List Value → tM → tO} {M : tM} {L : tL} {b : Nat} {S : List Value} : rn ca C_X11_began 14 L (.ref b :: S) M = if clsO b = some 11 then rn ca C_X11_began 17 L (fv M b 22 :: S) M else none := (rn_at k_X11_began_14).trans rnx_ite
theorem k_X11_began_17 : lk 17 C_X11_began = some (.iload_n 1, (0, 0, 0, 0)) := by decide +kernel
theorem s_X11_began_17 {ca : Nat → List Value → tM → tO} {M : tM} {a0 : Option Value} {x : Int32} {S : List Value} : rn ca C_X11_began 17 [a0, some (.int x)] S M = rn ca C_X11_began 18 [a0, some (.int x)] (.int x :: S) M := (rn_at k_X11_began_17).trans rfl
theorem k_X11_began_18 : lk 18 C_X11_began = some (.iastore, (0, 0, 0, 0)) := by decide +kernel
theorem s_X11_began_18 {ca : Nat → List Value → tM → tO} {M : tM} {L : tL} {a : Nat} {i x : Int32} {S : List Value} : rn ca C_X11_began 18 L (.int x :: .int i :: .ref a :: S) M = if akind a = 0 ∧ inb i (alen M a) then rn ca C_X11_began 19 L S (sI M a i.toInt.toNat x) else none := (rn_at k_X11_began_18).trans rnx_ite
theorem k_X11_began_19 : lk 19 C_X11_began = some (.aload_n 0, (0, 0, 0, 0)) := by decide +kernel
theorem s_X11_began_19 {ca : Nat → List Value → tM → tO} {M : tM} {a1 : Option Value} {x : Nat} {S : List Value} : rn ca C_X11_began 19 [some (.ref x), a1] S M = rn ca C_X11_began 20 [some (.ref x), a1] (.ref x :: S) M := (rn_at k_X11_began_19).trans rfl
theorem k_X11_began_20 : lk 20 C_X11_began = some (.dup, (0, 0, 0, 0)) := by decide +kernel
theorem s_X11_began_20 {ca : Nat → List Value → tM → tO} {M : tM} {L : tL} {x : Nat} {S : List Value} : rn ca C_X11_began 20 L (.ref x :: S) M = rn ca C_X11_began 21 L (.ref x :: .ref x :: S) M := (rn_at k_X11_began_20).trans rfl
theorem s_X11_began_20b {ca : Nat → List Value → tM → tO} {M : tM} {L : tL} {x : Int32} {S : List Value} : rn ca C_X11_began 20 L (.int x :: S) M = rn ca C_X11_began 21 L (.int x :: .int x :: S) M := (rn_at k_X11_began_20).trans rfl
theorem k_X11_began_21 : lk 21 C_X11_began = some (.getfield 310, (11, 22, 0, 1194)) := by decide +kernel
theorem s_X11_began_21 {ca : Nat → List Value → tM → tO} {M : tM} {L : tL} {b : Nat} {S : List Value} : rn ca C_X11_began 21 L (.ref b :: S) M = if clsO b = some 11 then rn ca C_X11_began 24 L (fv M b 22 :: S) M else none := (rn_at k_X11_began_21).trans rnx_ite
theorem k_X11_began_24 : lk 24 C_X11_began = some (.iconst 1, (0, 0, 0, 0)) := by decide +kernel
theorem s_X11_began_24 {ca : Nat → List Value → tM → tO} {M : tM} {L : tL} {S : List Value} : rn ca C_X11_began 24 L S M = rn ca C_X11_began 25 L (.int (iI 1) :: S) M := (rn_at k_X11_began_24).trans rfl
theorem k_X11_began_25 : lk 25 C_X11_began = some (.iadd, (0, 0, 0, 0)) := by decide +kernel
theorem s_X11_began_25 {ca : Nat → List Value → tM → tO} {M : tM} {L : tL} {x y : Int32} {S : List Value} : rn ca C_X11_began 25 L (.int y :: .int x :: S) M = rn ca C_X11_began 26 L (.int (x + y) :: S) M := (rn_at k_X11_began_25).trans rfl
theorem k_X11_began_26 : lk 26 C_X11_began = some (.putfield 310, (11, 22, 0, 1194)) := by decide +kernel
theorem s_X11_began_26 {ca : Nat → List Value → tM → tO} {M : tM} {L : tL} {b : Nat} {v : Int32} {S : List Value} : rn ca C_X11_began 26 L (.int v :: .ref b :: S) M = if clsO b = some 11 then rn ca C_X11_began 29 L S (sI M b 22 v) else none := (rn_at k_X11_began_26).trans rnx_ite
theorem k_X11_began_29 : lk 29 C_X11_began = some (.return_, (0, 0, 0, 0)) := by decide +kernel
theorem s_X11_began_29 {ca : Nat → List Value → tM → tO} {M : tM} {L : tL} : rn ca C_X11_began 29 L [] M = some (none, M) := (rn_at k_X11_began_29).trans rfl
theorem k_X11_hisses_0 : lk 0 C_X11_hisses = some (.iload_n 1, (0, 0, 0, 0)) := by decide +kernel
theorem s_X11_hisses_0 {ca : Nat → List Value → tM → tO} {M : tM} {a0 a2 : Option Value} {x : Int32} {S : List Value} : rn ca C_X11_hisses 0 [a0, some (.int x), a2] S M = rn ca C_X11_hisses 1 [a0, some (.int x), a2] (.int x :: S) M := (rn_at k_X11_hisses_0).trans rfl
theorem k_X11_hisses_1 : lk 1 C_X11_hisses = some (.tableswitch 107 0 6 #[43, 56, 107, 74, 107, 107, 92], (0, 0, 0, 0)) := by decide +kernel
theorem s_X11_hisses_1 {ca : Nat → List Value → tM → tO} {M : tM} {L : tL} {x : Int32} {S : List Value} : rn ca C_X11_hisses 1 L (.int x :: S) M = if x = iI 0 then rn ca C_X11_hisses 44 L S M else if x = iI 1 then rn ca C_X11_hisses 57 L S M else if x = iI 2 then rn ca C_X11_hisses 108 L S M else if x = iI 3 then rn ca C_X11_hisses 75 L S M else if x = iI 4 then rn ca C_X11_hisses 108 L S M else if x = iI 5 then rn ca C_X11_hisses 108 L S M else if x = iI 6 then rn ca C_X11_hisses 93 L S M else rn ca C_X11_hisses 108 L S M := by rw [rn_at k_X11_hisses_1]; simp only [ta, tsw, lsw, rnx_ite]; rfl
theorem k_X11_hisses_44 : lk 44 C_X11_hisses = some (.aload_n 0, (0, 0, 0, 0)) := by decide +kernel
theorem s_X11_hisses_44 {ca : Nat → List Value → tM → tO} {M : tM} {a1 a2 : Option Value} {x : Nat} {S : List Value} : rn ca C_X11_hisses 44 [some (.ref x), a1, a2] S M = rn ca C_X11_hisses 45 [some (.ref x), a1, a2] (.ref x :: S) M := (rn_at k_X11_hisses_44).trans rfl
theorem k_X11_hisses_45 : lk 45 C_X11_hisses = some (.bipush 10, (0, 0, 0, 0)) := by decide +kernel
theorem s_X11_hisses_45 {ca : Nat → List Value → tM → tO} {M : tM} {L : tL} {S : List Value} : rn ca C_X11_hisses 45 L S M = rn ca C_X11_hisses 47 L (.int (iI 10) :: S) M := (rn_at k_X11_hisses_45).trans rfl
theorem k_X11_hisses_47 : lk 47 C_X11_hisses = some (.invokevirtual 313, (229, 1, 11, 1202)) := by decide +kernel
theorem s_X11_hisses_47 {ca : Nat → List Value → tM → tO} {M : tM} {L : tL} {v1 : Value} {b : Nat} : rn ca C_X11_hisses 47 L [v1, .ref b] M = if clsO b = some 11 then rnk ca C_X11_hisses 50 L [] (ca m_X11_began [.ref b, v1] M) else none := (rn_at k_X11_hisses_47).trans rnx_ite
theorem k_X11_hisses_50 : lk 50 C_X11_hisses = some (.iload_n 2, (0, 0, 0, 0)) := by decide +kernel
theorem s_X11_hisses_50 {ca : Nat → List Value → tM → tO} {M : tM} {a0 a1 : Option Value} {x : Int32} {S : List Value} : rn ca C_X11_hisses 50 [a0, a1, some (.int x)] S M = rn ca C_X11_hisses 51 [a0, a1, some (.int x)] (.int x :: S) M := (rn_at k_X11_hisses_50).trans rfl
theorem k_X11_hisses_51 : lk 51 C_X11_hisses = some (.aload_n 0, (0, 0, 0, 0)) := by decide +kernel
theorem s_X11_hisses_51 {ca : Nat → List Value → tM → tO} {M : tM} {a1 a2 : Option Value} {x : Nat} {S : List Value} : rn ca C_X11_hisses 51 [some (.ref x), a1, a2] S M = rn ca C_X11_hisses 52 [some (.ref x), a1, a2] (.ref x :: S) M := (rn_at k_X11_hisses_51).trans rfl
theorem k_X11_hisses_52 : lk 52 C_X11_hisses = some (.getfield 317, (11, 23, 0, 1195)) := by decide +kernel
theorem s_X11_hisses_52 {ca : Nat → List Value → tM → tO} {M : tM} {L : tL} {b : Nat} {S : List Value} : rn ca C_X11_hisses 52 L (.ref b :: S) M = if clsO b = some 11 then rn ca C_X11_hisses 55 L (fv M b 23 :: S) M else none := (rn_at k_X11_hisses_52).trans rnx_ite
theorem k_X11_hisses_55 : lk 55 C_X11_hisses = some (.iadd, (0, 0, 0, 0)) := by decide +kernel
theorem s_X11_hisses_55 {ca : Nat → List Value → tM → tO} {M : tM} {L : tL} {x y : Int32} {S : List Value} : rn ca C_X11_hisses 55 L (.int y :: .int x :: S) M = rn ca C_X11_hisses 56 L (.int (x + y) :: S) M := (rn_at k_X11_hisses_55).trans rfl
theorem k_X11_hisses_56 : lk 56 C_X11_hisses = some (.ireturn, (0, 0, 0, 0)) := by decide +kernel
theorem s_X11_hisses_56 {ca : Nat → List Value → tM → tO} {M : tM} {L : tL} {x : Int32} : rn ca C_X11_hisses 56 L [.int x] M = some (some (.int x), M) := (rn_at k_X11_hisses_56).trans rfl
theorem k_X11_hisses_57 : lk 57 C_X11_hisses = some (.aload_n 0, (0, 0, 0, 0)) := by decide +kernel
theorem s_X11_hisses_57 {ca : Nat → List Value → tM → tO} {M : tM} {a1 a2 : Option Value} {x : Nat} {S : List Value} : rn ca C_X11_hisses 57 [some (.ref x), a1, a2] S M = rn ca C_X11_hisses 58 [some (.ref x), a1, a2] (.ref x :: S) M := (rn_at k_X11_hisses_57).trans rfl
theorem k_X11_hisses_58 : lk 58 C_X11_hisses = some (.bipush 20, (0, 0, 0, 0)) := by decide +kernel
theorem s_X11_hisses_58 {ca : Nat → List Value → tM → tO} {M : tM} {L : tL} {S : List Value} : rn ca C_X11_hisses 58 L S M = rn ca C_X11_hisses 60 L (.int (iI 20) :: S) M := (rn_at k_X11_hisses_58).trans rfl
theorem k_X11_hisses_60 : lk 60 C_X11_hisses = some (.invokevirtual 313, (229, 1, 11, 1202)) := by decide +kernel
theorem s_X11_hisses_60 {ca : Nat → List Value → tM → tO} {M : tM} {L : tL} {v1 : Value} {b : Nat} : rn ca C_X11_hisses 60 L [v1, .ref b] M = if clsO b = some 11 then rnk ca C_X11_hisses 63 L [] (ca m_X11_began [.ref b, v1] M) else none := (rn_at k_X11_hisses_60).trans rnx_ite
theorem k_X11_hisses_63 : lk 63 C_X11_hisses = some (.aload_n 0, (0, 0, 0, 0)) := by decide +kernel
theorem s_X11_hisses_63 {ca : Nat → List Value → tM → tO} {M : tM} {a1 a2 : Option Value} {x : Nat} {S : List Value} : rn ca C_X11_hisses 63 [some (.ref x), a1, a2] S M = rn ca C_X11_hisses 64 [some (.ref x), a1, a2] (.ref x :: S) M := (rn_at k_X11_hisses_63).trans rfl
theorem k_X11_hisses_64 : lk 64 C_X11_hisses = some (.iconst 0, (0, 0, 0, 0)) := by decide +kernel
theorem s_X11_hisses_64 {ca : Nat → List Value → tM → tO} {M : tM} {L : tL} {S : List Value} : rn ca C_X11_hisses 64 L S M = rn ca C_X11_hisses 65 L (.int (iI 0) :: S) M := (rn_at k_X11_hisses_64).trans rfl
theorem k_X11_hisses_65 : lk 65 C_X11_hisses = some (.iload_n 2, (0, 0, 0, 0)) := by decide +kernel
theorem s_X11_hisses_65 {ca : Nat → List Value → tM → tO} {M : tM} {a0 a1 : Option Value} {x : Int32} {S : List Value} : rn ca C_X11_hisses 65 [a0, a1, some (.int x)] S M = rn ca C_X11_hisses 66 [a0, a1, some (.int x)] (.int x :: S) M := (rn_at k_X11_hisses_65).trans rfl
theorem k_X11_hisses_66 : lk 66 C_X11_hisses = some (.invokevirtual 320, (230, 2, 11, 1198)) := by decide +kernel
theorem s_X11_hisses_66 {ca : Nat → List Value → tM → tO} {M : tM} {L : tL} {v1 v2 : Value} {b : Nat} : rn ca C_X11_hisses 66 L [v2, v1, .ref b] M = if clsO b = some 11 then rnk ca C_X11_hisses 69 L [] (ca m_X11_hisses [.ref b, v1, v2] M) else none := (rn_at k_X11_hisses_66).trans rnx_ite
theorem k_X11_hisses_69 : lk 69 C_X11_hisses = some (.aload_n 0, (0, 0, 0, 0)) := by decide +kernel
theorem s_X11_hisses_69 {ca : Nat → List Value → tM → tO} {M : tM} {a1 a2 : Option Value} {x : Nat} {S : List Value} : rn ca C_X11_hisses 69 [some (.ref x), a1, a2] S M = rn ca C_X11_hisses 70 [some (.ref x), a1, a2] (.ref x :: S) M := (rn_at k_X11_hisses_69).trans rfl
theorem k_X11_hisses_70 : lk 70 C_X11_hisses = some (.getfield 323, (11, 24, 0, 1196)) := by decide +kernel
theorem s_X11_hisses_70 {ca : Nat → List Value → tM → tO} {M : tM} {L : tL} {b : Nat} {S : List Value} : rn ca C_X11_hisses 70 L (.ref b :: S) M = if clsO b = some 11 then rn ca C_X11_hisses 73 L (fv M b 24 :: S) M else none := (rn_at k_X11_hisses_70).trans rnx_ite
theorem k_X11_hisses_73 : lk 73 C_X11_hisses = some (.iadd, (0, 0, 0, 0)) := by decide +kernel
theorem s_X11_hisses_73 {ca : Nat → List Value → tM → tO} {M : tM} {L : tL} {x y : Int32} {S : List Value} : rn ca C_X11_hisses 73 L (.int y :: .int x :: S) M = rn ca C_X11_hisses 74 L (.int (x + y) :: S) M := (rn_at k_X11_hisses_73).trans rfl
theorem k_X11_hisses_74 : lk 74 C_X11_hisses = some (.ireturn, (0, 0, 0, 0)) := by decide +kernel
theorem s_X11_hisses_74 {ca : Nat → List Value → tM → tO} {M : tM} {L : tL} {x : Int32} : rn ca C_X11_hisses 74 L [.int x] M = some (some (.int x), M) := (rn_at k_X11_hisses_74).trans rfl
theorem k_X11_hisses_75 : lk 75 C_X11_hisses = some (.aload_n 0, (0, 0, 0, 0)) := by decide +kernel
theorem s_X11_hisses_75 {ca : Nat → List Value → tM → tO} {M : tM} {a1 a2 : Option Value} {x : Nat} {S : List Value} : rn ca C_X11_hisses 75 [some (.ref x), a1, a2] S M = rn ca C_X11_hisses 76 [some (.ref x), a1, a2] (.ref x :: S) M := (rn_at k_X11_hisses_75).trans rfl
theorem k_X11_hisses_76 : lk 76 C_X11_hisses = some (.bipush 41, (0, 0, 0, 0)) := by decide +kernel
theorem s_X11_hisses_76 {ca : Nat → List Value → tM → tO} {M : tM} {L : tL} {S : List Value} : rn ca C_X11_hisses 76 L S M = rn ca C_X11_hisses 78 L (.int (iI 41) :: S) M := (rn_at k_X11_hisses_76).trans rfl
theorem k_X11_hisses_78 : lk 78 C_X11_hisses = some (.invokevirtual 313, (229, 1, 11, 1202)) := by decide +kernel
theorem s_X11_hisses_78 {ca : Nat → List Value → tM → tO} {M : tM} {L : tL} {v1 : Value} {b : Nat} : rn ca C_X11_hisses 78 L [v1, .ref b] M = if clsO b = some 11 then rnk ca C_X11_hisses 81 L [] (ca m_X11_began [.ref b, v1] M) else none := (rn_at k_X11_hisses_78).trans rnx_ite
theorem k_X11_hisses_81 : lk 81 C_X11_hisses = some (.aload_n 0, (0, 0, 0, 0)) := by decide +kernel
theorem s_X11_hisses_81 {ca : Nat → List Value → tM → tO} {M : tM} {a1 a2 : Option Value} {x : Nat} {S : List Value} : rn ca C_X11_hisses 81 [some (.ref x), a1, a2] S M = rn ca C_X11_hisses 82 [some (.ref x), a1, a2] (.ref x :: S) M := (rn_at k_X11_hisses_81).trans rfl
theorem k_X11_hisses_82 : lk 82 C_X11_hisses = some (.iconst 0, (0, 0, 0, 0)) := by decide +kernel
theorem s_X11_hisses_82 {ca : Nat → List Value → tM → tO} {M : tM} {L : tL} {S : List Value} : rn ca C_X11_hisses 82 L S M = rn ca C_X11_hisses 83 L (.int (iI 0) :: S) M := (rn_at k_X11_hisses_82).trans rfl
theorem k_X11_hisses_83 : lk 83 C_X11_hisses = some (.iload_n 2, (0, 0, 0, 0)) := by decide +kernel
theorem s_X11_hisses_83 {ca : Nat → List Value → tM → tO} {M : tM} {a0 a1 : Option Value} {x : Int32} {S : List Value} : rn ca C_X11_hisses 83 [a0, a1, some (.int x)] S M = rn ca C_X11_hisses 84 [a0, a1, some (.int x)] (.int x :: S) M := (rn_at k_X11_hisses_83).trans rfl
theorem k_X11_hisses_84 : lk 84 C_X11_hisses = some (.invokevirtual 320, (230, 2, 11, 1198)) := by decide +kernel
theorem s_X11_hisses_84 {ca : Nat → List Value → tM → tO} {M : tM} {L : tL} {v1 v2 : Value} {b : Nat} : rn ca C_X11_hisses 84 L [v2, v1, .ref b] M = if clsO b = some 11 then rnk ca C_X11_hisses 87 L [] (ca m_X11_hisses [.ref b, v1, v2] M) else none := (rn_at k_X11_hisses_84).trans rnx_ite
theorem k_X11_hisses_87 : lk 87 C_X11_hisses = some (.aload_n 0, (0, 0, 0, 0)) := by decide +kernel
theorem s_X11_hisses_87 {ca : Nat → List Value → tM → tO} {M : tM} {a1 a2 : Option Value} {x : Nat} {S : List Value} : rn ca C_X11_hisses 87 [some (.ref x), a1, a2] S M = rn ca C_X11_hisses 88 [some (.ref x), a1, a2] (.ref x :: S) M := (rn_at k_X11_hisses_87).trans rfl
theorem k_X11_hisses_88 : lk 88 C_X11_hisses = some (.getfield 317, (11, 23, 0, 1195)) := by decide +kernel
theorem s_X11_hisses_88 {ca : Nat → List Value → tM → tO} {M : tM} {L : tL} {b : Nat} {S : List Value} : rn ca C_X11_hisses 88 L (.ref b :: S) M = if clsO b = some 11 then rn ca C_X11_hisses 91 L (fv M b 23 :: S) M else none := (rn_at k_X11_hisses_88).trans rnx_ite
theorem k_X11_hisses_91 : lk 91 C_X11_hisses = some (.isub, (0, 0, 0, 0)) := by decide +kernel
theorem s_X11_hisses_91 {ca : Nat → List Value → tM → tO} {M : tM} {L : tL} {x y : Int32} {S : List Value} : rn ca C_X11_hisses 91 L (.int y :: .int x :: S) M = rn ca C_X11_hisses 92 L (.int (x - y) :: S) M := (rn_at k_X11_hisses_91).trans rfl
theorem k_X11_hisses_92 : lk 92 C_X11_hisses = some (.ireturn, (0, 0, 0, 0)) := by decide +kernel
theorem s_X11_hisses_92 {ca : Nat → List Value → tM → tO} {M : tM} {L : tL} {x : Int32} : rn ca C_X11_hisses 92 L [.int x] M = some (some (.int x), M) := (rn_at k_X11_hisses_92).trans rfl
theorem k_X11_hisses_93 : lk 93 C_X11_hisses = some (.aload_n 0, (0, 0, 0, 0)) := by decide +kernel
theorem s_X11_hisses_93 {ca : Nat → List Value → tM → tO} {M : tM} {a1 a2 : Option Value} {x : Nat} {S : List Value} : rn ca C_X11_hisses 93 [some (.ref x), a1, a2] S M = rn ca C_X11_hisses 94 [some (.ref x), a1, a2] (.ref x :: S) M := (rn_at k_X11_hisses_93).trans rfl
theorem k_X11_hisses_94 : lk 94 C_X11_hisses = some (.bipush 70, (0, 0, 0, 0)) := by decide +kernel
theorem s_X11_hisses_94 {ca : Nat → List Value → tM → tO} {M : tM} {L : tL} {S : List Value} : rn ca C_X11_hisses 94 L S M = rn ca C_X11_hisses 96 L (.int (iI 70) :: S) M := (rn_at k_X11_hisses_94).trans rfl
theorem k_X11_hisses_96 : lk 96 C_X11_hisses = some (.invokevirtual 313, (229, 1, 11, 1202)) := by decide +kernel
theorem s_X11_hisses_96 {ca : Nat → List Value → tM → tO} {M : tM} {L : tL} {v1 : Value} {b : Nat} : rn ca C_X11_hisses 96 L [v1, .ref b] M = if clsO b = some 11 then rnk ca C_X11_hisses 99 L [] (ca m_X11_began [.ref b, v1] M) else none := (rn_at k_X11_hisses_96).trans rnx_ite
theorem k_X11_hisses_99 : lk 99 C_X11_hisses = some (.aload_n 0, (0, 0, 0, 0)) := by decide +kernel
theorem s_X11_hisses_99 {ca : Nat → List Value → tM → tO} {M : tM} {a1 a2 : Option Value} {x : Nat} {S : List Value} : rn ca C_X11_hisses 99 [some (.ref x), a1, a2] S M = rn ca C_X11_hisses 100 [some (.ref x), a1, a2] (.ref x :: S) M := (rn_at k_X11_hisses_99).trans rfl
theorem k_X11_hisses_100 : lk 100 C_X11_hisses = some (.iconst 2, (0, 0, 0, 0)) := by decide +kernel
theorem s_X11_hisses_100 {ca : Nat → List Value → tM → tO} {M : tM} {L : tL} {S : List Value} : rn ca C_X11_hisses 100 L S M = rn ca C_X11_hisses 101 L (.int (iI 2) :: S) M := (rn_at k_X11_hisses_100).trans rfl
theorem k_X11_hisses_101 : lk 101 C_X11_hisses = some (.iload_n 2, (0, 0, 0, 0)) := by decide +kernel
theorem s_X11_hisses_101 {ca : Nat → List Value → tM → tO} {M : tM} {a0 a1 : Option Value} {x : Int32} {S : List Value} : rn ca C_X11_hisses 101 [a0, a1, some (.int x)] S M = rn ca C_X11_hisses 102 [a0, a1, some (.int x)] (.int x :: S) M := (rn_at k_X11_hisses_101).trans rfl
theorem k_X11_hisses_102 : lk 102 C_X11_hisses = some (.invokevirtual 320, (230, 2, 11, 1198)) := by decide +kernel
theorem s_X11_hisses_102 {ca : Nat → List Value → tM → tO} {M : tM} {L : tL} {v1 v2 : Value} {b : Nat} : rn ca C_X11_hisses 102 L [v2, v1, .ref b] M = if clsO b = some 11 then rnk ca C_X11_hisses 105 L [] (ca m_X11_hisses [.ref b, v1, v2] M) else none := (rn_at k_X11_hisses_102).trans rnx_ite
theorem k_X11_hisses_105 : lk 105 C_X11_hisses = some (.iconst 2, (0, 0, 0, 0)) := by decide +kernel
theorem s_X11_hisses_105 {ca : Nat → List Value → tM → tO} {M : tM} {L : tL} {S : List Value} : rn ca C_X11_hisses 105 L S M = rn ca C_X11_hisses 106 L (.int (iI 2) :: S) M := (rn_at k_X11_hisses_105).trans rfl
theorem k_X11_hisses_106 : lk 106 C_X11_hisses = some (.imul, (0, 0, 0, 0)) := by decide +kernel
theorem s_X11_hisses_106 {ca : Nat → List Value → tM → tO} {M : tM} {L : tL} {x y : Int32} {S : List Value} : rn ca C_X11_hisses 106 L (.int y :: .int x :: S) M = rn ca C_X11_hisses 107 L (.int (x * y) :: S) M := (rn_at k_X11_hisses_106).trans rfl
theorem k_X11_hisses_107 : lk 107 C_X11_hisses = some (.ireturn, (0, 0, 0, 0)) := by decide +kernel
theorem s_X11_hisses_107 {ca : Nat → List Value → tM → tO} {M : tM} {L : tL} {x : Int32} : rn ca C_X11_hisses 107 L [.int x] M = some (some (.int x), M) := (rn_at k_X11_hisses_107).trans rfl
theorem k_X11_hisses_108 : lk 108 C_X11_hisses = some (.aload_n 0, (0, 0, 0, 0)) := by decide +kernel
theorem s_X11_hisses_108 {ca : Nat → List Value → tM → tO} {M : tM} {a1 a2 : Option Value} {x : Nat} {S : List Value} : rn ca C_X11_hisses 108 [some (.ref x), a1, a2] S M = rn ca C_X11_hisses 109 [some (.ref x), a1, a2] (.ref x :: S) M := (rn_at k_X11_hisses_108).trans rfl
theorem k_X11_hisses_109 : lk 109 C_X11_hisses = some (.aload_n 0, (0, 0, 0, 0)) := by decide +kernel
theorem s_X11_hisses_109 {ca : Nat → List Value → tM → tO} {M : tM} {a1 a2 : Option Value} {x : Nat} {S : List Value} : rn ca C_X11_hisses 109 [some (.ref x), a1, a2] S M = rn ca C_X11_hisses 110 [some (.ref x), a1, a2] (.ref x :: S) M := (rn_at k_X11_hisses_109).trans rfl
theorem k_X11_hisses_110 : lk 110 C_X11_hisses = some (.getfield 39, (11, 9, 0, 154)) := by decide +kernel
theorem s_X11_hisses_110 {ca : Nat → List Value → tM → tO} {M : tM} {L : tL} {b : Nat} {S : List Value} : rn ca C_X11_hisses 110 L (.ref b :: S) M = if clsO b = some 11 then rn ca C_X11_hisses 113 L (fv M b 9 :: S) M else none := (rn_at k_X11_hisses_110).trans rnx_ite
theorem k_X11_hisses_113 : lk 113 C_X11_hisses = some (.iload_n 1, (0, 0, 0, 0)) := by decide +kernel
theorem s_X11_hisses_113 {ca : Nat → List Value → tM → tO} {M : tM} {a0 a2 : Option Value} {x : Int32} {S : List Value} : rn ca C_X11_hisses 113 [a0, some (.int x), a2] S M = rn ca C_X11_hisses 114 [a0, some (.int x), a2] (.int x :: S) M := (rn_at k_X11_hisses_113).trans rfl
theorem k_X11_hisses_114 : lk 114 C_X11_hisses = some (.iaload, (0, 0, 0, 0)) := by decide +kernel
theorem s_X11_hisses_114 {ca : Nat → List Value → tM → tO} {M : tM} {L : tL} {a : Nat} {i : Int32} {S : List Value} : rn ca C_X11_hisses 114 L (.int i :: .ref a :: S) M = if (akind a = 0 ∨ akind a = 6 ∨ akind a = 7) ∧ inb i (alen M a) then rn ca C_X11_hisses 115 L (.int (M.1 a i.toInt.toNat) :: S) M else none := (rn_at k_X11_hisses_114).trans rnx_ite
theorem k_X11_hisses_115 : lk 115 C_X11_hisses = some (.iload_n 2, (0, 0, 0, 0)) := by decide +kernel
theorem s_X11_hisses_115 {ca : Nat → List Value → tM → tO} {M : tM} {a0 a1 : Option Value} {x : Int32} {S : List Value} : rn ca C_X11_hisses 115 [a0, a1, some (.int x)] S M = rn ca C_X11_hisses 116 [a0, a1, some (.int x)] (.int x :: S) M := (rn_at k_X11_hisses_115).trans rfl
theorem k_X11_hisses_116 : lk 116 C_X11_hisses = some (.invokevirtual 320, (230, 2, 11, 1198)) := by decide +kernel
theorem s_X11_hisses_116 {ca : Nat → List Value → tM → tO} {M : tM} {L : tL} {v1 v2 : Value} {b : Nat} : rn ca C_X11_hisses 116 L [v2, v1, .ref b] M = if clsO b = some 11 then rnk ca C_X11_hisses 119 L [] (ca m_X11_hisses [.ref b, v1, v2] M) else none := (rn_at k_X11_hisses_116).trans rnx_ite
theorem k_X11_hisses_119 : lk 119 C_X11_hisses = some (.ireturn, (0, 0, 0, 0)) := by decide +kernel
theorem s_X11_hisses_119 {ca : Nat → List Value → tM → tO} {M : tM} {L : tL} {x : Int32} : rn ca C_X11_hisses 119 L [.int x] M = some (some (.int x), M) := (rn_at k_X11_hisses_119).trans rfl
theorem k_X11_lands_0 : lk 0 C_X11_lands = some (.iload_n 1, (0, 0, 0, 0)) := by decide +kernel
theorem s_X11_lands_0 {ca : Nat → List Value → tM → tO} {M : tM} {a0 a2 : Option Value} {x : Int32} {S : List Value} : rn ca C_X11_lands 0 [a0, some (.int x), a2] S M = rn ca C_X11_lands 1 [a0, some (.int x), a2] (.int x :: S) M := (rn_at k_X11_lands_0).trans rfl
theorem k_X11_lands_1 : lk 1 C_X11_lands = some (.tableswitch 109 0 6 #[43, 109, 61, 109, 76, 109, 91], (0, 0, 0, 0)) := by decide +kernel
theorem s_X11_lands_1 {ca : Nat → List Value → tM → tO} {M : tM} {L : tL} {x : Int32} {S : List Value} : rn ca C_X11_lands 1 L (.int x :: S) M = if x = iI 0 then rn ca C_X11_lands 44 L S M else if x = iI 1 then rn ca C_X11_lands 110 L S M else if x = iI 2 then rn ca C_X11_lands 62 L S M else if x = iI 3 then rn ca C_X11_lands 110 L S M else if x = iI 4 then rn ca C_X11_lands 77 L S M else if x = iI 5 then rn ca C_X11_lands 110 L S M else if x = iI 6 then rn ca C_X11_lands 92 L S M else rn ca C_X11_lands 110 L S M := by rw [rn_at k_X11_lands_1]; simp only [ta, tsw, lsw, rnx_ite]; rfl
theorem k_X11_lands_44 : lk 44 C_X11_lands = some (.aload_n 0, (0, 0, 0, 0)) := by decide +kernel
theorem s_X11_lands_44 {ca : Nat → List Value → tM → tO} {M : tM} {a1 a2 : Option Value} {x : Nat} {S : List Value} : rn ca C_X11_lands 44 [some (.ref x), a1, a2] S M = rn ca C_X11_lands 45 [some (.ref x), a1, a2] (.ref x :: S) M := (rn_at k_X11_lands_44).trans rfl
theorem k_X11_lands_45 : lk 45 C_X11_lands = some (.bipush 11, (0, 0, 0, 0)) := by decide +kernel
theorem s_X11_lands_45 {ca : Nat → List Value → tM → tO} {M : tM} {L : tL} {S : List Value} : rn ca C_X11_lands 45 L S M = rn ca C_X11_lands 47 L (.int (iI 11) :: S) M := (rn_at k_X11_lands_45).trans rfl
theorem k_X11_lands_47 : lk 47 C_X11_lands = some (.invokevirtual 313, (229, 1, 11, 1202)) := by decide +kernel
theorem s_X11_lands_47 {ca : Nat → List Value → tM → tO} {M : tM} {L : tL} {v1 : Value} {b : Nat} : rn ca C_X11_lands 47 L [v1, .ref b] M = if clsO b = some 11 then rnk ca C_X11_lands 50 L [] (ca m_X11_began [.ref b, v1] M) else none := (rn_at k_X11_lands_47).trans rnx_ite
theorem k_X11_lands_50 : lk 50 C_X11_lands = some (.aload_n 0, (0, 0, 0, 0)) := by decide +kernel
theorem s_X11_lands_50 {ca : Nat → List Value → tM → tO} {M : tM} {a1 a2 : Option Value} {x : Nat} {S : List Value} : rn ca C_X11_lands 50 [some (.ref x), a1, a2] S M = rn ca C_X11_lands 51 [some (.ref x), a1, a2] (.ref x :: S) M := (rn_at k_X11_lands_50).trans rfl
theorem k_X11_lands_51 : lk 51 C_X11_lands = some (.aload_n 0, (0, 0, 0, 0)) := by decide +kernel
theorem s_X11_lands_51 {ca : Nat → List Value → tM → tO} {M : tM} {a1 a2 : Option Value} {x : Nat} {S : List Value} : rn ca C_X11_lands 51 [some (.ref x), a1, a2] S M = rn ca C_X11_lands 52 [some (.ref x), a1, a2] (.ref x :: S) M := (rn_at k_X11_lands_51).trans rfl
theorem k_X11_lands_52 : lk 52 C_X11_lands = some (.getfield 326, (11, 25, 0, 1197)) := by decide +kernel
theorem s_X11_lands_52 {ca : Nat → List Value → tM → tO} {M : tM} {L : tL} {b : Nat} {S : List Value} : rn ca C_X11_lands 52 L (.ref b :: S) M = if clsO b = some 11 then rn ca C_X11_lands 55 L (fv M b 25 :: S) M else none := (rn_at k_X11_lands_52).trans rnx_ite
theorem k_X11_lands_55 : lk 55 C_X11_lands = some (.iload_n 2, (0, 0, 0, 0)) := by decide +kernel
theorem s_X11_lands_55 {ca : Nat → List Value → tM → tO} {M : tM} {a0 a1 : Option Value} {x : Int32} {S : List Value} : rn ca C_X11_lands 55 [a0, a1, some (.int x)] S M = rn ca C_X11_lands 56 [a0, a1, some (.int x)] (.int x :: S) M := (rn_at k_X11_lands_55).trans rfl
theorem k_X11_lands_56 : lk 56 C_X11_lands = some (.invokevirtual 320, (230, 2, 11, 1198)) := by decide +kernel
theorem s_X11_lands_56 {ca : Nat → List Value → tM → tO} {M : tM} {L : tL} {v1 v2 : Value} {b : Nat} : rn ca C_X11_lands 56 L [v2, v1, .ref b] M = if clsO b = some 11 then rnk ca C_X11_lands 59 L [] (ca m_X11_hisses [.ref b, v1, v2] M) else none := (rn_at k_X11_lands_56).trans rnx_ite
theorem k_X11_lands_59 : lk 59 C_X11_lands = some (.iconst 2, (0, 0, 0, 0)) := by decide +kernel
theorem s_X11_lands_59 {ca : Nat → List Value → tM → tO} {M : tM} {L : tL} {S : List Value} : rn ca C_X11_lands 59 L S M = rn ca C_X11_lands 60 L (.int (iI 2) :: S) M := (rn_at k_X11_lands_59).trans rfl
theorem k_X11_lands_60 : lk 60 C_X11_lands = some (.imul, (0, 0, 0, 0)) := by decide +kernel
theorem s_X11_lands_60 {ca : Nat → List Value → tM → tO} {M : tM} {L : tL} {x y : Int32} {S : List Value} : rn ca C_X11_lands 60 L (.int y :: .int x :: S) M = rn ca C_X11_lands 61 L (.int (x * y) :: S) M := (rn_at k_X11_lands_60).trans rfl
theorem k_X11_lands_61 : lk 61 C_X11_lands = some (.ireturn, (0, 0, 0, 0)) := by decide +kernel
theorem s_X11_lands_61 {ca : Nat → List Value → tM → tO} {M : tM} {L : tL} {x : Int32} : rn ca C_X11_lands 61 L [.int x] M = some (some (.int x), M) := (rn_at k_X11_lands_61).trans rfl
theorem k_X11_lands_62 : lk 62 C_X11_lands = some (.aload_n 0, (0, 0, 0, 0)) := by decide +kernel
theorem s_X11_lands_62 {ca : Nat → List Value → tM → tO} {M : tM} {a1 a2 : Option Value} {x : Nat} {S : List Value} : rn ca C_X11_lands 62 [some (.ref x), a1, a2] S M = rn ca C_X11_lands 63 [some (.ref x), a1, a2] (.ref x :: S) M := (rn_at k_X11_lands_62).trans rfl
theorem k_X11_lands_63 : lk 63 C_X11_lands = some (.bipush 30, (0, 0, 0, 0)) := by decide +kernel
theorem s_X11_lands_63 {ca : Nat → List Value → tM → tO} {M : tM} {L : tL} {S : List Value} : rn ca C_X11_lands 63 L S M = rn ca C_X11_lands 65 L (.int (iI 30) :: S) M := (rn_at k_X11_lands_63).trans rfl
theorem k_X11_lands_65 : lk 65 C_X11_lands = some (.invokevirtual 313, (229, 1, 11, 1202)) := by decide +kernel
theorem s_X11_lands_65 {ca : Nat → List Value → tM → tO} {M : tM} {L : tL} {v1 : Value} {b : Nat} : rn ca C_X11_lands 65 L [v1, .ref b] M = if clsO b = some 11 then rnk ca C_X11_lands 68 L [] (ca m_X11_began [.ref b, v1] M) else none := (rn_at k_X11_lands_65).trans rnx_ite
theorem k_X11_lands_68 : lk 68 C_X11_lands = some (.aload_n 0, (0, 0, 0, 0)) := by decide +kernel
theorem s_X11_lands_68 {ca : Nat → List Value → tM → tO} {M : tM} {a1 a2 : Option Value} {x : Nat} {S : List Value} : rn ca C_X11_lands 68 [some (.ref x), a1, a2] S M = rn ca C_X11_lands 69 [some (.ref x), a1, a2] (.ref x :: S) M := (rn_at k_X11_lands_68).trans rfl
theorem k_X11_lands_69 : lk 69 C_X11_lands = some (.iconst 1, (0, 0, 0, 0)) := by decide +kernel
theorem s_X11_lands_69 {ca : Nat → List Value → tM → tO} {M : tM} {L : tL} {S : List Value} : rn ca C_X11_lands 69 L S M = rn ca C_X11_lands 70 L (.int (iI 1) :: S) M := (rn_at k_X11_lands_69).trans rfl
theorem k_X11_lands_70 : lk 70 C_X11_lands = some (.iload_n 2, (0, 0, 0, 0)) := by decide +kernel
theorem s_X11_lands_70 {ca : Nat → List Value → tM → tO} {M : tM} {a0 a1 : Option Value} {x : Int32} {S : List Value} : rn ca C_X11_lands 70 [a0, a1, some (.int x)] S M = rn ca C_X11_lands 71 [a0, a1, some (.int x)] (.int x :: S) M := (rn_at k_X11_lands_70).trans rfl
theorem k_X11_lands_71 : lk 71 C_X11_lands = some (.invokevirtual 329, (231, 2, 11, 1206)) := by decide +kernel
theorem s_X11_lands_71 {ca : Nat → List Value → tM → tO} {M : tM} {L : tL} {v1 v2 : Value} {b : Nat} : rn ca C_X11_lands 71 L [v2, v1, .ref b] M = if clsO b = some 11 then rnk ca C_X11_lands 74 L [] (ca m_X11_lands [.ref b, v1, v2] M) else none := (rn_at k_X11_lands_71).trans rnx_ite
theorem k_X11_lands_74 : lk 74 C_X11_lands = some (.iconst 3, (0, 0, 0, 0)) := by decide +kernel
theorem s_X11_lands_74 {ca : Nat → List Value → tM → tO} {M : tM} {L : tL} {S : List Value} : rn ca C_X11_lands 74 L S M = rn ca C_X11_lands 75 L (.int (iI 3) :: S) M := (rn_at k_X11_lands_74).trans rfl
theorem k_X11_lands_75 : lk 75 C_X11_lands = some (.imul, (0, 0, 0, 0)) := by decide +kernel
theorem s_X11_lands_75 {ca : Nat → List Value → tM → tO} {M : tM} {L : tL} {x y : Int32} {S : List Value} : rn ca C_X11_lands 75 L (.int y :: .int x :: S) M = rn ca C_X11_lands 76 L (.int (x * y) :: S) M := (rn_at k_X11_lands_75).trans rfl
theorem k_X11_lands_76 : lk 76 C_X11_lands = some (.ireturn, (0, 0, 0, 0)) := by decide +kernel
theorem s_X11_lands_76 {ca : Nat → List Value → tM → tO} {M : tM} {L : tL} {x : Int32} : rn ca C_X11_lands 76 L [.int x] M = some (some (.int x), M) := (rn_at k_X11_lands_76).trans rfl
theorem k_X11_lands_77 : lk 77 C_X11_lands = some (.aload_n 0, (0, 0, 0, 0)) := by decide +kernel
theorem s_X11_lands_77 {ca : Nat → List Value → tM → tO} {M : tM} {a1 a2 : Option Value} {x : Nat} {S : List Value} : rn ca C_X11_lands 77 [some (.ref x), a1, a2] S M = rn ca C_X11_lands 78 [some (.ref x), a1, a2] (.ref x :: S) M := (rn_at k_X11_lands_77).trans rfl
theorem k_X11_lands_78 : lk 78 C_X11_lands = some (.bipush 50, (0, 0, 0, 0)) := by decide +kernel
theorem s_X11_lands_78 {ca : Nat → List Value → tM → tO} {M : tM} {L : tL} {S : List Value} : rn ca C_X11_lands 78 L S M = rn ca C_X11_lands 80 L (.int (iI 50) :: S) M := (rn_at k_X11_lands_78).trans rfl
theorem k_X11_lands_80 : lk 80 C_X11_lands = some (.invokevirtual 313, (229, 1, 11, 1202)) := by decide +kernel
theorem s_X11_lands_80 {ca : Nat → List Value → tM → tO} {M : tM} {L : tL} {v1 : Value} {b : Nat} : rn ca C_X11_lands 80 L [v1, .ref b] M = if clsO b = some 11 then rnk ca C_X11_lands 83 L [] (ca m_X11_began [.ref b, v1] M) else none := (rn_at k_X11_lands_80).trans rnx_ite
theorem k_X11_lands_83 : lk 83 C_X11_lands = some (.aload_n 0, (0, 0, 0, 0)) := by decide +kernel
theorem s_X11_lands_83 {ca : Nat → List Value → tM → tO} {M : tM} {a1 a2 : Option Value} {x : Nat} {S : List Value} : rn ca C_X11_lands 83 [some (.ref x), a1, a2] S M = rn ca C_X11_lands 84 [some (.ref x), a1, a2] (.ref x :: S) M := (rn_at k_X11_lands_83).trans rfl
theorem k_X11_lands_84 : lk 84 C_X11_lands = some (.iconst 3, (0, 0, 0, 0)) := by decide +kernel
theorem s_X11_lands_84 {ca : Nat → List Value → tM → tO} {M : tM} {L : tL} {S : List Value} : rn ca C_X11_lands 84 L S M = rn ca C_X11_lands 85 L (.int (iI 3) :: S) M := (rn_at k_X11_lands_84).trans rfl
theorem k_X11_lands_85 : lk 85 C_X11_lands = some (.iload_n 2, (0, 0, 0, 0)) := by decide +kernel
theorem s_X11_lands_85 {ca : Nat → List Value → tM → tO} {M : tM} {a0 a1 : Option Value} {x : Int32} {S : List Value} : rn ca C_X11_lands 85 [a0, a1, some (.int x)] S M = rn ca C_X11_lands 86 [a0, a1, some (.int x)] (.int x :: S) M := (rn_at k_X11_lands_85).trans rfl
theorem k_X11_lands_86 : lk 86 C_X11_lands = some (.iconst 1, (0, 0, 0, 0)) := by decide +kernel
theorem s_X11_lands_86 {ca : Nat → List Value → tM → tO} {M : tM} {L : tL} {S : List Value} : rn ca C_X11_lands 86 L S M = rn ca C_X11_lands 87 L (.int (iI 1) :: S) M := (rn_at k_X11_lands_86).trans rfl
theorem k_X11_lands_87 : lk 87 C_X11_lands = some (.iadd, (0, 0, 0, 0)) := by decide +kernel
theorem s_X11_lands_87 {ca : Nat → List Value → tM → tO} {M : tM} {L : tL} {x y : Int32} {S : List Value} : rn ca C_X11_lands 87 L (.int y :: .int x :: S) M = rn ca C_X11_lands 88 L (.int (x + y) :: S) M := (rn_at k_X11_lands_87).trans rfl
theorem k_X11_lands_88 : lk 88 C_X11_lands = some (.invokevirtual 329, (231, 2, 11, 1206)) := by decide +kernel
theorem s_X11_lands_88 {ca : Nat → List Value → tM → tO} {M : tM} {L : tL} {v1 v2 : Value} {b : Nat} : rn ca C_X11_lands 88 L [v2, v1, .ref b] M = if clsO b = some 11 then rnk ca C_X11_lands 91 L [] (ca m_X11_lands [.ref b, v1, v2] M) else none := (rn_at k_X11_lands_88).trans rnx_ite
theorem k_X11_lands_91 : lk 91 C_X11_lands = some (.ireturn, (0, 0, 0, 0)) := by decide +kernel
theorem s_X11_lands_91 {ca : Nat → List Value → tM → tO} {M : tM} {L : tL} {x : Int32} : rn ca C_X11_lands 91 L [.int x] M = some (some (.int x), M) := (rn_at k_X11_lands_91).trans rfl
theorem k_X11_lands_92 : lk 92 C_X11_lands = some (.aload_n 0, (0, 0, 0, 0)) := by decide +kernel
theorem s_X11_lands_92 {ca : Nat → List Value → tM → tO} {M : tM} {a1 a2 : Option Value} {x : Nat} {S : List Value} : rn ca C_X11_lands 92 [some (.ref x), a1, a2] S M = rn ca C_X11_lands 93 [some (.ref x), a1, a2] (.ref x :: S) M := (rn_at k_X11_lands_92).trans rfl
theorem k_X11_lands_93 : lk 93 C_X11_lands = some (.bipush 71, (0, 0, 0, 0)) := by decide +kernel
theorem s_X11_lands_93 {ca : Nat → List Value → tM → tO} {M : tM} {L : tL} {S : List Value} : rn ca C_X11_lands 93 L S M = rn ca C_X11_lands 95 L (.int (iI 71) :: S) M := (rn_at k_X11_lands_93).trans rfl
theorem k_X11_lands_95 : lk 95 C_X11_lands = some (.invokevirtual 313, (229, 1, 11, 1202)) := by decide +kernel
theorem s_X11_lands_95 {ca : Nat → List Value → tM → tO} {M : tM} {L : tL} {v1 : Value} {b : Nat} : rn ca C_X11_lands 95 L [v1, .ref b] M = if clsO b = some 11 then rnk ca C_X11_lands 98 L [] (ca m_X11_began [.ref b, v1] M) else none := (rn_at k_X11_lands_95).trans rnx_ite
theorem k_X11_lands_98 : lk 98 C_X11_lands = some (.aload_n 0, (0, 0, 0, 0)) := by decide +kernel
theorem s_X11_lands_98 {ca : Nat → List Value → tM → tO} {M : tM} {a1 a2 : Option Value} {x : Nat} {S : List Value} : rn ca C_X11_lands 98 [some (.ref x), a1, a2] S M = rn ca C_X11_lands 99 [some (.ref x), a1, a2] (.ref x :: S) M := (rn_at k_X11_lands_98).trans rfl
theorem k_X11_lands_99 : lk 99 C_X11_lands = some (.iconst 2, (0, 0, 0, 0)) := by decide +kernel
theorem s_X11_lands_99 {ca : Nat → List Value → tM → tO} {M : tM} {L : tL} {S : List Value} : rn ca C_X11_lands 99 L S M = rn ca C_X11_lands 100 L (.int (iI 2) :: S) M := (rn_at k_X11_lands_99).trans rfl
theorem k_X11_lands_100 : lk 100 C_X11_lands = some (.iload_n 2, (0, 0, 0, 0)) := by decide +kernel
theorem s_X11_lands_100 {ca : Nat → List Value → tM → tO} {M : tM} {a0 a1 : Option Value} {x : Int32} {S : List Value} : rn ca C_X11_lands 100 [a0, a1, some (.int x)] S M = rn ca C_X11_lands 101 [a0, a1, some (.int x)] (.int x :: S) M := (rn_at k_X11_lands_100).trans rfl
theorem k_X11_lands_101 : lk 101 C_X11_lands = some (.aload_n 0, (0, 0, 0, 0)) := by decide +kernel
theorem s_X11_lands_101 {ca : Nat → List Value → tM → tO} {M : tM} {a1 a2 : Option Value} {x : Nat} {S : List Value} : rn ca C_X11_lands 101 [some (.ref x), a1, a2] S M = rn ca C_X11_lands 102 [some (.ref x), a1, a2] (.ref x :: S) M := (rn_at k_X11_lands_101).trans rfl
theorem k_X11_lands_102 : lk 102 C_X11_lands = some (.getfield 323, (11, 24, 0, 1196)) := by decide +kernel
theorem s_X11_lands_102 {ca : Nat → List Value → tM → tO} {M : tM} {L : tL} {b : Nat} {S : List Value} : rn ca C_X11_lands 102 L (.ref b :: S) M = if clsO b = some 11 then rn ca C_X11_lands 105 L (fv M b 24 :: S) M else none := (rn_at k_X11_lands_102).trans rnx_ite
theorem k_X11_lands_105 : lk 105 C_X11_lands = some (.isub, (0, 0, 0, 0)) := by decide +kernel
theorem s_X11_lands_105 {ca : Nat → List Value → tM → tO} {M : tM} {L : tL} {x y : Int32} {S : List Value} : rn ca C_X11_lands 105 L (.int y :: .int x :: S) M = rn ca C_X11_lands 106 L (.int (x - y) :: S) M := (rn_at k_X11_lands_105).trans rfl
theorem k_X11_lands_106 : lk 106 C_X11_lands = some (.invokevirtual 329, (231, 2, 11, 1206)) := by decide +kernel
theorem s_X11_lands_106 {ca : Nat → List Value → tM → tO} {M : tM} {L : tL} {v1 v2 : Value} {b : Nat} : rn ca C_X11_lands 106 L [v2, v1, .ref b] M = if clsO b = some 11 then rnk ca C_X11_lands 109 L [] (ca m_X11_lands [.ref b, v1, v2] M) else none := (rn_at k_X11_lands_106).trans rnx_ite
theorem k_X11_lands_109 : lk 109 C_X11_lands = some (.ireturn, (0, 0, 0, 0)) := by decide +kernel
theorem s_X11_lands_109 {ca : Nat → List Value → tM → tO} {M : tM} {L : tL} {x : Int32} : rn ca C_X11_lands 109 L [.int x] M = some (some (.int x), M) := (rn_at k_X11_lands_109).trans rfl
theorem k_X11_lands_110 : lk 110 C_X11_lands = some (.aload_n 0, (0, 0, 0, 0)) := by decide +kernel
theorem s_X11_lands_110 {ca : Nat → List Value → tM → tO} {M : tM} {a1 a2 : Option Value} {x : Nat} {S : List Value} : rn ca C_X11_lands 110 [some (.ref x), a1, a2] S M = rn ca C_X11_lands 111 [some (.ref x), a1, a2] (.ref x :: S) M := (rn_at k_X11_lands_110).trans rfl
theorem k_X11_lands_111 : lk 111 C_X11_lands = some (.aload_n 0, (0, 0, 0, 0)) := by decide +kernel
theorem s_X11_lands_111 {ca : Nat → List Value → tM → tO} {M : tM} {a1 a2 : Option Value} {x : Nat} {S : List Value} : rn ca C_X11_lands 111 [some (.ref x), a1, a2] S M = rn ca C_X11_lands 112 [some (.ref x), a1, a2] (.ref x :: S) M := (rn_at k_X11_lands_111).trans rfl
theorem k_X11_lands_112 : lk 112 C_X11_lands = some (.getfield 39, (11, 9, 0, 154)) := by decide +kernel
theorem s_X11_lands_112 {ca : Nat → List Value → tM → tO} {M : tM} {L : tL} {b : Nat} {S : List Value} : rn ca C_X11_lands 112 L (.ref b :: S) M = if clsO b = some 11 then rn ca C_X11_lands 115 L (fv M b 9 :: S) M else none := (rn_at k_X11_lands_112).trans rnx_ite
theorem k_X11_lands_115 : lk 115 C_X11_lands = some (.iload_n 1, (0, 0, 0, 0)) := by decide +kernel
theorem s_X11_lands_115 {ca : Nat → List Value → tM → tO} {M : tM} {a0 a2 : Option Value} {x : Int32} {S : List Value} : rn ca C_X11_lands 115 [a0, some (.int x), a2] S M = rn ca C_X11_lands 116 [a0, some (.int x), a2] (.int x :: S) M := (rn_at k_X11_lands_115).trans rfl
theorem k_X11_lands_116 : lk 116 C_X11_lands = some (.iaload, (0, 0, 0, 0)) := by decide +kernel
theorem s_X11_lands_116 {ca : Nat → List Value → tM → tO} {M : tM} {L : tL} {a : Nat} {i : Int32} {S : List Value} : rn ca C_X11_lands 116 L (.int i :: .ref a :: S) M = if (akind a = 0 ∨ akind a = 6 ∨ akind a = 7) ∧ inb i (alen M a) then rn ca C_X11_lands 117 L (.int (M.1 a i.toInt.toNat) :: S) M else none := (rn_at k_X11_lands_116).trans rnx_ite
theorem k_X11_lands_117 : lk 117 C_X11_lands = some (.iload_n 2, (0, 0, 0, 0)) := by decide +kernel
theorem s_X11_lands_117 {ca : Nat → List Value → tM → tO} {M : tM} {a0 a1 : Option Value} {x : Int32} {S : List Value} : rn ca C_X11_lands 117 [a0, a1, some (.int x)] S M = rn ca C_X11_lands 118 [a0, a1, some (.int x)] (.int x :: S) M := (rn_at k_X11_lands_117).trans rfl
theorem k_X11_lands_118 : lk 118 C_X11_lands = some (.invokevirtual 329, (231, 2, 11, 1206)) := by decide +kernel
theorem s_X11_lands_118 {ca : Nat → List Value → tM → tO} {M : tM} {L : tL} {v1 v2 : Value} {b : Nat} : rn ca C_X11_lands 118 L [v2, v1, .ref b] M = if clsO b = some 11 then rnk ca C_X11_lands 121 L [] (ca m_X11_lands [.ref b, v1, v2] M) else none := (rn_at k_X11_lands_118).trans rnx_ite
theorem k_X11_lands_121 : lk 121 C_X11_lands = some (.ireturn, (0, 0, 0, 0)) := by decide +kernel
theorem s_X11_lands_121 {ca : Nat → List Value → tM → tO} {M : tM} {L : tL} {x : Int32} : rn ca C_X11_lands 121 L [.int x] M = some (some (.int x), M) := (rn_at k_X11_lands_121).trans rfl
theorem k_X11_signs_0 : lk 0 C_X11_signs = some (.iload_n 1, (0, 0, 0, 0)) := by decide +kernel
theorem s_X11_signs_0 {ca : Nat → List Value → tM → tO} {M : tM} {a0 a2 : Option Value} {x : Int32} {S : List Value} : rn ca C_X11_signs 0 [a0, some (.int x), a2] S M = rn ca C_X11_signs 1 [a0, some (.int x), a2] (.int x :: S) M := (rn_at k_X11_signs_0).trans rfl
theorem k_X11_signs_1 : lk 1 C_X11_signs = some (.lookupswitch 95 #[(0, 35), (3, 66), (5, 80)], (0, 0, 0, 0)) := by decide +kernel
theorem s_X11_signs_1 {ca : Nat → List Value → tM → tO} {M : tM} {L : tL} {x : Int32} {S : List Value} : rn ca C_X11_signs 1 L (.int x :: S) M = if x = iI 0 then rn ca C_X11_signs 36 L S M else if x = iI 3 then rn ca C_X11_signs 67 L S M else if x = iI 5 then rn ca C_X11_signs 81 L S M else rn ca C_X11_signs 96 L S M := by rw [rn_at k_X11_signs_1]; simp only [ta, tsw, lsw, rnx_ite]; rfl
theorem k_X11_signs_36 : lk 36 C_X11_signs = some (.aload_n 0, (0, 0, 0, 0)) := by decide +kernel
theorem s_X11_signs_36 {ca : Nat → List Value → tM → tO} {M : tM} {a1 a2 : Option Value} {x : Nat} {S : List Value} : rn ca C_X11_signs 36 [some (.ref x), a1, a2] S M = rn ca C_X11_signs 37 [some (.ref x), a1, a2] (.ref x :: S) M := (rn_at k_X11_signs_36).trans rfl
theorem k_X11_signs_37 : lk 37 C_X11_signs = some (.bipush 12, (0, 0, 0, 0)) := by decide +kernel
theorem s_X11_signs_37 {ca : Nat → List Value → tM → tO} {M : tM} {L : tL} {S : List Value} : rn ca C_X11_signs 37 L S M = rn ca C_X11_signs 39 L (.int (iI 12) :: S) M := (rn_at k_X11_signs_37).trans rfl
theorem k_X11_signs_39 : lk 39 C_X11_signs = some (.invokevirtual 313, (229, 1, 11, 1202)) := by decide +kernel
theorem s_X11_signs_39 {ca : Nat → List Value → tM → tO} {M : tM} {L : tL} {v1 : Value} {b : Nat} : rn ca C_X11_signs 39 L [v1, .ref b] M = if clsO b = some 11 then rnk ca C_X11_signs 42 L [] (ca m_X11_began [.ref b, v1] M) else none := (rn_at k_X11_signs_39).trans rnx_ite
theorem k_X11_signs_42 : lk 42 C_X11_signs = some (.aload_n 0, (0, 0, 0, 0)) := by decide +kernel
theorem s_X11_signs_42 {ca : Nat → List Value → tM → tO} {M : tM} {a1 a2 : Option Value} {x : Nat} {S : List Value} : rn ca C_X11_signs 42 [some (.ref x), a1, a2] S M = rn ca C_X11_signs 43 [some (.ref x), a1, a2] (.ref x :: S) M := (rn_at k_X11_signs_42).trans rfl
theorem k_X11_signs_43 : lk 43 C_X11_signs = some (.aload_n 0, (0, 0, 0, 0)) := by decide +kernel
theorem s_X11_signs_43 {ca : Nat → List Value → tM → tO} {M : tM} {a1 a2 : Option Value} {x : Nat} {S : List Value} : rn ca C_X11_signs 43 [some (.ref x), a1, a2] S M = rn ca C_X11_signs 44 [some (.ref x), a1, a2] (.ref x :: S) M := (rn_at k_X11_signs_43).trans rfl
theorem k_X11_signs_44 : lk 44 C_X11_signs = some (.getfield 326, (11, 25, 0, 1197)) := by decide +kernel
theorem s_X11_signs_44 {ca : Nat → List Value → tM → tO} {M : tM} {L : tL} {b : Nat} {S : List Value} : rn ca C_X11_signs 44 L (.ref b :: S) M = if clsO b = some 11 then rn ca C_X11_signs 47 L (fv M b 25 :: S) M else none := (rn_at k_X11_signs_44).trans rnx_ite
theorem k_X11_signs_47 : lk 47 C_X11_signs = some (.iload_n 2, (0, 0, 0, 0)) := by decide +kernel
theorem s_X11_signs_47 {ca : Nat → List Value → tM → tO} {M : tM} {a0 a1 : Option Value} {x : Int32} {S : List Value} : rn ca C_X11_signs 47 [a0, a1, some (.int x)] S M = rn ca C_X11_signs 48 [a0, a1, some (.int x)] (.int x :: S) M := (rn_at k_X11_signs_47).trans rfl
theorem k_X11_signs_48 : lk 48 C_X11_signs = some (.invokevirtual 329, (231, 2, 11, 1206)) := by decide +kernel
theorem s_X11_signs_48 {ca : Nat → List Value → tM → tO} {M : tM} {L : tL} {v1 v2 : Value} {b : Nat} : rn ca C_X11_signs 48 L [v2, v1, .ref b] M = if clsO b = some 11 then rnk ca C_X11_signs 51 L [] (ca m_X11_lands [.ref b, v1, v2] M) else none := (rn_at k_X11_signs_48).trans rnx_ite
theorem k_X11_signs_51 : lk 51 C_X11_signs = some (.aload_n 0, (0, 0, 0, 0)) := by decide +kernel
theorem s_X11_signs_51 {ca : Nat → List Value → tM → tO} {M : tM} {a1 a2 : Option Value} {x : Nat} {S : List Value} : rn ca C_X11_signs 51 [some (.ref x), a1, a2] S M = rn ca C_X11_signs 52 [some (.ref x), a1, a2] (.ref x :: S) M := (rn_at k_X11_signs_51).trans rfl
theorem k_X11_signs_52 : lk 52 C_X11_signs = some (.aload_n 0, (0, 0, 0, 0)) := by decide +kernel
theorem s_X11_signs_52 {ca : Nat → List Value → tM → tO} {M : tM} {a1 a2 : Option Value} {x : Nat} {S : List Value} : rn ca C_X11_signs 52 [some (.ref x), a1, a2] S M = rn ca C_X11_signs 53 [some (.ref x), a1, a2] (.ref x :: S) M := (rn_at k_X11_signs_52).trans rfl
theorem k_X11_signs_53 : lk 53 C_X11_signs = some (.getfield 326, (11, 25, 0, 1197)) := by decide +kernel
theorem s_X11_signs_53 {ca : Nat → List Value → tM → tO} {M : tM} {L : tL} {b : Nat} {S : List Value} : rn ca C_X11_signs 53 L (.ref b :: S) M = if clsO b = some 11 then rn ca C_X11_signs 56 L (fv M b 25 :: S) M else none := (rn_at k_X11_signs_53).trans rnx_ite
theorem k_X11_signs_56 : lk 56 C_X11_signs = some (.iload_n 2, (0, 0, 0, 0)) := by decide +kernel
theorem s_X11_signs_56 {ca : Nat → List Value → tM → tO} {M : tM} {a0 a1 : Option Value} {x : Int32} {S : List Value} : rn ca C_X11_signs 56 [a0, a1, some (.int x)] S M = rn ca C_X11_signs 57 [a0, a1, some (.int x)] (.int x :: S) M := (rn_at k_X11_signs_56).trans rfl
theorem k_X11_signs_57 : lk 57 C_X11_signs = some (.aload_n 0, (0, 0, 0, 0)) := by decide +kernel
theorem s_X11_signs_57 {ca : Nat → List Value → tM → tO} {M : tM} {a1 a2 : Option Value} {x : Nat} {S : List Value} : rn ca C_X11_signs 57 [some (.ref x), a1, a2] S M = rn ca C_X11_signs 58 [some (.ref x), a1, a2] (.ref x :: S) M := (rn_at k_X11_signs_57).trans rfl
theorem k_X11_signs_58 : lk 58 C_X11_signs = some (.getfield 323, (11, 24, 0, 1196)) := by decide +kernel
theorem s_X11_signs_58 {ca : Nat → List Value → tM → tO} {M : tM} {L : tL} {b : Nat} {S : List Value} : rn ca C_X11_signs 58 L (.ref b :: S) M = if clsO b = some 11 then rn ca C_X11_signs 61 L (fv M b 24 :: S) M else none := (rn_at k_X11_signs_58).trans rnx_ite
theorem k_X11_signs_61 : lk 61 C_X11_signs = some (.isub, (0, 0, 0, 0)) := by decide +kernel
theorem s_X11_signs_61 {ca : Nat → List Value → tM → tO} {M : tM} {L : tL} {x y : Int32} {S : List Value} : rn ca C_X11_signs 61 L (.int y :: .int x :: S) M = rn ca C_X11_signs 62 L (.int (x - y) :: S) M := (rn_at k_X11_signs_61).trans rfl
theorem k_X11_signs_62 : lk 62 C_X11_signs = some (.invokevirtual 320, (230, 2, 11, 1198)) := by decide +kernel
theorem s_X11_signs_62 {ca : Nat → List Value → tM → tO} {M : tM} {L : tL} {v1 v2 : Value} {r0 : Int32} {b : Nat} : rn ca C_X11_signs 62 L [v2, v1, .ref b, .int r0] M = if clsO b = some 11 then rnk ca C_X11_signs 65 L [.int r0] (ca m_X11_hisses [.ref b, v1, v2] M) else none := (rn_at k_X11_signs_62).trans rnx_ite
theorem k_X11_signs_65 : lk 65 C_X11_signs = some (.ixor, (0, 0, 0, 0)) := by decide +kernel
theorem s_X11_signs_65 {ca : Nat → List Value → tM → tO} {M : tM} {L : tL} {x y : Int32} {S : List Value} : rn ca C_X11_signs 65 L (.int y :: .int x :: S) M = rn ca C_X11_signs 66 L (.int (x ^^^ y) :: S) M := (rn_at k_X11_signs_65).trans rfl
theorem k_X11_signs_66 : lk 66 C_X11_signs = some (.ireturn, (0, 0, 0, 0)) := by decide +kernel
theorem s_X11_signs_66 {ca : Nat → List Value → tM → tO} {M : tM} {L : tL} {x : Int32} : rn ca C_X11_signs 66 L [.int x] M = some (some (.int x), M) := (rn_at k_X11_signs_66).trans rfl
theorem k_X11_signs_67 : lk 67 C_X11_signs = some (.aload_n 0, (0, 0, 0, 0)) := by decide +kernel
theorem s_X11_signs_67 {ca : Nat → List Value → tM → tO} {M : tM} {a1 a2 : Option Value} {x : Nat} {S : List Value} : rn ca C_X11_signs 67 [some (.ref x), a1, a2] S M = rn ca C_X11_signs 68 [some (.ref x), a1, a2] (.ref x :: S) M := (rn_at k_X11_signs_67).trans rfl
theorem k_X11_signs_68 : lk 68 C_X11_signs = some (.bipush 40, (0, 0, 0, 0)) := by decide +kernel
theorem s_X11_signs_68 {ca : Nat → List Value → tM → tO} {M : tM} {L : tL} {S : List Value} : rn ca C_X11_signs 68 L S M = rn ca C_X11_signs 70 L (.int (iI 40) :: S) M := (rn_at k_X11_signs_68).trans rfl
theorem k_X11_signs_70 : lk 70 C_X11_signs = some (.invokevirtual 313, (229, 1, 11, 1202)) := by decide +kernel
theorem s_X11_signs_70 {ca : Nat → List Value → tM → tO} {M : tM} {L : tL} {v1 : Value} {b : Nat} : rn ca C_X11_signs 70 L [v1, .ref b] M = if clsO b = some 11 then rnk ca C_X11_signs 73 L [] (ca m_X11_began [.ref b, v1] M) else none := (rn_at k_X11_signs_70).trans rnx_ite
theorem k_X11_signs_73 : lk 73 C_X11_signs = some (.aload_n 0, (0, 0, 0, 0)) := by decide +kernel
theorem s_X11_signs_73 {ca : Nat → List Value → tM → tO} {M : tM} {a1 a2 : Option Value} {x : Nat} {S : List Value} : rn ca C_X11_signs 73 [some (.ref x), a1, a2] S M = rn ca C_X11_signs 74 [some (.ref x), a1, a2] (.ref x :: S) M := (rn_at k_X11_signs_73).trans rfl
theorem k_X11_signs_74 : lk 74 C_X11_signs = some (.iconst 0, (0, 0, 0, 0)) := by decide +kernel
theorem s_X11_signs_74 {ca : Nat → List Value → tM → tO} {M : tM} {L : tL} {S : List Value} : rn ca C_X11_signs 74 L S M = rn ca C_X11_signs 75 L (.int (iI 0) :: S) M := (rn_at k_X11_signs_74).trans rfl
theorem k_X11_signs_75 : lk 75 C_X11_signs = some (.iload_n 2, (0, 0, 0, 0)) := by decide +kernel
theorem s_X11_signs_75 {ca : Nat → List Value → tM → tO} {M : tM} {a0 a1 : Option Value} {x : Int32} {S : List Value} : rn ca C_X11_signs 75 [a0, a1, some (.int x)] S M = rn ca C_X11_signs 76 [a0, a1, some (.int x)] (.int x :: S) M := (rn_at k_X11_signs_75).trans rfl
theorem k_X11_signs_76 : lk 76 C_X11_signs = some (.invokevirtual 332, (232, 2, 11, 1210)) := by decide +kernel
theorem s_X11_signs_76 {ca : Nat → List Value → tM → tO} {M : tM} {L : tL} {v1 v2 : Value} {b : Nat} : rn ca C_X11_signs 76 L [v2, v1, .ref b] M = if clsO b = some 11 then rnk ca C_X11_signs 79 L [] (ca m_X11_signs [.ref b, v1, v2] M) else none := (rn_at k_X11_signs_76).trans rnx_ite
theorem k_X11_signs_79 : lk 79 C_X11_signs = some (.ineg, (0, 0, 0, 0)) := by decide +kernel
theorem s_X11_signs_79 {ca : Nat → List Value → tM → tO} {M : tM} {L : tL} {x : Int32} {S : List Value} : rn ca C_X11_signs 79 L (.int x :: S) M = rn ca C_X11_signs 80 L (.int (-x) :: S) M := (rn_at k_X11_signs_79).trans rfl
theorem k_X11_signs_80 : lk 80 C_X11_signs = some (.ireturn, (0, 0, 0, 0)) := by decide +kernel
theorem s_X11_signs_80 {ca : Nat → List Value → tM → tO} {M : tM} {L : tL} {x : Int32} : rn ca C_X11_signs 80 L [.int x] M = some (some (.int x), M) := (rn_at k_X11_signs_80).trans rfl
theorem k_X11_signs_81 : lk 81 C_X11_signs = some (.aload_n 0, (0, 0, 0, 0)) := by decide +kernel
theorem s_X11_signs_81 {ca : Nat → List Value → tM → tO} {M : tM} {a1 a2 : Option Value} {x : Nat} {S : List Value} : rn ca C_X11_signs 81 [some (.ref x), a1, a2] S M = rn ca C_X11_signs 82 [some (.ref x), a1, a2] (.ref x :: S) M := (rn_at k_X11_signs_81).trans rfl
theorem k_X11_signs_82 : lk 82 C_X11_signs = some (.bipush 60, (0, 0, 0, 0)) := by decide +kernel
theorem s_X11_signs_82 {ca : Nat → List Value → tM → tO} {M : tM} {L : tL} {S : List Value} : rn ca C_X11_signs 82 L S M = rn ca C_X11_signs 84 L (.int (iI 60) :: S) M := (rn_at k_X11_signs_82).trans rfl
theorem k_X11_signs_84 : lk 84 C_X11_signs = some (.invokevirtual 313, (229, 1, 11, 1202)) := by decide +kernel
theorem s_X11_signs_84 {ca : Nat → List Value → tM → tO} {M : tM} {L : tL} {v1 : Value} {b : Nat} : rn ca C_X11_signs 84 L [v1, .ref b] M = if clsO b = some 11 then rnk ca C_X11_signs 87 L [] (ca m_X11_began [.ref b, v1] M) else none := (rn_at k_X11_signs_84).trans rnx_ite
theorem k_X11_signs_87 : lk 87 C_X11_signs = some (.aload_n 0, (0, 0, 0, 0)) := by decide +kernel
theorem s_X11_signs_87 {ca : Nat → List Value → tM → tO} {M : tM} {a1 a2 : Option Value} {x : Nat} {S : List Value} : rn ca C_X11_signs 87 [some (.ref x), a1, a2] S M = rn ca C_X11_signs 88 [some (.ref x), a1, a2] (.ref x :: S) M := (rn_at k_X11_signs_87).trans rfl
theorem k_X11_signs_88 : lk 88 C_X11_signs = some (.iconst 0, (0, 0, 0, 0)) := by decide +kernel
theorem s_X11_signs_88 {ca : Nat → List Value → tM → tO} {M : tM} {L : tL} {S : List Value} : rn ca C_X11_signs 88 L S M = rn ca C_X11_signs 89 L (.int (iI 0) :: S) M := (rn_at k_X11_signs_88).trans rfl
theorem k_X11_signs_89 : lk 89 C_X11_signs = some (.iload_n 2, (0, 0, 0, 0)) := by decide +kernel
theorem s_X11_signs_89 {ca : Nat → List Value → tM → tO} {M : tM} {a0 a1 : Option Value} {x : Int32} {S : List Value} : rn ca C_X11_signs 89 [a0, a1, some (.int x)] S M = rn ca C_X11_signs 90 [a0, a1, some (.int x)] (.int x :: S) M := (rn_at k_X11_signs_89).trans rfl
theorem k_X11_signs_90 : lk 90 C_X11_signs = some (.invokevirtual 332, (232, 2, 11, 1210)) := by decide +kernel
theorem s_X11_signs_90 {ca : Nat → List Value → tM → tO} {M : tM} {L : tL} {v1 v2 : Value} {b : Nat} : rn ca C_X11_signs 90 L [v2, v1, .ref b] M = if clsO b = some 11 then rnk ca C_X11_signs 93 L [] (ca m_X11_signs [.ref b, v1, v2] M) else none := (rn_at k_X11_signs_90).trans rnx_ite
theorem k_X11_signs_93 : lk 93 C_X11_signs = some (.iconst 5, (0, 0, 0, 0)) := by decide +kernel
theorem s_X11_signs_93 {ca : Nat → List Value → tM → tO} {M : tM} {L : tL} {S : List Value} : rn ca C_X11_signs 93 L S M = rn ca C_X11_signs 94 L (.int (iI 5) :: S) M := (rn_at k_X11_signs_93).trans rfl
theorem k_X11_signs_94 : lk 94 C_X11_signs = some (.ixor, (0, 0, 0, 0)) := by decide +kernel
theorem s_X11_signs_94 {ca : Nat → List Value → tM → tO} {M : tM} {L : tL} {x y : Int32} {S : List Value} : rn ca C_X11_signs 94 L (.int y :: .int x :: S) M = rn ca C_X11_signs 95 L (.int (x ^^^ y) :: S) M := (rn_at k_X11_signs_94).trans rfl
theorem k_X11_signs_95 : lk 95 C_X11_signs = some (.ireturn, (0, 0, 0, 0)) := by decide +kernel
theorem s_X11_signs_95 {ca : Nat → List Value → tM → tO} {M : tM} {L : tL} {x : Int32} : rn ca C_X11_signs 95 L [.int x] M = some (some (.int x), M) := (rn_at k_X11_signs_95).trans rfl
theorem k_X11_signs_96 : lk 96 C_X11_signs = some (.aload_n 0, (0, 0, 0, 0)) := by decide +kernel
theorem s_X11_signs_96 {ca : Nat → List Value → tM → tO} {M : tM} {a1 a2 : Option Value} {x : Nat} {S : List Value} : rn ca C_X11_signs 96 [some (.ref x), a1, a2] S M = rn ca C_X11_signs 97 [some (.ref x), a1, a2] (.ref x :: S) M := (rn_at k_X11_signs_96).trans rfl
theorem k_X11_signs_97 : lk 97 C_X11_signs = some (.aload_n 0, (0, 0, 0, 0)) := by decide +kernel
theorem s_X11_signs_97 {ca : Nat → List Value → tM → tO} {M : tM} {a1 a2 : Option Value} {x : Nat} {S : List Value} : rn ca C_X11_signs 97 [some (.ref x), a1, a2] S M = rn ca C_X11_signs 98 [some (.ref x), a1, a2] (.ref x :: S) M := (rn_at k_X11_signs_97).trans rfl
theorem k_X11_signs_98 : lk 98 C_X11_signs = some (.getfield 39, (11, 9, 0, 154)) := by decide +kernel
theorem s_X11_signs_98 {ca : Nat → List Value → tM → tO} {M : tM} {L : tL} {b : Nat} {S : List Value} : rn ca C_X11_signs 98 L (.ref b :: S) M = if clsO b = some 11 then rn ca C_X11_signs 101 L (fv M b 9 :: S) M else none := (rn_at k_X11_signs_98).trans rnx_ite
theorem k_X11_signs_101 : lk 101 C_X11_signs = some (.iload_n 1, (0, 0, 0, 0)) := by decide +kernel
theorem s_X11_signs_101 {ca : Nat → List Value → tM → tO} {M : tM} {a0 a2 : Option Value} {x : Int32} {S : List Value} : rn ca C_X11_signs 101 [a0, some (.int x), a2] S M = rn ca C_X11_signs 102 [a0, some (.int x), a2] (.int x :: S) M := (rn_at k_X11_signs_101).trans rfl
theorem k_X11_signs_102 : lk 102 C_X11_signs = some (.iaload, (0, 0, 0, 0)) := by decide +kernel
theorem s_X11_signs_102 {ca : Nat → List Value → tM → tO} {M : tM} {L : tL} {a : Nat} {i : Int32} {S : List Value} : rn ca C_X11_signs 102 L (.int i :: .ref a :: S) M = if (akind a = 0 ∨ akind a = 6 ∨ akind a = 7) ∧ inb i (alen M a) then rn ca C_X11_signs 103 L (.int (M.1 a i.toInt.toNat) :: S) M else none := (rn_at k_X11_signs_102).trans rnx_ite
theorem k_X11_signs_103 : lk 103 C_X11_signs = some (.iload_n 2, (0, 0, 0, 0)) := by decide +kernel
theorem s_X11_signs_103 {ca : Nat → List Value → tM → tO} {M : tM} {a0 a1 : Option Value} {x : Int32} {S : List Value} : rn ca C_X11_signs 103 [a0, a1, some (.int x)] S M = rn ca C_X11_signs 104 [a0, a1, some (.int x)] (.int x :: S) M := (rn_at k_X11_signs_103).trans rfl
theorem k_X11_signs_104 : lk 104 C_X11_signs = some (.invokevirtual 332, (232, 2, 11, 1210)) := by decide +kernel
theorem s_X11_signs_104 {ca : Nat → List Value → tM → tO} {M : tM} {L : tL} {v1 v2 : Value} {b : Nat} : rn ca C_X11_signs 104 L [v2, v1, .ref b] M = if clsO b = some 11 then rnk ca C_X11_signs 107 L [] (ca m_X11_signs [.ref b, v1, v2] M) else none := (rn_at k_X11_signs_104).trans rnx_ite
theorem k_X11_signs_107 : lk 107 C_X11_signs = some (.ireturn, (0, 0, 0, 0)) := by decide +kernel
theorem s_X11_signs_107 {ca : Nat → List Value → tM → tO} {M : tM} {L : tL} {x : Int32} : rn ca C_X11_signs 107 L [.int x] M = some (some (.int x), M) := (rn_at k_X11_signs_107).trans rfl
theorem k_X11_act_0 : lk 0 C_X11_act = some (.aload_n 0, (0, 0, 0, 0)) := by decide +kernel
theorem s_X11_act_0 {ca : Nat → List Value → tM → tO} {M : tM} {a1 a2 a3 : Option Value} {x : Nat} {S : List Value} : rn ca C_X11_act 0 [some (.ref x), a1, a2, a3] S M = rn ca C_X11_act 1 [some (.ref x), a1, a2, a3] (.ref x :: S) M := (rn_at k_X11_act_0).trans rfl
theorem k_X11_act_1 : lk 1 C_X11_act = some (.iconst 0, (0, 0, 0, 0)) := by decide +kernel
theorem s_X11_act_1 {ca : Nat → List Value → tM → tO} {M : tM} {L : tL} {S : List Value} : rn ca C_X11_act 1 L S M = rn ca C_X11_act 2 L (.int (iI 0) :: S) M := (rn_at k_X11_act_1).trans rfl
theorem k_X11_act_2 : lk 2 C_X11_act = some (.putfield 310, (11, 22, 0, 1194)) := by decide +kernel
theorem s_X11_act_2 {ca : Nat → List Value → tM → tO} {M : tM} {L : tL} {b : Nat} {v : Int32} {S : List Value} : rn ca C_X11_act 2 L (.int v :: .ref b :: S) M = if clsO b = some 11 then rn ca C_X11_act 5 L S (sI M b 22 v) else none := (rn_at k_X11_act_2).trans rnx_ite
theorem k_X11_act_5 : lk 5 C_X11_act = some (.aload_n 0, (0, 0, 0, 0)) := by decide +kernel
theorem s_X11_act_5 {ca : Nat → List Value → tM → tO} {M : tM} {a1 a2 a3 : Option Value} {x : Nat} {S : List Value} : rn ca C_X11_act 5 [some (.ref x), a1, a2, a3] S M = rn ca C_X11_act 6 [some (.ref x), a1, a2, a3] (.ref x :: S) M := (rn_at k_X11_act_5).trans rfl
theorem k_X11_act_6 : lk 6 C_X11_act = some (.iload_n 1, (0, 0, 0, 0)) := by decide +kernel
theorem s_X11_act_6 {ca : Nat → List Value → tM → tO} {M : tM} {a0 a2 a3 : Option Value} {x : Int32} {S : List Value} : rn ca C_X11_act 6 [a0, some (.int x), a2, a3] S M = rn ca C_X11_act 7 [a0, some (.int x), a2, a3] (.int x :: S) M := (rn_at k_X11_act_6).trans rfl
theorem k_X11_act_7 : lk 7 C_X11_act = some (.i2l, (0, 0, 0, 0)) := by decide +kernel
theorem s_X11_act_7 {ca : Nat → List Value → tM → tO} {M : tM} {L : tL} {x : Int32} {S : List Value} : rn ca C_X11_act 7 L (.int x :: S) M = rn ca C_X11_act 8 L (.long x.toInt64 :: S) M := (rn_at k_X11_act_7).trans rfl
theorem k_X11_act_8 : lk 8 C_X11_act = some (.invokevirtual 114, (149, 1, 11, 302)) := by decide +kernel
theorem s_X11_act_8 {ca : Nat → List Value → tM → tO} {M : tM} {L : tL} {v1 : Value} {b : Nat} : rn ca C_X11_act 8 L [v1, .ref b] M = if clsO b = some 11 then rnk ca C_X11_act 11 L [] (ca m_X11_isCapsule [.ref b, v1] M) else none := (rn_at k_X11_act_8).trans rnx_ite
theorem k_X11_act_11 : lk 11 C_X11_act = some (.ifCond .eq 15, (26, 0, 0, 0)) := by decide +kernel
theorem s_X11_act_11 {ca : Nat → List Value → tM → tO} {M : tM} {L : tL} {x : Int32} {S : List Value} : rn ca C_X11_act 11 L (.int x :: S) M = if x = iI 0 then rn ca C_X11_act 26 L S M else rn ca C_X11_act 14 L S M := (rn_at k_X11_act_11).trans rnx_ite
theorem k_X11_act_14 : lk 14 C_X11_act = some (.iload_n 2, (0, 0, 0, 0)) := by decide +kernel
theorem s_X11_act_14 {ca : Nat → List Value → tM → tO} {M : tM} {a0 a1 a3 : Option Value} {x : Int32} {S : List Value} : rn ca C_X11_act 14 [a0, a1, some (.int x), a3] S M = rn ca C_X11_act 15 [a0, a1, some (.int x), a3] (.int x :: S) M := (rn_at k_X11_act_14).trans rfl
theorem k_X11_act_15 : lk 15 C_X11_act = some (.i2l, (0, 0, 0, 0)) := by decide +kernel
theorem s_X11_act_15 {ca : Nat → List Value → tM → tO} {M : tM} {L : tL} {x : Int32} {S : List Value} : rn ca C_X11_act 15 L (.int x :: S) M = rn ca C_X11_act 16 L (.long x.toInt64 :: S) M := (rn_at k_X11_act_15).trans rfl
theorem k_X11_act_16 : lk 16 C_X11_act = some (.lconst 0, (0, 0, 0, 0)) := by decide +kernel
theorem s_X11_act_16 {ca : Nat → List Value → tM → tO} {M : tM} {L : tL} {S : List Value} : rn ca C_X11_act 16 L S M = rn ca C_X11_act 17 L (.long (jJ 0) :: S) M := (rn_at k_X11_act_16).trans rfl
theorem k_X11_act_17 : lk 17 C_X11_act = some (.ldc2_w 236, (0, 0, 2, 748)) := by decide +kernel
theorem s_X11_act_17 {ca : Nat → List Value → tM → tO} {M : tM} {L : tL} {S : List Value} : rn ca C_X11_act 17 L S M = rn ca C_X11_act 20 L (.long (jJ 2) :: S) M := (rn_at k_X11_act_17).trans rfl
theorem k_X11_act_20 : lk 20 C_X11_act = some (.invokestatic 87, (143, 3, 0, 197)) := by decide +kernel
theorem s_X11_act_20 {ca : Nat → List Value → tM → tO} {M : tM} {L : tL} {v1 v2 v3 : Value} : rn ca C_X11_act 20 L [v3, v2, v1] M = rnk ca C_X11_act 23 L [] (ca m_X11_isIn [v1, v2, v3] M) := (rn_at k_X11_act_20).trans rfl
theorem k_X11_act_23 : lk 23 C_X11_act = some (.ifCond .ne 5, (28, 0, 0, 0)) := by decide +kernel
theorem s_X11_act_23 {ca : Nat → List Value → tM → tO} {M : tM} {L : tL} {x : Int32} {S : List Value} : rn ca C_X11_act 23 L (.int x :: S) M = if ¬ x = iI 0 then rn ca C_X11_act 28 L S M else rn ca C_X11_act 26 L S M := (rn_at k_X11_act_23).trans rnx_ite
theorem k_X11_act_26 : lk 26 C_X11_act = some (.iconst 0, (0, 0, 0, 0)) := by decide +kernel
theorem s_X11_act_26 {ca : Nat → List Value → tM → tO} {M : tM} {L : tL} {S : List Value} : rn ca C_X11_act 26 L S M = rn ca C_X11_act 27 L (.int (iI 0) :: S) M := (rn_at k_X11_act_26).trans rfl
theorem k_X11_act_27 : lk 27 C_X11_act = some (.ireturn, (0, 0, 0, 0)) := by decide +kernel
theorem s_X11_act_27 {ca : Nat → List Value → tM → tO} {M : tM} {L : tL} {x : Int32} : rn ca C_X11_act 27 L [.int x] M = some (some (.int x), M) := (rn_at k_X11_act_27).trans rfl
theorem k_X11_act_28 : lk 28 C_X11_act = some (.aload_n 0, (0, 0, 0, 0)) := by decide +kernel
theorem s_X11_act_28 {ca : Nat → List Value → tM → tO} {M : tM} {a1 a2 a3 : Option Value} {x : Nat} {S : List Value} : rn ca C_X11_act 28 [some (.ref x), a1, a2, a3] S M = rn ca C_X11_act 29 [some (.ref x), a1, a2, a3] (.ref x :: S) M := (rn_at k_X11_act_28).trans rfl
theorem k_X11_act_29 : lk 29 C_X11_act = some (.iload_n 1, (0, 0, 0, 0)) := by decide +kernel
theorem s_X11_act_29 {ca : Nat → List Value → tM → tO} {M : tM} {a0 a2 a3 : Option Value} {x : Int32} {S : List Value} : rn ca C_X11_act 29 [a0, some (.int x), a2, a3] S M = rn ca C_X11_act 30 [a0, some (.int x), a2, a3] (.int x :: S) M := (rn_at k_X11_act_29).trans rfl
theorem k_X11_act_30 : lk 30 C_X11_act = some (.putfield 317, (11, 23, 0, 1195)) := by decide +kernel
theorem s_X11_act_30 {ca : Nat → List Value → tM → tO} {M : tM} {L : tL} {b : Nat} {v : Int32} {S : List Value} : rn ca C_X11_act 30 L (.int v :: .ref b :: S) M = if clsO b = some 11 then rn ca C_X11_act 33 L S (sI M b 23 v) else none := (rn_at k_X11_act_30).trans rnx_ite
theorem k_X11_act_33 : lk 33 C_X11_act = some (.aload_n 0, (0, 0, 0, 0)) := by decide +kernel
theorem s_X11_act_33 {ca : Nat → List Value → tM → tO} {M : tM} {a1 a2 a3 : Option Value} {x : Nat} {S : List Value} : rn ca C_X11_act 33 [some (.ref x), a1, a2, a3] S M = rn ca C_X11_act 34 [some (.ref x), a1, a2, a3] (.ref x :: S) M := (rn_at k_X11_act_33).trans rfl
theorem k_X11_act_34 : lk 34 C_X11_act = some (.aload_n 0, (0, 0, 0, 0)) := by decide +kernel
theorem s_X11_act_34 {ca : Nat → List Value → tM → tO} {M : tM} {a1 a2 a3 : Option Value} {x : Nat} {S : List Value} : rn ca C_X11_act 34 [some (.ref x), a1, a2, a3] S M = rn ca C_X11_act 35 [some (.ref x), a1, a2, a3] (.ref x :: S) M := (rn_at k_X11_act_34).trans rfl
theorem k_X11_act_35 : lk 35 C_X11_act = some (.iload_n 1, (0, 0, 0, 0)) := by decide +kernel
theorem s_X11_act_35 {ca : Nat → List Value → tM → tO} {M : tM} {a0 a2 a3 : Option Value} {x : Int32} {S : List Value} : rn ca C_X11_act 35 [a0, some (.int x), a2, a3] S M = rn ca C_X11_act 36 [a0, some (.int x), a2, a3] (.int x :: S) M := (rn_at k_X11_act_35).trans rfl
theorem k_X11_act_36 : lk 36 C_X11_act = some (.invokevirtual 140, (156, 1, 11, 335)) := by decide +kernel
theorem s_X11_act_36 {ca : Nat → List Value → tM → tO} {M : tM} {L : tL} {v1 : Value} {r0 : Nat} {b : Nat} : rn ca C_X11_act 36 L [v1, .ref b, .ref r0] M = if clsO b = some 11 then rnk ca C_X11_act 39 L [.ref r0] (ca m_X11_a [.ref b, v1] M) else none := (rn_at k_X11_act_36).trans rnx_ite
theorem k_X11_act_39 : lk 39 C_X11_act = some (.putfield 323, (11, 24, 0, 1196)) := by decide +kernel
theorem s_X11_act_39 {ca : Nat → List Value → tM → tO} {M : tM} {L : tL} {b : Nat} {v : Int32} {S : List Value} : rn ca C_X11_act 39 L (.int v :: .ref b :: S) M = if clsO b = some 11 then rn ca C_X11_act 42 L S (sI M b 24 v) else none := (rn_at k_X11_act_39).trans rnx_ite
theorem k_X11_act_42 : lk 42 C_X11_act = some (.aload_n 0, (0, 0, 0, 0)) := by decide +kernel
theorem s_X11_act_42 {ca : Nat → List Value → tM → tO} {M : tM} {a1 a2 a3 : Option Value} {x : Nat} {S : List Value} : rn ca C_X11_act 42 [some (.ref x), a1, a2, a3] S M = rn ca C_X11_act 43 [some (.ref x), a1, a2, a3] (.ref x :: S) M := (rn_at k_X11_act_42).trans rfl
theorem k_X11_act_43 : lk 43 C_X11_act = some (.aload_n 0, (0, 0, 0, 0)) := by decide +kernel
theorem s_X11_act_43 {ca : Nat → List Value → tM → tO} {M : tM} {a1 a2 a3 : Option Value} {x : Nat} {S : List Value} : rn ca C_X11_act 43 [some (.ref x), a1, a2, a3] S M = rn ca C_X11_act 44 [some (.ref x), a1, a2, a3] (.ref x :: S) M := (rn_at k_X11_act_43).trans rfl
theorem k_X11_act_44 : lk 44 C_X11_act = some (.iload_n 1, (0, 0, 0, 0)) := by decide +kernel
theorem s_X11_act_44 {ca : Nat → List Value → tM → tO} {M : tM} {a0 a2 a3 : Option Value} {x : Int32} {S : List Value} : rn ca C_X11_act 44 [a0, some (.int x), a2, a3] S M = rn ca C_X11_act 45 [a0, some (.int x), a2, a3] (.int x :: S) M := (rn_at k_X11_act_44).trans rfl
theorem k_X11_act_45 : lk 45 C_X11_act = some (.invokevirtual 134, (155, 1, 11, 327)) := by decide +kernel
theorem s_X11_act_45 {ca : Nat → List Value → tM → tO} {M : tM} {L : tL} {v1 : Value} {r0 : Nat} {b : Nat} : rn ca C_X11_act 45 L [v1, .ref b, .ref r0] M = if clsO b = some 11 then rnk ca C_X11_act 48 L [.ref r0] (ca m_X11_kind [.ref b, v1] M) else none := (rn_at k_X11_act_45).trans rnx_ite
theorem k_X11_act_48 : lk 48 C_X11_act = some (.putfield 326, (11, 25, 0, 1197)) := by decide +kernel
theorem s_X11_act_48 {ca : Nat → List Value → tM → tO} {M : tM} {L : tL} {b : Nat} {v : Int32} {S : List Value} : rn ca C_X11_act 48 L (.int v :: .ref b :: S) M = if clsO b = some 11 then rn ca C_X11_act 51 L S (sI M b 25 v) else none := (rn_at k_X11_act_48).trans rnx_ite
theorem k_X11_act_51 : lk 51 C_X11_act = some (.iload_n 2, (0, 0, 0, 0)) := by decide +kernel
theorem s_X11_act_51 {ca : Nat → List Value → tM → tO} {M : tM} {a0 a1 a3 : Option Value} {x : Int32} {S : List Value} : rn ca C_X11_act 51 [a0, a1, some (.int x), a3] S M = rn ca C_X11_act 52 [a0, a1, some (.int x), a3] (.int x :: S) M := (rn_at k_X11_act_51).trans rfl
theorem k_X11_act_52 : lk 52 C_X11_act = some (.ifCond .ne 15, (67, 0, 0, 0)) := by decide +kernel
theorem s_X11_act_52 {ca : Nat → List Value → tM → tO} {M : tM} {L : tL} {x : Int32} {S : List Value} : rn ca C_X11_act 52 L (.int x :: S) M = if ¬ x = iI 0 then rn ca C_X11_act 67 L S M else rn ca C_X11_act 55 L S M := (rn_at k_X11_act_52).trans rnx_ite
theorem k_X11_act_55 : lk 55 C_X11_act = some (.aload_n 0, (0, 0, 0, 0)) := by decide +kernel
theorem s_X11_act_55 {ca : Nat → List Value → tM → tO} {M : tM} {a1 a2 a3 : Option Value} {x : Nat} {S : List Value} : rn ca C_X11_act 55 [some (.ref x), a1, a2, a3] S M = rn ca C_X11_act 56 [some (.ref x), a1, a2, a3] (.ref x :: S) M := (rn_at k_X11_act_55).trans rfl
theorem k_X11_act_56 : lk 56 C_X11_act = some (.aload_n 0, (0, 0, 0, 0)) := by decide +kernel
theorem s_X11_act_56 {ca : Nat → List Value → tM → tO} {M : tM} {a1 a2 a3 : Option Value} {x : Nat} {S : List Value} : rn ca C_X11_act 56 [some (.ref x), a1, a2, a3] S M = rn ca C_X11_act 57 [some (.ref x), a1, a2, a3] (.ref x :: S) M := (rn_at k_X11_act_56).trans rfl
theorem k_X11_act_57 : lk 57 C_X11_act = some (.getfield 326, (11, 25, 0, 1197)) := by decide +kernel
theorem s_X11_act_57 {ca : Nat → List Value → tM → tO} {M : tM} {L : tL} {b : Nat} {S : List Value} : rn ca C_X11_act 57 L (.ref b :: S) M = if clsO b = some 11 then rn ca C_X11_act 60 L (fv M b 25 :: S) M else none := (rn_at k_X11_act_57).trans rnx_ite
theorem k_X11_act_60 : lk 60 C_X11_act = some (.iload_n 3, (0, 0, 0, 0)) := by decide +kernel
theorem s_X11_act_60 {ca : Nat → List Value → tM → tO} {M : tM} {a0 a1 a2 : Option Value} {x : Int32} {S : List Value} : rn ca C_X11_act 60 [a0, a1, a2, some (.int x)] S M = rn ca C_X11_act 61 [a0, a1, a2, some (.int x)] (.int x :: S) M := (rn_at k_X11_act_60).trans rfl
theorem k_X11_act_61 : lk 61 C_X11_act = some (.invokevirtual 320, (230, 2, 11, 1198)) := by decide +kernel
theorem s_X11_act_61 {ca : Nat → List Value → tM → tO} {M : tM} {L : tL} {v1 v2 : Value} {b : Nat} : rn ca C_X11_act 61 L [v2, v1, .ref b] M = if clsO b = some 11 then rnk ca C_X11_act 64 L [] (ca m_X11_hisses [.ref b, v1, v2] M) else none := (rn_at k_X11_act_61).trans rnx_ite
theorem k_X11_act_64 : lk 64 C_X11_act = some (.goto 29, (93, 0, 0, 0)) := by decide +kernel
theorem s_X11_act_64 {ca : Nat → List Value → tM → tO} {M : tM} {L : tL} {S : List Value} : rn ca C_X11_act 64 L S M = rn ca C_X11_act 93 L S M := (rn_at k_X11_act_64).trans rfl
theorem k_X11_act_67 : lk 67 C_X11_act = some (.iload_n 2, (0, 0, 0, 0)) := by decide +kernel
theorem s_X11_act_67 {ca : Nat → List Value → tM → tO} {M : tM} {a0 a1 a3 : Option Value} {x : Int32} {S : List Value} : rn ca C_X11_act 67 [a0, a1, some (.int x), a3] S M = rn ca C_X11_act 68 [a0, a1, some (.int x), a3] (.int x :: S) M := (rn_at k_X11_act_67).trans rfl
theorem k_X11_act_68 : lk 68 C_X11_act = some (.iconst 1, (0, 0, 0, 0)) := by decide +kernel
theorem s_X11_act_68 {ca : Nat → List Value → tM → tO} {M : tM} {L : tL} {S : List Value} : rn ca C_X11_act 68 L S M = rn ca C_X11_act 69 L (.int (iI 1) :: S) M := (rn_at k_X11_act_68).trans rfl
theorem k_X11_act_69 : lk 69 C_X11_act = some (.if_icmp .ne 15, (84, 0, 0, 0)) := by decide +kernel
theorem s_X11_act_69 {ca : Nat → List Value → tM → tO} {M : tM} {L : tL} {x y : Int32} {S : List Value} : rn ca C_X11_act 69 L (.int y :: .int x :: S) M = if ¬ x = y then rn ca C_X11_act 84 L S M else rn ca C_X11_act 72 L S M := (rn_at k_X11_act_69).trans rnx_ite
theorem k_X11_act_72 : lk 72 C_X11_act = some (.aload_n 0, (0, 0, 0, 0)) := by decide +kernel
theorem s_X11_act_72 {ca : Nat → List Value → tM → tO} {M : tM} {a1 a2 a3 : Option Value} {x : Nat} {S : List Value} : rn ca C_X11_act 72 [some (.ref x), a1, a2, a3] S M = rn ca C_X11_act 73 [some (.ref x), a1, a2, a3] (.ref x :: S) M := (rn_at k_X11_act_72).trans rfl
theorem k_X11_act_73 : lk 73 C_X11_act = some (.aload_n 0, (0, 0, 0, 0)) := by decide +kernel
theorem s_X11_act_73 {ca : Nat → List Value → tM → tO} {M : tM} {a1 a2 a3 : Option Value} {x : Nat} {S : List Value} : rn ca C_X11_act 73 [some (.ref x), a1, a2, a3] S M = rn ca C_X11_act 74 [some (.ref x), a1, a2, a3] (.ref x :: S) M := (rn_at k_X11_act_73).trans rfl
theorem k_X11_act_74 : lk 74 C_X11_act = some (.getfield 326, (11, 25, 0, 1197)) := by decide +kernel
theorem s_X11_act_74 {ca : Nat → List Value → tM → tO} {M : tM} {L : tL} {b : Nat} {S : List Value} : rn ca C_X11_act 74 L (.ref b :: S) M = if clsO b = some 11 then rn ca C_X11_act 77 L (fv M b 25 :: S) M else none := (rn_at k_X11_act_74).trans rnx_ite
theorem k_X11_act_77 : lk 77 C_X11_act = some (.iload_n 3, (0, 0, 0, 0)) := by decide +kernel
theorem s_X11_act_77 {ca : Nat → List Value → tM → tO} {M : tM} {a0 a1 a2 : Option Value} {x : Int32} {S : List Value} : rn ca C_X11_act 77 [a0, a1, a2, some (.int x)] S M = rn ca C_X11_act 78 [a0, a1, a2, some (.int x)] (.int x :: S) M := (rn_at k_X11_act_77).trans rfl
theorem k_X11_act_78 : lk 78 C_X11_act = some (.invokevirtual 329, (231, 2, 11, 1206)) := by decide +kernel
theorem s_X11_act_78 {ca : Nat → List Value → tM → tO} {M : tM} {L : tL} {v1 v2 : Value} {b : Nat} : rn ca C_X11_act 78 L [v2, v1, .ref b] M = if clsO b = some 11 then rnk ca C_X11_act 81 L [] (ca m_X11_lands [.ref b, v1, v2] M) else none := (rn_at k_X11_act_78).trans rnx_ite
theorem k_X11_act_81 : lk 81 C_X11_act = some (.goto 12, (93, 0, 0, 0)) := by decide +kernel
theorem s_X11_act_81 {ca : Nat → List Value → tM → tO} {M : tM} {L : tL} {S : List Value} : rn ca C_X11_act 81 L S M = rn ca C_X11_act 93 L S M := (rn_at k_X11_act_81).trans rfl
theorem k_X11_act_84 : lk 84 C_X11_act = some (.aload_n 0, (0, 0, 0, 0)) := by decide +kernel
theorem s_X11_act_84 {ca : Nat → List Value → tM → tO} {M : tM} {a1 a2 a3 : Option Value} {x : Nat} {S : List Value} : rn ca C_X11_act 84 [some (.ref x), a1, a2, a3] S M = rn ca C_X11_act 85 [some (.ref x), a1, a2, a3] (.ref x :: S) M := (rn_at k_X11_act_84).trans rfl
theorem k_X11_act_85 : lk 85 C_X11_act = some (.aload_n 0, (0, 0, 0, 0)) := by decide +kernel
theorem s_X11_act_85 {ca : Nat → List Value → tM → tO} {M : tM} {a1 a2 a3 : Option Value} {x : Nat} {S : List Value} : rn ca C_X11_act 85 [some (.ref x), a1, a2, a3] S M = rn ca C_X11_act 86 [some (.ref x), a1, a2, a3] (.ref x :: S) M := (rn_at k_X11_act_85).trans rfl
theorem k_X11_act_86 : lk 86 C_X11_act = some (.getfield 326, (11, 25, 0, 1197)) := by decide +kernel
theorem s_X11_act_86 {ca : Nat → List Value → tM → tO} {M : tM} {L : tL} {b : Nat} {S : List Value} : rn ca C_X11_act 86 L (.ref b :: S) M = if clsO b = some 11 then rn ca C_X11_act 89 L (fv M b 25 :: S) M else none := (rn_at k_X11_act_86).trans rnx_ite
theorem k_X11_act_89 : lk 89 C_X11_act = some (.iload_n 3, (0, 0, 0, 0)) := by decide +kernel
theorem s_X11_act_89 {ca : Nat → List Value → tM → tO} {M : tM} {a0 a1 a2 : Option Value} {x : Int32} {S : List Value} : rn ca C_X11_act 89 [a0, a1, a2, some (.int x)] S M = rn ca C_X11_act 90 [a0, a1, a2, some (.int x)] (.int x :: S) M := (rn_at k_X11_act_89).trans rfl
theorem k_X11_act_90 : lk 90 C_X11_act = some (.invokevirtual 332, (232, 2, 11, 1210)) := by decide +kernel
theorem s_X11_act_90 {ca : Nat → List Value → tM → tO} {M : tM} {L : tL} {v1 v2 : Value} {b : Nat} : rn ca C_X11_act 90 L [v2, v1, .ref b] M = if clsO b = some 11 then rnk ca C_X11_act 93 L [] (ca m_X11_signs [.ref b, v1, v2] M) else none := (rn_at k_X11_act_90).trans rnx_ite
theorem k_X11_act_93 : lk 93 C_X11_act = some (.ireturn, (0, 0, 0, 0)) := by decide +kernel
theorem s_X11_act_93 {ca : Nat → List Value → tM → tO} {M : tM} {L : tL} {x : Int32} : rn ca C_X11_act 93 L [.int x] M = some (some (.int x), M) := (rn_at k_X11_act_93).trans rfl
theorem k_X11_trace_0 : lk 0 C_X11_trace = some (.iload_n 1, (0, 0, 0, 0)) := by decide +kernel
theorem s_X11_trace_0 {ca : Nat → List Value → tM → tO} {M : tM} {a0 : Option Value} {x : Int32} {S : List Value} : rn ca C_X11_trace 0 [a0, some (.int x)] S M = rn ca C_X11_trace 1 [a0, some (.int x)] (.int x :: S) M := (rn_at k_X11_trace_0).trans rfl
theorem k_X11_trace_1 : lk 1 C_X11_trace = some (.i2l, (0, 0, 0, 0)) := by decide +kernel
theorem s_X11_trace_1 {ca : Nat → List Value → tM → tO} {M : tM} {L : tL} {x : Int32} {S : List Value} : rn ca C_X11_trace 1 L (.int x :: S) M = rn ca C_X11_trace 2 L (.long x.toInt64 :: S) M := (rn_at k_X11_trace_1).trans rfl
theorem k_X11_trace_2 : lk 2 C_X11_trace = some (.lconst 0, (0, 0, 0, 0)) := by decide +kernel
theorem s_X11_trace_2 {ca : Nat → List Value → tM → tO} {M : tM} {L : tL} {S : List Value} : rn ca C_X11_trace 2 L S M = rn ca C_X11_trace 3 L (.long (jJ 0) :: S) M := (rn_at k_X11_trace_2).trans rfl
theorem k_X11_trace_3 : lk 3 C_X11_trace = some (.aload_n 0, (0, 0, 0, 0)) := by decide +kernel
theorem s_X11_trace_3 {ca : Nat → List Value → tM → tO} {M : tM} {a1 : Option Value} {x : Nat} {S : List Value} : rn ca C_X11_trace 3 [some (.ref x), a1] S M = rn ca C_X11_trace 4 [some (.ref x), a1] (.ref x :: S) M := (rn_at k_X11_trace_3).trans rfl
theorem k_X11_trace_4 : lk 4 C_X11_trace = some (.getfield 310, (11, 22, 0, 1194)) := by decide +kernel
theorem s_X11_trace_4 {ca : Nat → List Value → tM → tO} {M : tM} {L : tL} {b : Nat} {S : List Value} : rn ca C_X11_trace 4 L (.ref b :: S) M = if clsO b = some 11 then rn ca C_X11_trace 7 L (fv M b 22 :: S) M else none := (rn_at k_X11_trace_4).trans rnx_ite
theorem k_X11_trace_7 : lk 7 C_X11_trace = some (.bipush 20, (0, 0, 0, 0)) := by decide +kernel
theorem s_X11_trace_7 {ca : Nat → List Value → tM → tO} {M : tM} {L : tL} {S : List Value} : rn ca C_X11_trace 7 L S M = rn ca C_X11_trace 9 L (.int (iI 20) :: S) M := (rn_at k_X11_trace_7).trans rfl
theorem k_X11_trace_9 : lk 9 C_X11_trace = some (.invokestatic 207, (0, 2, 3, 781)) := by decide +kernel
theorem s_X11_trace_9 {ca : Nat → List Value → tM → tO} {M : tM} {L : tL} {x y : Int32} {r0 : Int64} {r1 : Int64} : rn ca C_X11_trace 9 L [.int y, .int x, .long r0, .long r1] M = rn ca C_X11_trace 12 L [.int (mnI x y), .long r0, .long r1] M := (rn_at k_X11_trace_9).trans rfl
theorem k_X11_trace_12 : lk 12 C_X11_trace = some (.iconst 1, (0, 0, 0, 0)) := by decide +kernel
theorem s_X11_trace_12 {ca : Nat → List Value → tM → tO} {M : tM} {L : tL} {S : List Value} : rn ca C_X11_trace 12 L S M = rn ca C_X11_trace 13 L (.int (iI 1) :: S) M := (rn_at k_X11_trace_12).trans rfl
theorem k_X11_trace_13 : lk 13 C_X11_trace = some (.isub, (0, 0, 0, 0)) := by decide +kernel
theorem s_X11_trace_13 {ca : Nat → List Value → tM → tO} {M : tM} {L : tL} {x y : Int32} {S : List Value} : rn ca C_X11_trace 13 L (.int y :: .int x :: S) M = rn ca C_X11_trace 14 L (.int (x - y) :: S) M := (rn_at k_X11_trace_13).trans rfl
theorem k_X11_trace_14 : lk 14 C_X11_trace = some (.i2l, (0, 0, 0, 0)) := by decide +kernel
theorem s_X11_trace_14 {ca : Nat → List Value → tM → tO} {M : tM} {L : tL} {x : Int32} {S : List Value} : rn ca C_X11_trace 14 L (.int x :: S) M = rn ca C_X11_trace 15 L (.long x.toInt64 :: S) M := (rn_at k_X11_trace_14).trans rfl
theorem k_X11_trace_15 : lk 15 C_X11_trace = some (.invokestatic 87, (143, 3, 0, 197)) := by decide +kernel
theorem s_X11_trace_15 {ca : Nat → List Value → tM → tO} {M : tM} {L : tL} {v1 v2 v3 : Value} : rn ca C_X11_trace 15 L [v3, v2, v1] M = rnk ca C_X11_trace 18 L [] (ca m_X11_isIn [v1, v2, v3] M) := (rn_at k_X11_trace_15).trans rfl
theorem k_X11_trace_18 : lk 18 C_X11_trace = some (.ifCond .eq 12, (30, 0, 0, 0)) := by decide +kernel
theorem s_X11_trace_18 {ca : Nat → List Value → tM → tO} {M : tM} {L : tL} {x : Int32} {S : List Value} : rn ca C_X11_trace 18 L (.int x :: S) M = if x = iI 0 then rn ca C_X11_trace 30 L S M else rn ca C_X11_trace 21 L S M := (rn_at k_X11_trace_18).trans rnx_ite
theorem k_X11_trace_21 : lk 21 C_X11_trace = some (.aload_n 0, (0, 0, 0, 0)) := by decide +kernel
theorem s_X11_trace_21 {ca : Nat → List Value → tM → tO} {M : tM} {a1 : Option Value} {x : Nat} {S : List Value} : rn ca C_X11_trace 21 [some (.ref x), a1] S M = rn ca C_X11_trace 22 [some (.ref x), a1] (.ref x :: S) M := (rn_at k_X11_trace_21).trans rfl
theorem k_X11_trace_22 : lk 22 C_X11_trace = some (.getfield 80, (11, 21, 0, 163)) := by decide +kernel
theorem s_X11_trace_22 {ca : Nat → List Value → tM → tO} {M : tM} {L : tL} {b : Nat} {S : List Value} : rn ca C_X11_trace 22 L (.ref b :: S) M = if clsO b = some 11 then rn ca C_X11_trace 25 L (fv M b 21 :: S) M else none := (rn_at k_X11_trace_22).trans rnx_ite
theorem k_X11_trace_25 : lk 25 C_X11_trace = some (.iload_n 1, (0, 0, 0, 0)) := by decide +kernel
theorem s_X11_trace_25 {ca : Nat → List Value → tM → tO} {M : tM} {a0 : Option Value} {x : Int32} {S : List Value} : rn ca C_X11_trace 25 [a0, some (.int x)] S M = rn ca C_X11_trace 26 [a0, some (.int x)] (.int x :: S) M := (rn_at k_X11_trace_25).trans rfl
theorem k_X11_trace_26 : lk 26 C_X11_trace = some (.iaload, (0, 0, 0, 0)) := by decide +kernel
theorem s_X11_trace_26 {ca : Nat → List Value → tM → tO} {M : tM} {L : tL} {a : Nat} {i : Int32} {S : List Value} : rn ca C_X11_trace 26 L (.int i :: .ref a :: S) M = if (akind a = 0 ∨ akind a = 6 ∨ akind a = 7) ∧ inb i (alen M a) then rn ca C_X11_trace 27 L (.int (M.1 a i.toInt.toNat) :: S) M else none := (rn_at k_X11_trace_26).trans rnx_ite
theorem k_X11_trace_27 : lk 27 C_X11_trace = some (.goto 4, (31, 0, 0, 0)) := by decide +kernel
theorem s_X11_trace_27 {ca : Nat → List Value → tM → tO} {M : tM} {L : tL} {S : List Value} : rn ca C_X11_trace 27 L S M = rn ca C_X11_trace 31 L S M := (rn_at k_X11_trace_27).trans rfl
theorem k_X11_trace_30 : lk 30 C_X11_trace = some (.iconst (-1), (0, 0, 0, 0)) := by decide +kernel
theorem s_X11_trace_30 {ca : Nat → List Value → tM → tO} {M : tM} {L : tL} {S : List Value} : rn ca C_X11_trace 30 L S M = rn ca C_X11_trace 31 L (.int (iI (-1)) :: S) M := (rn_at k_X11_trace_30).trans rfl
theorem k_X11_trace_31 : lk 31 C_X11_trace = some (.ireturn, (0, 0, 0, 0)) := by decide +kernel
theorem s_X11_trace_31 {ca : Nat → List Value → tM → tO} {M : tM} {L : tL} {x : Int32} : rn ca C_X11_trace 31 L [.int x] M = some (some (.int x), M) := (rn_at k_X11_trace_31).trans rfl
theorem k_X11_behind_0 : lk 0 C_X11_behind = some (.aload_n 0, (0, 0, 0, 0)) := by decide +kernel
theorem s_X11_behind_0 {ca : Nat → List Value → tM → tO} {M : tM} {a1 a2 a3 a4 a5 : Option Value} {x : Nat} {S : List Value} : rn ca C_X11_behind 0 [some (.ref x), a1, a2, a3, a4, a5] S M = rn ca C_X11_behind 1 [some (.ref x), a1, a2, a3, a4, a5] (.ref x :: S) M := (rn_at k_X11_behind_0).trans rfl
theorem k_X11_behind_1 : lk 1 C_X11_behind = some (.iload_n 1, (0, 0, 0, 0)) := by decide +kernel
theorem s_X11_behind_1 {ca : Nat → List Value → tM → tO} {M : tM} {a0 a2 a3 a4 a5 : Option Value} {x : Int32} {S : List Value} : rn ca C_X11_behind 1 [a0, some (.int x), a2, a3, a4, a5] S M = rn ca C_X11_behind 2 [a0, some (.int x), a2, a3, a4, a5] (.int x :: S) M := (rn_at k_X11_behind_1).trans rfl
theorem k_X11_behind_2 : lk 2 C_X11_behind = some (.iload_n 2, (0, 0, 0, 0)) := by decide +kernel
theorem s_X11_behind_2 {ca : Nat → List Value → tM → tO} {M : tM} {a0 a1 a3 a4 a5 : Option Value} {x : Int32} {S : List Value} : rn ca C_X11_behind 2 [a0, a1, some (.int x), a3, a4, a5] S M = rn ca C_X11_behind 3 [a0, a1, some (.int x), a3, a4, a5] (.int x :: S) M := (rn_at k_X11_behind_2).trans rfl
theorem k_X11_behind_3 : lk 3 C_X11_behind = some (.invokevirtual 300, (219, 2, 11, 1085)) := by decide +kernel
theorem s_X11_behind_3 {ca : Nat → List Value → tM → tO} {M : tM} {L : tL} {v1 v2 : Value} {b : Nat} : rn ca C_X11_behind 3 L [v2, v1, .ref b] M = if clsO b = some 11 then rnk ca C_X11_behind 6 L [] (ca m_X11_legs [.ref b, v1, v2] M) else none := (rn_at k_X11_behind_3).trans rnx_ite
theorem k_X11_behind_6 : lk 6 C_X11_behind = some (.istore 4, (0, 0, 0, 0)) := by decide +kernel
theorem s_X11_behind_6 {ca : Nat → List Value → tM → tO} {M : tM} {a0 a1 a2 a3 a4 a5 : Option Value} {x : Int32} {S : List Value} : rn ca C_X11_behind 6 [a0, a1, a2, a3, a4, a5] (.int x :: S) M = rn ca C_X11_behind 8 [a0, a1, a2, a3, some (.int x), a5] S M := (rn_at k_X11_behind_6).trans rfl
theorem k_X11_behind_8 : lk 8 C_X11_behind = some (.iload_n 3, (0, 0, 0, 0)) := by decide +kernel
theorem s_X11_behind_8 {ca : Nat → List Value → tM → tO} {M : tM} {a0 a1 a2 a4 a5 : Option Value} {x : Int32} {S : List Value} : rn ca C_X11_behind 8 [a0, a1, a2, some (.int x), a4, a5] S M = rn ca C_X11_behind 9 [a0, a1, a2, some (.int x), a4, a5] (.int x :: S) M := (rn_at k_X11_behind_8).trans rfl
theorem k_X11_behind_9 : lk 9 C_X11_behind = some (.i2l, (0, 0, 0, 0)) := by decide +kernel
theorem s_X11_behind_9 {ca : Nat → List Value → tM → tO} {M : tM} {L : tL} {x : Int32} {S : List Value} : rn ca C_X11_behind 9 L (.int x :: S) M = rn ca C_X11_behind 10 L (.long x.toInt64 :: S) M := (rn_at k_X11_behind_9).trans rfl
theorem k_X11_behind_10 : lk 10 C_X11_behind = some (.lconst 0, (0, 0, 0, 0)) := by decide +kernel
theorem s_X11_behind_10 {ca : Nat → List Value → tM → tO} {M : tM} {L : tL} {S : List Value} : rn ca C_X11_behind 10 L S M = rn ca C_X11_behind 11 L (.long (jJ 0) :: S) M := (rn_at k_X11_behind_10).trans rfl
theorem k_X11_behind_11 : lk 11 C_X11_behind = some (.ldc2_w 236, (0, 0, 2, 748)) := by decide +kernel
theorem s_X11_behind_11 {ca : Nat → List Value → tM → tO} {M : tM} {L : tL} {S : List Value} : rn ca C_X11_behind 11 L S M = rn ca C_X11_behind 14 L (.long (jJ 2) :: S) M := (rn_at k_X11_behind_11).trans rfl
theorem k_X11_behind_14 : lk 14 C_X11_behind = some (.invokestatic 87, (143, 3, 0, 197)) := by decide +kernel
theorem s_X11_behind_14 {ca : Nat → List Value → tM → tO} {M : tM} {L : tL} {v1 v2 v3 : Value} : rn ca C_X11_behind 14 L [v3, v2, v1] M = rnk ca C_X11_behind 17 L [] (ca m_X11_isIn [v1, v2, v3] M) := (rn_at k_X11_behind_14).trans rfl
theorem k_X11_behind_17 : lk 17 C_X11_behind = some (.ifCond .eq 18, (35, 0, 0, 0)) := by decide +kernel
theorem s_X11_behind_17 {ca : Nat → List Value → tM → tO} {M : tM} {L : tL} {x : Int32} {S : List Value} : rn ca C_X11_behind 17 L (.int x :: S) M = if x = iI 0 then rn ca C_X11_behind 35 L S M else rn ca C_X11_behind 20 L S M := (rn_at k_X11_behind_17).trans rnx_ite
theorem k_X11_behind_20 : lk 20 C_X11_behind = some (.iload_n 3, (0, 0, 0, 0)) := by decide +kernel
theorem s_X11_behind_20 {ca : Nat → List Value → tM → tO} {M : tM} {a0 a1 a2 a4 a5 : Option Value} {x : Int32} {S : List Value} : rn ca C_X11_behind 20 [a0, a1, a2, some (.int x), a4, a5] S M = rn ca C_X11_behind 21 [a0, a1, a2, some (.int x), a4, a5] (.int x :: S) M := (rn_at k_X11_behind_20).trans rfl
theorem k_X11_behind_21 : lk 21 C_X11_behind = some (.iconst 2, (0, 0, 0, 0)) := by decide +kernel
theorem s_X11_behind_21 {ca : Nat → List Value → tM → tO} {M : tM} {L : tL} {S : List Value} : rn ca C_X11_behind 21 L S M = rn ca C_X11_behind 22 L (.int (iI 2) :: S) M := (rn_at k_X11_behind_21).trans rfl
theorem k_X11_behind_22 : lk 22 C_X11_behind = some (.if_icmp .ne 17, (39, 0, 0, 0)) := by decide +kernel
theorem s_X11_behind_22 {ca : Nat → List Value → tM → tO} {M : tM} {L : tL} {x y : Int32} {S : List Value} : rn ca C_X11_behind 22 L (.int y :: .int x :: S) M = if ¬ x = y then rn ca C_X11_behind 39 L S M else rn ca C_X11_behind 25 L S M := (rn_at k_X11_behind_22).trans rnx_ite
theorem k_X11_behind_25 : lk 25 C_X11_behind = some (.aload_n 0, (0, 0, 0, 0)) := by decide +kernel
theorem s_X11_behind_25 {ca : Nat → List Value → tM → tO} {M : tM} {a1 a2 a3 a4 a5 : Option Value} {x : Nat} {S : List Value} : rn ca C_X11_behind 25 [some (.ref x), a1, a2, a3, a4, a5] S M = rn ca C_X11_behind 26 [some (.ref x), a1, a2, a3, a4, a5] (.ref x :: S) M := (rn_at k_X11_behind_25).trans rfl
theorem k_X11_behind_26 : lk 26 C_X11_behind = some (.getfield 17, (11, 1, 0, 147)) := by decide +kernel
theorem s_X11_behind_26 {ca : Nat → List Value → tM → tO} {M : tM} {L : tL} {b : Nat} {S : List Value} : rn ca C_X11_behind 26 L (.ref b :: S) M = if clsO b = some 11 then rn ca C_X11_behind 29 L (fv M b 1 :: S) M else none := (rn_at k_X11_behind_26).trans rnx_ite
theorem k_X11_behind_29 : lk 29 C_X11_behind = some (.bipush 110, (0, 0, 0, 0)) := by decide +kernel
theorem s_X11_behind_29 {ca : Nat → List Value → tM → tO} {M : tM} {L : tL} {S : List Value} : rn ca C_X11_behind 29 L S M = rn ca C_X11_behind 31 L (.int (iI 110) :: S) M := (rn_at k_X11_behind_29).trans rfl
theorem k_X11_behind_31 : lk 31 C_X11_behind = some (.iaload, (0, 0, 0, 0)) := by decide +kernel
theorem s_X11_behind_31 {ca : Nat → List Value → tM → tO} {M : tM} {L : tL} {a : Nat} {i : Int32} {S : List Value} : rn ca C_X11_behind 31 L (.int i :: .ref a :: S) M = if (akind a = 0 ∨ akind a = 6 ∨ akind a = 7) ∧ inb i (alen M a) then rn ca C_X11_behind 32 L (.int (M.1 a i.toInt.toNat) :: S) M else none := (rn_at k_X11_behind_31).trans rnx_ite
theorem k_X11_behind_32 : lk 32 C_X11_behind = some (.ifCond .ne 7, (39, 0, 0, 0)) := by decide +kernel
theorem s_X11_behind_32 {ca : Nat → List Value → tM → tO} {M : tM} {L : tL} {x : Int32} {S : List Value} : rn ca C_X11_behind 32 L (.int x :: S) M = if ¬ x = iI 0 then rn ca C_X11_behind 39 L S M else rn ca C_X11_behind 35 L S M := (rn_at k_X11_behind_32).trans rnx_ite
theorem k_X11_behind_35 : lk 35 C_X11_behind = some (.iconst 1, (0, 0, 0, 0)) := by decide +kernel
theorem s_X11_behind_35 {ca : Nat → List Value → tM → tO} {M : tM} {L : tL} {S : List Value} : rn ca C_X11_behind 35 L S M = rn ca C_X11_behind 36 L (.int (iI 1) :: S) M := (rn_at k_X11_behind_35).trans rfl
theorem k_X11_behind_36 : lk 36 C_X11_behind = some (.goto 4, (40, 0, 0, 0)) := by decide +kernel
theorem s_X11_behind_36 {ca : Nat → List Value → tM → tO} {M : tM} {L : tL} {S : List Value} : rn ca C_X11_behind 36 L S M = rn ca C_X11_behind 40 L S M := (rn_at k_X11_behind_36).trans rfl
theorem k_X11_behind_39 : lk 39 C_X11_behind = some (.iconst 0, (0, 0, 0, 0)) := by decide +kernel
theorem s_X11_behind_39 {ca : Nat → List Value → tM → tO} {M : tM} {L : tL} {S : List Value} : rn ca C_X11_behind 39 L S M = rn ca C_X11_behind 40 L (.int (iI 0) :: S) M := (rn_at k_X11_behind_39).trans rfl
theorem k_X11_behind_40 : lk 40 C_X11_behind = some (.istore 5, (0, 0, 0, 0)) := by decide +kernel
theorem s_X11_behind_40 {ca : Nat → List Value → tM → tO} {M : tM} {a0 a1 a2 a3 a4 a5 : Option Value} {x : Int32} {S : List Value} : rn ca C_X11_behind 40 [a0, a1, a2, a3, a4, a5] (.int x :: S) M = rn ca C_X11_behind 42 [a0, a1, a2, a3, a4, some (.int x)] S M := (rn_at k_X11_behind_40).trans rfl
theorem k_X11_behind_42 : lk 42 C_X11_behind = some (.iload 5, (0, 0, 0, 0)) := by decide +kernel
theorem s_X11_behind_42 {ca : Nat → List Value → tM → tO} {M : tM} {a0 a1 a2 a3 a4 : Option Value} {x : Int32} {S : List Value} : rn ca C_X11_behind 42 [a0, a1, a2, a3, a4, some (.int x)] S M = rn ca C_X11_behind 44 [a0, a1, a2, a3, a4, some (.int x)] (.int x :: S) M := (rn_at k_X11_behind_42).trans rfl
theorem k_X11_behind_44 : lk 44 C_X11_behind = some (.ifCond .eq 20, (64, 0, 0, 0)) := by decide +kernel
theorem s_X11_behind_44 {ca : Nat → List Value → tM → tO} {M : tM} {L : tL} {x : Int32} {S : List Value} : rn ca C_X11_behind 44 L (.int x :: S) M = if x = iI 0 then rn ca C_X11_behind 64 L S M else rn ca C_X11_behind 47 L S M := (rn_at k_X11_behind_44).trans rnx_ite
theorem k_X11_behind_47 : lk 47 C_X11_behind = some (.iload 4, (0, 0, 0, 0)) := by decide +kernel
theorem s_X11_behind_47 {ca : Nat → List Value → tM → tO} {M : tM} {a0 a1 a2 a3 a5 : Option Value} {x : Int32} {S : List Value} : rn ca C_X11_behind 47 [a0, a1, a2, a3, some (.int x), a5] S M = rn ca C_X11_behind 49 [a0, a1, a2, a3, some (.int x), a5] (.int x :: S) M := (rn_at k_X11_behind_47).trans rfl
theorem k_X11_behind_49 : lk 49 C_X11_behind = some (.iconst 1, (0, 0, 0, 0)) := by decide +kernel
theorem s_X11_behind_49 {ca : Nat → List Value → tM → tO} {M : tM} {L : tL} {S : List Value} : rn ca C_X11_behind 49 L S M = rn ca C_X11_behind 50 L (.int (iI 1) :: S) M := (rn_at k_X11_behind_49).trans rfl
theorem k_X11_behind_50 : lk 50 C_X11_behind = some (.if_icmp .eq 10, (60, 0, 0, 0)) := by decide +kernel
theorem s_X11_behind_50 {ca : Nat → List Value → tM → tO} {M : tM} {L : tL} {x y : Int32} {S : List Value} : rn ca C_X11_behind 50 L (.int y :: .int x :: S) M = if x = y then rn ca C_X11_behind 60 L S M else rn ca C_X11_behind 53 L S M := (rn_at k_X11_behind_50).trans rnx_ite
theorem k_X11_behind_53 : lk 53 C_X11_behind = some (.iload 4, (0, 0, 0, 0)) := by decide +kernel
theorem s_X11_behind_53 {ca : Nat → List Value → tM → tO} {M : tM} {a0 a1 a2 a3 a5 : Option Value} {x : Int32} {S : List Value} : rn ca C_X11_behind 53 [a0, a1, a2, a3, some (.int x), a5] S M = rn ca C_X11_behind 55 [a0, a1, a2, a3, some (.int x), a5] (.int x :: S) M := (rn_at k_X11_behind_53).trans rfl
theorem k_X11_behind_55 : lk 55 C_X11_behind = some (.bipush (-6), (0, 0, 0, 0)) := by decide +kernel
theorem s_X11_behind_55 {ca : Nat → List Value → tM → tO} {M : tM} {L : tL} {S : List Value} : rn ca C_X11_behind 55 L S M = rn ca C_X11_behind 57 L (.int (iI (-6)) :: S) M := (rn_at k_X11_behind_55).trans rfl
theorem k_X11_behind_57 : lk 57 C_X11_behind = some (.if_icmp .ne 7, (64, 0, 0, 0)) := by decide +kernel
theorem s_X11_behind_57 {ca : Nat → List Value → tM → tO} {M : tM} {L : tL} {x y : Int32} {S : List Value} : rn ca C_X11_behind 57 L (.int y :: .int x :: S) M = if ¬ x = y then rn ca C_X11_behind 64 L S M else rn ca C_X11_behind 60 L S M := (rn_at k_X11_behind_57).trans rnx_ite
theorem k_X11_behind_60 : lk 60 C_X11_behind = some (.bipush (-5), (0, 0, 0, 0)) := by decide +kernel
theorem s_X11_behind_60 {ca : Nat → List Value → tM → tO} {M : tM} {L : tL} {S : List Value} : rn ca C_X11_behind 60 L S M = rn ca C_X11_behind 62 L (.int (iI (-5)) :: S) M := (rn_at k_X11_behind_60).trans rfl
theorem k_X11_behind_62 : lk 62 C_X11_behind = some (.istore 4, (0, 0, 0, 0)) := by decide +kernel
theorem s_X11_behind_62 {ca : Nat → List Value → tM → tO} {M : tM} {a0 a1 a2 a3 a4 a5 : Option Value} {x : Int32} {S : List Value} : rn ca C_X11_behind 62 [a0, a1, a2, a3, a4, a5] (.int x :: S) M = rn ca C_X11_behind 64 [a0, a1, a2, a3, some (.int x), a5] S M := (rn_at k_X11_behind_62).trans rfl
theorem k_X11_behind_64 : lk 64 C_X11_behind = some (.iload 4, (0, 0, 0, 0)) := by decide +kernel
theorem s_X11_behind_64 {ca : Nat → List Value → tM → tO} {M : tM} {a0 a1 a2 a3 a5 : Option Value} {x : Int32} {S : List Value} : rn ca C_X11_behind 64 [a0, a1, a2, a3, some (.int x), a5] S M = rn ca C_X11_behind 66 [a0, a1, a2, a3, some (.int x), a5] (.int x :: S) M := (rn_at k_X11_behind_64).trans rfl
theorem k_X11_behind_66 : lk 66 C_X11_behind = some (.ifCond .ge 12, (78, 0, 0, 0)) := by decide +kernel
theorem s_X11_behind_66 {ca : Nat → List Value → tM → tO} {M : tM} {L : tL} {x : Int32} {S : List Value} : rn ca C_X11_behind 66 L (.int x :: S) M = if iI 0 ≤ x then rn ca C_X11_behind 78 L S M else rn ca C_X11_behind 69 L S M := (rn_at k_X11_behind_66).trans rnx_ite
theorem k_X11_behind_69 : lk 69 C_X11_behind = some (.aload_n 0, (0, 0, 0, 0)) := by decide +kernel
theorem s_X11_behind_69 {ca : Nat → List Value → tM → tO} {M : tM} {a1 a2 a3 a4 a5 : Option Value} {x : Nat} {S : List Value} : rn ca C_X11_behind 69 [some (.ref x), a1, a2, a3, a4, a5] S M = rn ca C_X11_behind 70 [some (.ref x), a1, a2, a3, a4, a5] (.ref x :: S) M := (rn_at k_X11_behind_69).trans rfl
theorem k_X11_behind_70 : lk 70 C_X11_behind = some (.iload 4, (0, 0, 0, 0)) := by decide +kernel
theorem s_X11_behind_70 {ca : Nat → List Value → tM → tO} {M : tM} {a0 a1 a2 a3 a5 : Option Value} {x : Int32} {S : List Value} : rn ca C_X11_behind 70 [a0, a1, a2, a3, some (.int x), a5] S M = rn ca C_X11_behind 72 [a0, a1, a2, a3, some (.int x), a5] (.int x :: S) M := (rn_at k_X11_behind_70).trans rfl
theorem k_X11_behind_72 : lk 72 C_X11_behind = some (.invokevirtual 83, (144, 1, 11, 200)) := by decide +kernel
theorem s_X11_behind_72 {ca : Nat → List Value → tM → tO} {M : tM} {L : tL} {v1 : Value} {b : Nat} : rn ca C_X11_behind 72 L [v1, .ref b] M = if clsO b = some 11 then rnk ca C_X11_behind 75 L [] (ca m_X11_refuse [.ref b, v1] M) else none := (rn_at k_X11_behind_72).trans rnx_ite
theorem k_X11_behind_75 : lk 75 C_X11_behind = some (.goto 10, (85, 0, 0, 0)) := by decide +kernel
theorem s_X11_behind_75 {ca : Nat → List Value → tM → tO} {M : tM} {L : tL} {S : List Value} : rn ca C_X11_behind 75 L S M = rn ca C_X11_behind 85 L S M := (rn_at k_X11_behind_75).trans rfl
theorem k_X11_behind_78 : lk 78 C_X11_behind = some (.aload_n 0, (0, 0, 0, 0)) := by decide +kernel
theorem s_X11_behind_78 {ca : Nat → List Value → tM → tO} {M : tM} {a1 a2 a3 a4 a5 : Option Value} {x : Nat} {S : List Value} : rn ca C_X11_behind 78 [some (.ref x), a1, a2, a3, a4, a5] S M = rn ca C_X11_behind 79 [some (.ref x), a1, a2, a3, a4, a5] (.ref x :: S) M := (rn_at k_X11_behind_78).trans rfl
theorem k_X11_behind_79 : lk 79 C_X11_behind = some (.iload_n 1, (0, 0, 0, 0)) := by decide +kernel
theorem s_X11_behind_79 {ca : Nat → List Value → tM → tO} {M : tM} {a0 a2 a3 a4 a5 : Option Value} {x : Int32} {S : List Value} : rn ca C_X11_behind 79 [a0, some (.int x), a2, a3, a4, a5] S M = rn ca C_X11_behind 80 [a0, some (.int x), a2, a3, a4, a5] (.int x :: S) M := (rn_at k_X11_behind_79).trans rfl
theorem k_X11_behind_80 : lk 80 C_X11_behind = some (.iload_n 2, (0, 0, 0, 0)) := by decide +kernel
theorem s_X11_behind_80 {ca : Nat → List Value → tM → tO} {M : tM} {a0 a1 a3 a4 a5 : Option Value} {x : Int32} {S : List Value} : rn ca C_X11_behind 80 [a0, a1, some (.int x), a3, a4, a5] S M = rn ca C_X11_behind 81 [a0, a1, some (.int x), a3, a4, a5] (.int x :: S) M := (rn_at k_X11_behind_80).trans rfl
theorem k_X11_behind_81 : lk 81 C_X11_behind = some (.iload_n 3, (0, 0, 0, 0)) := by decide +kernel
theorem s_X11_behind_81 {ca : Nat → List Value → tM → tO} {M : tM} {a0 a1 a2 a4 a5 : Option Value} {x : Int32} {S : List Value} : rn ca C_X11_behind 81 [a0, a1, a2, some (.int x), a4, a5] S M = rn ca C_X11_behind 82 [a0, a1, a2, some (.int x), a4, a5] (.int x :: S) M := (rn_at k_X11_behind_81).trans rfl
theorem k_X11_behind_82 : lk 82 C_X11_behind = some (.invokevirtual 334, (223, 3, 11, 1111)) := by decide +kernel
theorem s_X11_behind_82 {ca : Nat → List Value → tM → tO} {M : tM} {L : tL} {v1 v2 v3 : Value} {b : Nat} : rn ca C_X11_behind 82 L [v3, v2, v1, .ref b] M = if clsO b = some 11 then rnk ca C_X11_behind 85 L [] (ca m_X11_after [.ref b, v1, v2, v3] M) else none := (rn_at k_X11_behind_82).trans rnx_ite
theorem k_X11_behind_85 : lk 85 C_X11_behind = some (.ireturn, (0, 0, 0, 0)) := by decide +kernel
theorem s_X11_behind_85 {ca : Nat → List Value → tM → tO} {M : tM} {L : tL} {x : Int32} : rn ca C_X11_behind 85 L [.int x] M = some (some (.int x), M) := (rn_at k_X11_behind_85).trans rfl
theorem k_X11_image_0 : lk 0 C_X11_image = some (.aload_n 0, (0, 0, 0, 0)) := by decide +kernel
theorem s_X11_image_0 {ca : Nat → List Value → tM → tO} {M : tM} {x : Nat} {S : List Value} : rn ca C_X11_image 0 [some (.ref x)] S M = rn ca C_X11_image 1 [some (.ref x)] (.ref x :: S) M := (rn_at k_X11_image_0).trans rfl
theorem k_X11_image_1 : lk 1 C_X11_image = some (.getfield 17, (11, 1, 0, 147)) := by decide +kernel
theorem s_X11_image_1 {ca : Nat → List Value → tM → tO} {M : tM} {L : tL} {b : Nat} {S : List Value} : rn ca C_X11_image 1 L (.ref b :: S) M = if clsO b = some 11 then rn ca C_X11_image 4 L (fv M b 1 :: S) M else none := (rn_at k_X11_image_1).trans rnx_ite
theorem k_X11_image_4 : lk 4 C_X11_image = some (.aload_n 0, (0, 0, 0, 0)) := by decide +kernel
theorem s_X11_image_4 {ca : Nat → List Value → tM → tO} {M : tM} {x : Nat} {S : List Value} : rn ca C_X11_image 4 [some (.ref x)] S M = rn ca C_X11_image 5 [some (.ref x)] (.ref x :: S) M := (rn_at k_X11_image_4).trans rfl
theorem k_X11_image_5 : lk 5 C_X11_image = some (.getfield 20, (11, 2, 0, 148)) := by decide +kernel
theorem s_X11_image_5 {ca : Nat → List Value → tM → tO} {M : tM} {L : tL} {b : Nat} {S : List Value} : rn ca C_X11_image 5 L (.ref b :: S) M = if clsO b = some 11 then rn ca C_X11_image 8 L (fv M b 2 :: S) M else none := (rn_at k_X11_image_5).trans rnx_ite
theorem k_X11_image_8 : lk 8 C_X11_image = some (.invokestatic 183, (146, 2, 0, 616)) := by decide +kernel
theorem s_X11_image_8 {ca : Nat → List Value → tM → tO} {M : tM} {L : tL} {v1 v2 : Value} : rn ca C_X11_image 8 L [v2, v1] M = rnk ca C_X11_image 11 L [] (ca m_X11_move [v1, v2] M) := (rn_at k_X11_image_8).trans rfl
theorem k_X11_image_11 : lk 11 C_X11_image = some (.aload_n 0, (0, 0, 0, 0)) := by decide +kernel
theorem s_X11_image_11 {ca : Nat → List Value → tM → tO} {M : tM} {x : Nat} {S : List Value} : rn ca C_X11_image 11 [some (.ref x)] S M = rn ca C_X11_image 12 [some (.ref x)] (.ref x :: S) M := (rn_at k_X11_image_11).trans rfl
theorem k_X11_image_12 : lk 12 C_X11_image = some (.iconst 1, (0, 0, 0, 0)) := by decide +kernel
theorem s_X11_image_12 {ca : Nat → List Value → tM → tO} {M : tM} {L : tL} {S : List Value} : rn ca C_X11_image 12 L S M = rn ca C_X11_image 13 L (.int (iI 1) :: S) M := (rn_at k_X11_image_12).trans rfl
theorem k_X11_image_13 : lk 13 C_X11_image = some (.putfield 337, (11, 4, 1, 1234)) := by decide +kernel
theorem s_X11_image_13 {ca : Nat → List Value → tM → tO} {M : tM} {L : tL} {b : Nat} {v : Int32} {S : List Value} : rn ca C_X11_image 13 L (.int v :: .ref b :: S) M = if clsO b = some 11 then (if v = iI 0 ∨ v = iI 1 then rn ca C_X11_image 16 L S (sI M b 4 v) else none) else none := by rw [rn_at k_X11_image_13]; simp only [ta, rnx_ite]; rfl
theorem k_X11_image_16 : lk 16 C_X11_image = some (.aload_n 0, (0, 0, 0, 0)) := by decide +kernel
theorem s_X11_image_16 {ca : Nat → List Value → tM → tO} {M : tM} {x : Nat} {S : List Value} : rn ca C_X11_image 16 [some (.ref x)] S M = rn ca C_X11_image 17 [some (.ref x)] (.ref x :: S) M := (rn_at k_X11_image_16).trans rfl
theorem k_X11_image_17 : lk 17 C_X11_image = some (.getfield 17, (11, 1, 0, 147)) := by decide +kernel
theorem s_X11_image_17 {ca : Nat → List Value → tM → tO} {M : tM} {L : tL} {b : Nat} {S : List Value} : rn ca C_X11_image 17 L (.ref b :: S) M = if clsO b = some 11 then rn ca C_X11_image 20 L (fv M b 1 :: S) M else none := (rn_at k_X11_image_17).trans rnx_ite
theorem k_X11_image_20 : lk 20 C_X11_image = some (.bipush 110, (0, 0, 0, 0)) := by decide +kernel
theorem s_X11_image_20 {ca : Nat → List Value → tM → tO} {M : tM} {L : tL} {S : List Value} : rn ca C_X11_image 20 L S M = rn ca C_X11_image 22 L (.int (iI 110) :: S) M := (rn_at k_X11_image_20).trans rfl
theorem k_X11_image_22 : lk 22 C_X11_image = some (.iaload, (0, 0, 0, 0)) := by decide +kernel
theorem s_X11_image_22 {ca : Nat → List Value → tM → tO} {M : tM} {L : tL} {a : Nat} {i : Int32} {S : List Value} : rn ca C_X11_image 22 L (.int i :: .ref a :: S) M = if (akind a = 0 ∨ akind a = 6 ∨ akind a = 7) ∧ inb i (alen M a) then rn ca C_X11_image 23 L (.int (M.1 a i.toInt.toNat) :: S) M else none := (rn_at k_X11_image_22).trans rnx_ite
theorem k_X11_image_23 : lk 23 C_X11_image = some (.ireturn, (0, 0, 0, 0)) := by decide +kernel
theorem s_X11_image_23 {ca : Nat → List Value → tM → tO} {M : tM} {L : tL} {x : Int32} : rn ca C_X11_image 23 L [.int x] M = some (some (.int x), M) := (rn_at k_X11_image_23).trans rfl
theorem k_X11_restore_0 : lk 0 C_X11_restore = some (.aload_n 0, (0, 0, 0, 0)) := by decide +kernel
theorem s_X11_restore_0 {ca : Nat → List Value → tM → tO} {M : tM} {a1 : Option Value} {x : Nat} {S : List Value} : rn ca C_X11_restore 0 [some (.ref x), a1] S M = rn ca C_X11_restore 1 [some (.ref x), a1] (.ref x :: S) M := (rn_at k_X11_restore_0).trans rfl
theorem k_X11_restore_1 : lk 1 C_X11_restore = some (.getfield 337, (11, 4, 1, 1234)) := by decide +kernel
theorem s_X11_restore_1 {ca : Nat → List Value → tM → tO} {M : tM} {L : tL} {b : Nat} {S : List Value} : rn ca C_X11_restore 1 L (.ref b :: S) M = if clsO b = some 11 then rn ca C_X11_restore 4 L (fv M b 4 :: S) M else none := (rn_at k_X11_restore_1).trans rnx_ite
theorem k_X11_restore_4 : lk 4 C_X11_restore = some (.ifCond .ne 10, (14, 0, 0, 0)) := by decide +kernel
theorem s_X11_restore_4 {ca : Nat → List Value → tM → tO} {M : tM} {L : tL} {x : Int32} {S : List Value} : rn ca C_X11_restore 4 L (.int x :: S) M = if ¬ x = iI 0 then rn ca C_X11_restore 14 L S M else rn ca C_X11_restore 7 L S M := (rn_at k_X11_restore_4).trans rnx_ite
theorem k_X11_restore_7 : lk 7 C_X11_restore = some (.aload_n 0, (0, 0, 0, 0)) := by decide +kernel
theorem s_X11_restore_7 {ca : Nat → List Value → tM → tO} {M : tM} {a1 : Option Value} {x : Nat} {S : List Value} : rn ca C_X11_restore 7 [some (.ref x), a1] S M = rn ca C_X11_restore 8 [some (.ref x), a1] (.ref x :: S) M := (rn_at k_X11_restore_7).trans rfl
theorem k_X11_restore_8 : lk 8 C_X11_restore = some (.bipush (-6), (0, 0, 0, 0)) := by decide +kernel
theorem s_X11_restore_8 {ca : Nat → List Value → tM → tO} {M : tM} {L : tL} {S : List Value} : rn ca C_X11_restore 8 L S M = rn ca C_X11_restore 10 L (.int (iI (-6)) :: S) M := (rn_at k_X11_restore_8).trans rfl
theorem k_X11_restore_10 : lk 10 C_X11_restore = some (.invokevirtual 83, (144, 1, 11, 200)) := by decide +kernel
theorem s_X11_restore_10 {ca : Nat → List Value → tM → tO} {M : tM} {L : tL} {v1 : Value} {b : Nat} : rn ca C_X11_restore 10 L [v1, .ref b] M = if clsO b = some 11 then rnk ca C_X11_restore 13 L [] (ca m_X11_refuse [.ref b, v1] M) else none := (rn_at k_X11_restore_10).trans rnx_ite
theorem k_X11_restore_13 : lk 13 C_X11_restore = some (.ireturn, (0, 0, 0, 0)) := by decide +kernel
theorem s_X11_restore_13 {ca : Nat → List Value → tM → tO} {M : tM} {L : tL} {x : Int32} : rn ca C_X11_restore 13 L [.int x] M = some (some (.int x), M) := (rn_at k_X11_restore_13).trans rfl
theorem k_X11_restore_14 : lk 14 C_X11_restore = some (.aload_n 0, (0, 0, 0, 0)) := by decide +kernel
theorem s_X11_restore_14 {ca : Nat → List Value → tM → tO} {M : tM} {a1 : Option Value} {x : Nat} {S : List Value} : rn ca C_X11_restore 14 [some (.ref x), a1] S M = rn ca C_X11_restore 15 [some (.ref x), a1] (.ref x :: S) M := (rn_at k_X11_restore_14).trans rfl
theorem k_X11_restore_15 : lk 15 C_X11_restore = some (.getfield 20, (11, 2, 0, 148)) := by decide +kernel
theorem s_X11_restore_15 {ca : Nat → List Value → tM → tO} {M : tM} {L : tL} {b : Nat} {S : List Value} : rn ca C_X11_restore 15 L (.ref b :: S) M = if clsO b = some 11 then rn ca C_X11_restore 18 L (fv M b 2 :: S) M else none := (rn_at k_X11_restore_15).trans rnx_ite
theorem k_X11_restore_18 : lk 18 C_X11_restore = some (.aload_n 0, (0, 0, 0, 0)) := by decide +kernel
theorem s_X11_restore_18 {ca : Nat → List Value → tM → tO} {M : tM} {a1 : Option Value} {x : Nat} {S : List Value} : rn ca C_X11_restore 18 [some (.ref x), a1] S M = rn ca C_X11_restore 19 [some (.ref x), a1] (.ref x :: S) M := (rn_at k_X11_restore_18).trans rfl
theorem k_X11_restore_19 : lk 19 C_X11_restore = some (.getfield 17, (11, 1, 0, 147)) := by decide +kernel
theorem s_X11_restore_19 {ca : Nat → List Value → tM → tO} {M : tM} {L : tL} {b : Nat} {S : List Value} : rn ca C_X11_restore 19 L (.ref b :: S) M = if clsO b = some 11 then rn ca C_X11_restore 22 L (fv M b 1 :: S) M else none := (rn_at k_X11_restore_19).trans rnx_ite
theorem k_X11_restore_22 : lk 22 C_X11_restore = some (.invokestatic 183, (146, 2, 0, 616)) := by decide +kernel
theorem s_X11_restore_22 {ca : Nat → List Value → tM → tO} {M : tM} {L : tL} {v1 v2 : Value} : rn ca C_X11_restore 22 L [v2, v1] M = rnk ca C_X11_restore 25 L [] (ca m_X11_move [v1, v2] M) := (rn_at k_X11_restore_22).trans rfl
theorem k_X11_restore_25 : lk 25 C_X11_restore = some (.iconst 0, (0, 0, 0, 0)) := by decide +kernel
theorem s_X11_restore_25 {ca : Nat → List Value → tM → tO} {M : tM} {L : tL} {S : List Value} : rn ca C_X11_restore 25 L S M = rn ca C_X11_restore 26 L (.int (iI 0) :: S) M := (rn_at k_X11_restore_25).trans rfl
theorem k_X11_restore_26 : lk 26 C_X11_restore = some (.istore_n 1, (0, 0, 0, 0)) := by decide +kernel
theorem s_X11_restore_26 {ca : Nat → List Value → tM → tO} {M : tM} {a0 a1 : Option Value} {x : Int32} {S : List Value} : rn ca C_X11_restore 26 [a0, a1] (.int x :: S) M = rn ca C_X11_restore 27 [a0, some (.int x)] S M := (rn_at k_X11_restore_26).trans rfl
theorem k_X11_restore_27 : lk 27 C_X11_restore = some (.iload_n 1, (0, 0, 0, 0)) := by decide +kernel
theorem s_X11_restore_27 {ca : Nat → List Value → tM → tO} {M : tM} {a0 : Option Value} {x : Int32} {S : List Value} : rn ca C_X11_restore 27 [a0, some (.int x)] S M = rn ca C_X11_restore 28 [a0, some (.int x)] (.int x :: S) M := (rn_at k_X11_restore_27).trans rfl
theorem k_X11_restore_28 : lk 28 C_X11_restore = some (.bipush 8, (0, 0, 0, 0)) := by decide +kernel
theorem s_X11_restore_28 {ca : Nat → List Value → tM → tO} {M : tM} {L : tL} {S : List Value} : rn ca C_X11_restore 28 L S M = rn ca C_X11_restore 30 L (.int (iI 8) :: S) M := (rn_at k_X11_restore_28).trans rfl
theorem k_X11_restore_30 : lk 30 C_X11_restore = some (.if_icmp .ge 47, (77, 0, 0, 0)) := by decide +kernel
theorem s_X11_restore_30 {ca : Nat → List Value → tM → tO} {M : tM} {L : tL} {x y : Int32} {S : List Value} : rn ca C_X11_restore 30 L (.int y :: .int x :: S) M = if y ≤ x then rn ca C_X11_restore 77 L S M else rn ca C_X11_restore 33 L S M := (rn_at k_X11_restore_30).trans rnx_ite
theorem k_X11_restore_33 : lk 33 C_X11_restore = some (.aload_n 0, (0, 0, 0, 0)) := by decide +kernel
theorem s_X11_restore_33 {ca : Nat → List Value → tM → tO} {M : tM} {a1 : Option Value} {x : Nat} {S : List Value} : rn ca C_X11_restore 33 [some (.ref x), a1] S M = rn ca C_X11_restore 34 [some (.ref x), a1] (.ref x :: S) M := (rn_at k_X11_restore_33).trans rfl
theorem k_X11_restore_34 : lk 34 C_X11_restore = some (.getfield 26, (11, 5, 0, 150)) := by decide +kernel
theorem s_X11_restore_34 {ca : Nat → List Value → tM → tO} {M : tM} {L : tL} {b : Nat} {S : List Value} : rn ca C_X11_restore 34 L (.ref b :: S) M = if clsO b = some 11 then rn ca C_X11_restore 37 L (fv M b 5 :: S) M else none := (rn_at k_X11_restore_34).trans rnx_ite
theorem k_X11_restore_37 : lk 37 C_X11_restore = some (.iload_n 1, (0, 0, 0, 0)) := by decide +kernel
theorem s_X11_restore_37 {ca : Nat → List Value → tM → tO} {M : tM} {a0 : Option Value} {x : Int32} {S : List Value} : rn ca C_X11_restore 37 [a0, some (.int x)] S M = rn ca C_X11_restore 38 [a0, some (.int x)] (.int x :: S) M := (rn_at k_X11_restore_37).trans rfl
theorem k_X11_restore_38 : lk 38 C_X11_restore = some (.aload_n 0, (0, 0, 0, 0)) := by decide +kernel
theorem s_X11_restore_38 {ca : Nat → List Value → tM → tO} {M : tM} {a1 : Option Value} {x : Nat} {S : List Value} : rn ca C_X11_restore 38 [some (.ref x), a1] S M = rn ca C_X11_restore 39 [some (.ref x), a1] (.ref x :: S) M := (rn_at k_X11_restore_38).trans rfl
theorem k_X11_restore_39 : lk 39 C_X11_restore = some (.iload_n 1, (0, 0, 0, 0)) := by decide +kernel
theorem s_X11_restore_39 {ca : Nat → List Value → tM → tO} {M : tM} {a0 : Option Value} {x : Int32} {S : List Value} : rn ca C_X11_restore 39 [a0, some (.int x)] S M = rn ca C_X11_restore 40 [a0, some (.int x)] (.int x :: S) M := (rn_at k_X11_restore_39).trans rfl
theorem k_X11_restore_40 : lk 40 C_X11_restore = some (.invokevirtual 131, (174, 1, 11, 269)) := by decide +kernel
theorem s_X11_restore_40 {ca : Nat → List Value → tM → tO} {M : tM} {L : tL} {v1 : Value} {r0 : Int32} {r1 : Nat} {b : Nat} : rn ca C_X11_restore 40 L [v1, .ref b, .int r0, .ref r1] M = if clsO b = some 11 then rnk ca C_X11_restore 43 L [.int r0, .ref r1] (ca m_X11_isCapsuleIn [.ref b, v1] M) else none := (rn_at k_X11_restore_40).trans rnx_ite
theorem k_X11_restore_43 : lk 43 C_X11_restore = some (.ifCond .eq 21, (64, 0, 0, 0)) := by decide +kernel
theorem s_X11_restore_43 {ca : Nat → List Value → tM → tO} {M : tM} {L : tL} {x : Int32} {S : List Value} : rn ca C_X11_restore 43 L (.int x :: S) M = if x = iI 0 then rn ca C_X11_restore 64 L S M else rn ca C_X11_restore 46 L S M := (rn_at k_X11_restore_43).trans rnx_ite
theorem k_X11_restore_46 : lk 46 C_X11_restore = some (.aload_n 0, (0, 0, 0, 0)) := by decide +kernel
theorem s_X11_restore_46 {ca : Nat → List Value → tM → tO} {M : tM} {a1 : Option Value} {x : Nat} {S : List Value} : rn ca C_X11_restore 46 [some (.ref x), a1] S M = rn ca C_X11_restore 47 [some (.ref x), a1] (.ref x :: S) M := (rn_at k_X11_restore_46).trans rfl
theorem k_X11_restore_47 : lk 47 C_X11_restore = some (.aload_n 0, (0, 0, 0, 0)) := by decide +kernel
theorem s_X11_restore_47 {ca : Nat → List Value → tM → tO} {M : tM} {a1 : Option Value} {x : Nat} {S : List Value} : rn ca C_X11_restore 47 [some (.ref x), a1] S M = rn ca C_X11_restore 48 [some (.ref x), a1] (.ref x :: S) M := (rn_at k_X11_restore_47).trans rfl
theorem k_X11_restore_48 : lk 48 C_X11_restore = some (.getfield 26, (11, 5, 0, 150)) := by decide +kernel
theorem s_X11_restore_48 {ca : Nat → List Value → tM → tO} {M : tM} {L : tL} {b : Nat} {S : List Value} : rn ca C_X11_restore 48 L (.ref b :: S) M = if clsO b = some 11 then rn ca C_X11_restore 51 L (fv M b 5 :: S) M else none := (rn_at k_X11_restore_48).trans rnx_ite
theorem k_X11_restore_51 : lk 51 C_X11_restore = some (.iload_n 1, (0, 0, 0, 0)) := by decide +kernel
theorem s_X11_restore_51 {ca : Nat → List Value → tM → tO} {M : tM} {a0 : Option Value} {x : Int32} {S : List Value} : rn ca C_X11_restore 51 [a0, some (.int x)] S M = rn ca C_X11_restore 52 [a0, some (.int x)] (.int x :: S) M := (rn_at k_X11_restore_51).trans rfl
theorem k_X11_restore_52 : lk 52 C_X11_restore = some (.iaload, (0, 0, 0, 0)) := by decide +kernel
theorem s_X11_restore_52 {ca : Nat → List Value → tM → tO} {M : tM} {L : tL} {a : Nat} {i : Int32} {S : List Value} : rn ca C_X11_restore 52 L (.int i :: .ref a :: S) M = if (akind a = 0 ∨ akind a = 6 ∨ akind a = 7) ∧ inb i (alen M a) then rn ca C_X11_restore 53 L (.int (M.1 a i.toInt.toNat) :: S) M else none := (rn_at k_X11_restore_52).trans rnx_ite
theorem k_X11_restore_53 : lk 53 C_X11_restore = some (.i2l, (0, 0, 0, 0)) := by decide +kernel
theorem s_X11_restore_53 {ca : Nat → List Value → tM → tO} {M : tM} {L : tL} {x : Int32} {S : List Value} : rn ca C_X11_restore 53 L (.int x :: S) M = rn ca C_X11_restore 54 L (.long x.toInt64 :: S) M := (rn_at k_X11_restore_53).trans rfl
theorem k_X11_restore_54 : lk 54 C_X11_restore = some (.invokevirtual 114, (149, 1, 11, 302)) := by decide +kernel
theorem s_X11_restore_54 {ca : Nat → List Value → tM → tO} {M : tM} {L : tL} {v1 : Value} {r0 : Int32} {r1 : Nat} {b : Nat} : rn ca C_X11_restore 54 L [v1, .ref b, .int r0, .ref r1] M = if clsO b = some 11 then rnk ca C_X11_restore 57 L [.int r0, .ref r1] (ca m_X11_isCapsule [.ref b, v1] M) else none := (rn_at k_X11_restore_54).trans rnx_ite
theorem k_X11_restore_57 : lk 57 C_X11_restore = some (.ifCond .ne 7, (64, 0, 0, 0)) := by decide +kernel
theorem s_X11_restore_57 {ca : Nat → List Value → tM → tO} {M : tM} {L : tL} {x : Int32} {S : List Value} : rn ca C_X11_restore 57 L (.int x :: S) M = if ¬ x = iI 0 then rn ca C_X11_restore 64 L S M else rn ca C_X11_restore 60 L S M := (rn_at k_X11_restore_57).trans rnx_ite
theorem k_X11_restore_60 : lk 60 C_X11_restore = some (.iconst (-1), (0, 0, 0, 0)) := by decide +kernel
theorem s_X11_restore_60 {ca : Nat → List Value → tM → tO} {M : tM} {L : tL} {S : List Value} : rn ca C_X11_restore 60 L S M = rn ca C_X11_restore 61 L (.int (iI (-1)) :: S) M := (rn_at k_X11_restore_60).trans rfl
theorem k_X11_restore_61 : lk 61 C_X11_restore = some (.goto 9, (70, 0, 0, 0)) := by decide +kernel
theorem s_X11_restore_61 {ca : Nat → List Value → tM → tO} {M : tM} {L : tL} {S : List Value} : rn ca C_X11_restore 61 L S M = rn ca C_X11_restore 70 L S M := (rn_at k_X11_restore_61).trans rfl
theorem k_X11_restore_64 : lk 64 C_X11_restore = some (.aload_n 0, (0, 0, 0, 0)) := by decide +kernel
theorem s_X11_restore_64 {ca : Nat → List Value → tM → tO} {M : tM} {a1 : Option Value} {x : Nat} {S : List Value} : rn ca C_X11_restore 64 [some (.ref x), a1] S M = rn ca C_X11_restore 65 [some (.ref x), a1] (.ref x :: S) M := (rn_at k_X11_restore_64).trans rfl
theorem k_X11_restore_65 : lk 65 C_X11_restore = some (.getfield 26, (11, 5, 0, 150)) := by decide +kernel
theorem s_X11_restore_65 {ca : Nat → List Value → tM → tO} {M : tM} {L : tL} {b : Nat} {S : List Value} : rn ca C_X11_restore 65 L (.ref b :: S) M = if clsO b = some 11 then rn ca C_X11_restore 68 L (fv M b 5 :: S) M else none := (rn_at k_X11_restore_65).trans rnx_ite
theorem k_X11_restore_68 : lk 68 C_X11_restore = some (.iload_n 1, (0, 0, 0, 0)) := by decide +kernel
theorem s_X11_restore_68 {ca : Nat → List Value → tM → tO} {M : tM} {a0 : Option Value} {x : Int32} {S : List Value} : rn ca C_X11_restore 68 [a0, some (.int x)] S M = rn ca C_X11_restore 69 [a0, some (.int x)] (.int x :: S) M := (rn_at k_X11_restore_68).trans rfl
theorem k_X11_restore_69 : lk 69 C_X11_restore = some (.iaload, (0, 0, 0, 0)) := by decide +kernel
theorem s_X11_restore_69 {ca : Nat → List Value → tM → tO} {M : tM} {L : tL} {a : Nat} {i : Int32} {S : List Value} : rn ca C_X11_restore 69 L (.int i :: .ref a :: S) M = if (akind a = 0 ∨ akind a = 6 ∨ akind a = 7) ∧ inb i (alen M a) then rn ca C_X11_restore 70 L (.int (M.1 a i.toInt.toNat) :: S) M else none := (rn_at k_X11_restore_69).trans rnx_ite
theorem k_X11_restore_70 : lk 70 C_X11_restore = some (.iastore, (0, 0, 0, 0)) := by decide +kernel
theorem s_X11_restore_70 {ca : Nat → List Value → tM → tO} {M : tM} {L : tL} {a : Nat} {i x : Int32} {S : List Value} : rn ca C_X11_restore 70 L (.int x :: .int i :: .ref a :: S) M = if akind a = 0 ∧ inb i (alen M a) then rn ca C_X11_restore 71 L S (sI M a i.toInt.toNat x) else none := (rn_at k_X11_restore_70).trans rnx_ite
theorem k_X11_restore_71 : lk 71 C_X11_restore = some (.iinc 1 1, (0, 0, 0, 0)) := by decide +kernel
theorem s_X11_restore_71 {ca : Nat → List Value → tM → tO} {M : tM} {a0 : Option Value} {x : Int32} {S : List Value} : rn ca C_X11_restore 71 [a0, some (.int x)] S M = rn ca C_X11_restore 74 [a0, some (.int (x + iI 1))] S M := (rn_at k_X11_restore_71).trans rfl
theorem k_X11_restore_74 : lk 74 C_X11_restore = some (.goto (-47), (27, 0, 0, 0)) := by decide +kernel
theorem s_X11_restore_74 {ca : Nat → List Value → tM → tO} {M : tM} {L : tL} {S : List Value} : rn ca C_X11_restore 74 L S M = rn ca C_X11_restore 27 L S M := (rn_at k_X11_restore_74).trans rfl
theorem k_X11_restore_77 : lk 77 C_X11_restore = some (.aload_n 0, (0, 0, 0, 0)) := by decide +kernel
theorem s_X11_restore_77 {ca : Nat → List Value → tM → tO} {M : tM} {a1 : Option Value} {x : Nat} {S : List Value} : rn ca C_X11_restore 77 [some (.ref x), a1] S M = rn ca C_X11_restore 78 [some (.ref x), a1] (.ref x :: S) M := (rn_at k_X11_restore_77).trans rfl
theorem k_X11_restore_78 : lk 78 C_X11_restore = some (.getfield 17, (11, 1, 0, 147)) := by decide +kernel
theorem s_X11_restore_78 {ca : Nat → List Value → tM → tO} {M : tM} {L : tL} {b : Nat} {S : List Value} : rn ca C_X11_restore 78 L (.ref b :: S) M = if clsO b = some 11 then rn ca C_X11_restore 81 L (fv M b 1 :: S) M else none := (rn_at k_X11_restore_78).trans rnx_ite
theorem k_X11_restore_81 : lk 81 C_X11_restore = some (.bipush 110, (0, 0, 0, 0)) := by decide +kernel
theorem s_X11_restore_81 {ca : Nat → List Value → tM → tO} {M : tM} {L : tL} {S : List Value} : rn ca C_X11_restore 81 L S M = rn ca C_X11_restore 83 L (.int (iI 110) :: S) M := (rn_at k_X11_restore_81).trans rfl
theorem k_X11_restore_83 : lk 83 C_X11_restore = some (.iaload, (0, 0, 0, 0)) := by decide +kernel
theorem s_X11_restore_83 {ca : Nat → List Value → tM → tO} {M : tM} {L : tL} {a : Nat} {i : Int32} {S : List Value} : rn ca C_X11_restore 83 L (.int i :: .ref a :: S) M = if (akind a = 0 ∨ akind a = 6 ∨ akind a = 7) ∧ inb i (alen M a) then rn ca C_X11_restore 84 L (.int (M.1 a i.toInt.toNat) :: S) M else none := (rn_at k_X11_restore_83).trans rnx_ite
theorem k_X11_restore_84 : lk 84 C_X11_restore = some (.ireturn, (0, 0, 0, 0)) := by decide +kernel
theorem s_X11_restore_84 {ca : Nat → List Value → tM → tO} {M : tM} {L : tL} {x : Int32} : rn ca C_X11_restore 84 L [.int x] M = some (some (.int x), M) := (rn_at k_X11_restore_84).trans rfl
theorem k_X11_status_0 : lk 0 C_X11_status = some (.iload_n 1, (0, 0, 0, 0)) := by decide +kernel
theorem s_X11_status_0 {ca : Nat → List Value → tM → tO} {M : tM} {a0 a2 a3 : Option Value} {x : Int32} {S : List Value} : rn ca C_X11_status 0 [a0, some (.int x), a2, a3] S M = rn ca C_X11_status 1 [a0, some (.int x), a2, a3] (.int x :: S) M := (rn_at k_X11_status_0).trans rfl
theorem k_X11_status_1 : lk 1 C_X11_status = some (.i2l, (0, 0, 0, 0)) := by decide +kernel
theorem s_X11_status_1 {ca : Nat → List Value → tM → tO} {M : tM} {L : tL} {x : Int32} {S : List Value} : rn ca C_X11_status 1 L (.int x :: S) M = rn ca C_X11_status 2 L (.long x.toInt64 :: S) M := (rn_at k_X11_status_1).trans rfl
theorem k_X11_status_2 : lk 2 C_X11_status = some (.ldc2_w 341, (0, 0, 11, 1264)) := by decide +kernel
theorem s_X11_status_2 {ca : Nat → List Value → tM → tO} {M : tM} {L : tL} {S : List Value} : rn ca C_X11_status 2 L S M = rn ca C_X11_status 5 L (.long (jJ 11) :: S) M := (rn_at k_X11_status_2).trans rfl
theorem k_X11_status_5 : lk 5 C_X11_status = some (.ldc2_w 343, (0, 0, 17, 1265)) := by decide +kernel
theorem s_X11_status_5 {ca : Nat → List Value → tM → tO} {M : tM} {L : tL} {S : List Value} : rn ca C_X11_status 5 L S M = rn ca C_X11_status 8 L (.long (jJ 17) :: S) M := (rn_at k_X11_status_5).trans rfl
theorem k_X11_status_8 : lk 8 C_X11_status = some (.invokestatic 87, (143, 3, 0, 197)) := by decide +kernel
theorem s_X11_status_8 {ca : Nat → List Value → tM → tO} {M : tM} {L : tL} {v1 v2 v3 : Value} : rn ca C_X11_status 8 L [v3, v2, v1] M = rnk ca C_X11_status 11 L [] (ca m_X11_isIn [v1, v2, v3] M) := (rn_at k_X11_status_8).trans rfl
theorem k_X11_status_11 : lk 11 C_X11_status = some (.ifCond .eq 13, (24, 0, 0, 0)) := by decide +kernel
theorem s_X11_status_11 {ca : Nat → List Value → tM → tO} {M : tM} {L : tL} {x : Int32} {S : List Value} : rn ca C_X11_status 11 L (.int x :: S) M = if x = iI 0 then rn ca C_X11_status 24 L S M else rn ca C_X11_status 14 L S M := (rn_at k_X11_status_11).trans rnx_ite
theorem k_X11_status_14 : lk 14 C_X11_status = some (.aload_n 0, (0, 0, 0, 0)) := by decide +kernel
theorem s_X11_status_14 {ca : Nat → List Value → tM → tO} {M : tM} {a1 a2 a3 : Option Value} {x : Nat} {S : List Value} : rn ca C_X11_status 14 [some (.ref x), a1, a2, a3] S M = rn ca C_X11_status 15 [some (.ref x), a1, a2, a3] (.ref x :: S) M := (rn_at k_X11_status_14).trans rfl
theorem k_X11_status_15 : lk 15 C_X11_status = some (.getfield 7, (11, 0, 0, 146)) := by decide +kernel
theorem s_X11_status_15 {ca : Nat → List Value → tM → tO} {M : tM} {L : tL} {b : Nat} {S : List Value} : rn ca C_X11_status 15 L (.ref b :: S) M = if clsO b = some 11 then rn ca C_X11_status 18 L (fv M b 0 :: S) M else none := (rn_at k_X11_status_15).trans rnx_ite
theorem k_X11_status_18 : lk 18 C_X11_status = some (.iload_n 1, (0, 0, 0, 0)) := by decide +kernel
theorem s_X11_status_18 {ca : Nat → List Value → tM → tO} {M : tM} {a0 a2 a3 : Option Value} {x : Int32} {S : List Value} : rn ca C_X11_status 18 [a0, some (.int x), a2, a3] S M = rn ca C_X11_status 19 [a0, some (.int x), a2, a3] (.int x :: S) M := (rn_at k_X11_status_18).trans rfl
theorem k_X11_status_19 : lk 19 C_X11_status = some (.bipush 10, (0, 0, 0, 0)) := by decide +kernel
theorem s_X11_status_19 {ca : Nat → List Value → tM → tO} {M : tM} {L : tL} {S : List Value} : rn ca C_X11_status 19 L S M = rn ca C_X11_status 21 L (.int (iI 10) :: S) M := (rn_at k_X11_status_19).trans rfl
theorem k_X11_status_21 : lk 21 C_X11_status = some (.isub, (0, 0, 0, 0)) := by decide +kernel
theorem s_X11_status_21 {ca : Nat → List Value → tM → tO} {M : tM} {L : tL} {x y : Int32} {S : List Value} : rn ca C_X11_status 21 L (.int y :: .int x :: S) M = rn ca C_X11_status 22 L (.int (x - y) :: S) M := (rn_at k_X11_status_21).trans rfl
theorem k_X11_status_22 : lk 22 C_X11_status = some (.iaload, (0, 0, 0, 0)) := by decide +kernel
theorem s_X11_status_22 {ca : Nat → List Value → tM → tO} {M : tM} {L : tL} {a : Nat} {i : Int32} {S : List Value} : rn ca C_X11_status 22 L (.int i :: .ref a :: S) M = if (akind a = 0 ∨ akind a = 6 ∨ akind a = 7) ∧ inb i (alen M a) then rn ca C_X11_status 23 L (.int (M.1 a i.toInt.toNat) :: S) M else none := (rn_at k_X11_status_22).trans rnx_ite
theorem k_X11_status_23 : lk 23 C_X11_status = some (.ireturn, (0, 0, 0, 0)) := by decide +kernel
theorem s_X11_status_23 {ca : Nat → List Value → tM → tO} {M : tM} {L : tL} {x : Int32} : rn ca C_X11_status 23 L [.int x] M = some (some (.int x), M) := (rn_at k_X11_status_23).trans rfl
theorem k_X11_status_24 : lk 24 C_X11_status = some (.iconst 0, (0, 0, 0, 0)) := by decide +kernel
theorem s_X11_status_24 {ca : Nat → List Value → tM → tO} {M : tM} {L : tL} {S : List Value} : rn ca C_X11_status 24 L S M = rn ca C_X11_status 25 L (.int (iI 0) :: S) M := (rn_at k_X11_status_24).trans rfl
theorem k_X11_status_25 : lk 25 C_X11_status = some (.istore_n 2, (0, 0, 0, 0)) := by decide +kernel
theorem s_X11_status_25 {ca : Nat → List Value → tM → tO} {M : tM} {a0 a1 a2 a3 : Option Value} {x : Int32} {S : List Value} : rn ca C_X11_status 25 [a0, a1, a2, a3] (.int x :: S) M = rn ca C_X11_status 26 [a0, a1, some (.int x), a3] S M := (rn_at k_X11_status_25).trans rfl
theorem k_X11_status_26 : lk 26 C_X11_status = some (.iload_n 1, (0, 0, 0, 0)) := by decide +kernel
theorem s_X11_status_26 {ca : Nat → List Value → tM → tO} {M : tM} {a0 a2 a3 : Option Value} {x : Int32} {S : List Value} : rn ca C_X11_status 26 [a0, some (.int x), a2, a3] S M = rn ca C_X11_status 27 [a0, some (.int x), a2, a3] (.int x :: S) M := (rn_at k_X11_status_26).trans rfl
theorem k_X11_status_27 : lk 27 C_X11_status = some (.tableswitch 139 0 8 #[49, 49, 49, 49, 49, 59, 92, 126, 134], (0, 0, 0, 0)) := by decide +kernel
theorem s_X11_status_27 {ca : Nat → List Value → tM → tO} {M : tM} {L : tL} {x : Int32} {S : List Value} : rn ca C_X11_status 27 L (.int x :: S) M = if x = iI 0 then rn ca C_X11_status 76 L S M else if x = iI 1 then rn ca C_X11_status 76 L S M else if x = iI 2 then rn ca C_X11_status 76 L S M else if x = iI 3 then rn ca C_X11_status 76 L S M else if x = iI 4 then rn ca C_X11_status 76 L S M else if x = iI 5 then rn ca C_X11_status 86 L S M else if x = iI 6 then rn ca C_X11_status 119 L S M else if x = iI 7 then rn ca C_X11_status 153 L S M else if x = iI 8 then rn ca C_X11_status 161 L S M else rn ca C_X11_status 166 L S M := by rw [rn_at k_X11_status_27]; simp only [ta, tsw, lsw, rnx_ite]; rfl
theorem k_X11_status_76 : lk 76 C_X11_status = some (.aload_n 0, (0, 0, 0, 0)) := by decide +kernel
theorem s_X11_status_76 {ca : Nat → List Value → tM → tO} {M : tM} {a1 a2 a3 : Option Value} {x : Nat} {S : List Value} : rn ca C_X11_status 76 [some (.ref x), a1, a2, a3] S M = rn ca C_X11_status 77 [some (.ref x), a1, a2, a3] (.ref x :: S) M := (rn_at k_X11_status_76).trans rfl
theorem k_X11_status_77 : lk 77 C_X11_status = some (.getfield 17, (11, 1, 0, 147)) := by decide +kernel
theorem s_X11_status_77 {ca : Nat → List Value → tM → tO} {M : tM} {L : tL} {b : Nat} {S : List Value} : rn ca C_X11_status 77 L (.ref b :: S) M = if clsO b = some 11 then rn ca C_X11_status 80 L (fv M b 1 :: S) M else none := (rn_at k_X11_status_77).trans rnx_ite
theorem k_X11_status_80 : lk 80 C_X11_status = some (.bipush 108, (0, 0, 0, 0)) := by decide +kernel
theorem s_X11_status_80 {ca : Nat → List Value → tM → tO} {M : tM} {L : tL} {S : List Value} : rn ca C_X11_status 80 L S M = rn ca C_X11_status 82 L (.int (iI 108) :: S) M := (rn_at k_X11_status_80).trans rfl
theorem k_X11_status_82 : lk 82 C_X11_status = some (.iload_n 1, (0, 0, 0, 0)) := by decide +kernel
theorem s_X11_status_82 {ca : Nat → List Value → tM → tO} {M : tM} {a0 a2 a3 : Option Value} {x : Int32} {S : List Value} : rn ca C_X11_status 82 [a0, some (.int x), a2, a3] S M = rn ca C_X11_status 83 [a0, some (.int x), a2, a3] (.int x :: S) M := (rn_at k_X11_status_82).trans rfl
theorem k_X11_status_83 : lk 83 C_X11_status = some (.iadd, (0, 0, 0, 0)) := by decide +kernel
theorem s_X11_status_83 {ca : Nat → List Value → tM → tO} {M : tM} {L : tL} {x y : Int32} {S : List Value} : rn ca C_X11_status 83 L (.int y :: .int x :: S) M = rn ca C_X11_status 84 L (.int (x + y) :: S) M := (rn_at k_X11_status_83).trans rfl
theorem k_X11_status_84 : lk 84 C_X11_status = some (.iaload, (0, 0, 0, 0)) := by decide +kernel
theorem s_X11_status_84 {ca : Nat → List Value → tM → tO} {M : tM} {L : tL} {a : Nat} {i : Int32} {S : List Value} : rn ca C_X11_status 84 L (.int i :: .ref a :: S) M = if (akind a = 0 ∨ akind a = 6 ∨ akind a = 7) ∧ inb i (alen M a) then rn ca C_X11_status 85 L (.int (M.1 a i.toInt.toNat) :: S) M else none := (rn_at k_X11_status_84).trans rnx_ite
theorem k_X11_status_85 : lk 85 C_X11_status = some (.ireturn, (0, 0, 0, 0)) := by decide +kernel
theorem s_X11_status_85 {ca : Nat → List Value → tM → tO} {M : tM} {L : tL} {x : Int32} : rn ca C_X11_status 85 L [.int x] M = some (some (.int x), M) := (rn_at k_X11_status_85).trans rfl
theorem k_X11_status_86 : lk 86 C_X11_status = some (.iconst 0, (0, 0, 0, 0)) := by decide +kernel
theorem s_X11_status_86 {ca : Nat → List Value → tM → tO} {M : tM} {L : tL} {S : List Value} : rn ca C_X11_status 86 L S M = rn ca C_X11_status 87 L (.int (iI 0) :: S) M := (rn_at k_X11_status_86).trans rfl
theorem k_X11_status_87 : lk 87 C_X11_status = some (.istore_n 3, (0, 0, 0, 0)) := by decide +kernel
theorem s_X11_status_87 {ca : Nat → List Value → tM → tO} {M : tM} {a0 a1 a2 a3 : Option Value} {x : Int32} {S : List Value} : rn ca C_X11_status 87 [a0, a1, a2, a3] (.int x :: S) M = rn ca C_X11_status 88 [a0, a1, a2, some (.int x)] S M := (rn_at k_X11_status_87).trans rfl
theorem k_X11_status_88 : lk 88 C_X11_status = some (.iload_n 3, (0, 0, 0, 0)) := by decide +kernel
theorem s_X11_status_88 {ca : Nat → List Value → tM → tO} {M : tM} {a0 a1 a2 : Option Value} {x : Int32} {S : List Value} : rn ca C_X11_status 88 [a0, a1, a2, some (.int x)] S M = rn ca C_X11_status 89 [a0, a1, a2, some (.int x)] (.int x :: S) M := (rn_at k_X11_status_88).trans rfl
theorem k_X11_status_89 : lk 89 C_X11_status = some (.aload_n 0, (0, 0, 0, 0)) := by decide +kernel
theorem s_X11_status_89 {ca : Nat → List Value → tM → tO} {M : tM} {a1 a2 a3 : Option Value} {x : Nat} {S : List Value} : rn ca C_X11_status 89 [some (.ref x), a1, a2, a3] S M = rn ca C_X11_status 90 [some (.ref x), a1, a2, a3] (.ref x :: S) M := (rn_at k_X11_status_89).trans rfl
theorem k_X11_status_90 : lk 90 C_X11_status = some (.getfield 17, (11, 1, 0, 147)) := by decide +kernel
theorem s_X11_status_90 {ca : Nat → List Value → tM → tO} {M : tM} {L : tL} {b : Nat} {S : List Value} : rn ca C_X11_status 90 L (.ref b :: S) M = if clsO b = some 11 then rn ca C_X11_status 93 L (fv M b 1 :: S) M else none := (rn_at k_X11_status_90).trans rnx_ite
theorem k_X11_status_93 : lk 93 C_X11_status = some (.bipush 108, (0, 0, 0, 0)) := by decide +kernel
theorem s_X11_status_93 {ca : Nat → List Value → tM → tO} {M : tM} {L : tL} {S : List Value} : rn ca C_X11_status 93 L S M = rn ca C_X11_status 95 L (.int (iI 108) :: S) M := (rn_at k_X11_status_93).trans rfl
theorem k_X11_status_95 : lk 95 C_X11_status = some (.iaload, (0, 0, 0, 0)) := by decide +kernel
theorem s_X11_status_95 {ca : Nat → List Value → tM → tO} {M : tM} {L : tL} {a : Nat} {i : Int32} {S : List Value} : rn ca C_X11_status 95 L (.int i :: .ref a :: S) M = if (akind a = 0 ∨ akind a = 6 ∨ akind a = 7) ∧ inb i (alen M a) then rn ca C_X11_status 96 L (.int (M.1 a i.toInt.toNat) :: S) M else none := (rn_at k_X11_status_95).trans rnx_ite
theorem k_X11_status_96 : lk 96 C_X11_status = some (.if_icmp .ge 21, (117, 0, 0, 0)) := by decide +kernel
theorem s_X11_status_96 {ca : Nat → List Value → tM → tO} {M : tM} {L : tL} {x y : Int32} {S : List Value} : rn ca C_X11_status 96 L (.int y :: .int x :: S) M = if y ≤ x then rn ca C_X11_status 117 L S M else rn ca C_X11_status 99 L S M := (rn_at k_X11_status_96).trans rnx_ite
theorem k_X11_status_99 : lk 99 C_X11_status = some (.iload_n 2, (0, 0, 0, 0)) := by decide +kernel
theorem s_X11_status_99 {ca : Nat → List Value → tM → tO} {M : tM} {a0 a1 a3 : Option Value} {x : Int32} {S : List Value} : rn ca C_X11_status 99 [a0, a1, some (.int x), a3] S M = rn ca C_X11_status 100 [a0, a1, some (.int x), a3] (.int x :: S) M := (rn_at k_X11_status_99).trans rfl
theorem k_X11_status_100 : lk 100 C_X11_status = some (.aload_n 0, (0, 0, 0, 0)) := by decide +kernel
theorem s_X11_status_100 {ca : Nat → List Value → tM → tO} {M : tM} {a1 a2 a3 : Option Value} {x : Nat} {S : List Value} : rn ca C_X11_status 100 [some (.ref x), a1, a2, a3] S M = rn ca C_X11_status 101 [some (.ref x), a1, a2, a3] (.ref x :: S) M := (rn_at k_X11_status_100).trans rfl
theorem k_X11_status_101 : lk 101 C_X11_status = some (.getfield 17, (11, 1, 0, 147)) := by decide +kernel
theorem s_X11_status_101 {ca : Nat → List Value → tM → tO} {M : tM} {L : tL} {b : Nat} {S : List Value} : rn ca C_X11_status 101 L (.ref b :: S) M = if clsO b = some 11 then rn ca C_X11_status 104 L (fv M b 1 :: S) M else none := (rn_at k_X11_status_101).trans rnx_ite
theorem k_X11_status_104 : lk 104 C_X11_status = some (.bipush 80, (0, 0, 0, 0)) := by decide +kernel
theorem s_X11_status_104 {ca : Nat → List Value → tM → tO} {M : tM} {L : tL} {S : List Value} : rn ca C_X11_status 104 L S M = rn ca C_X11_status 106 L (.int (iI 80) :: S) M := (rn_at k_X11_status_104).trans rfl
theorem k_X11_status_106 : lk 106 C_X11_status = some (.iload_n 3, (0, 0, 0, 0)) := by decide +kernel
theorem s_X11_status_106 {ca : Nat → List Value → tM → tO} {M : tM} {a0 a1 a2 : Option Value} {x : Int32} {S : List Value} : rn ca C_X11_status 106 [a0, a1, a2, some (.int x)] S M = rn ca C_X11_status 107 [a0, a1, a2, some (.int x)] (.int x :: S) M := (rn_at k_X11_status_106).trans rfl
theorem k_X11_status_107 : lk 107 C_X11_status = some (.iadd, (0, 0, 0, 0)) := by decide +kernel
theorem s_X11_status_107 {ca : Nat → List Value → tM → tO} {M : tM} {L : tL} {x y : Int32} {S : List Value} : rn ca C_X11_status 107 L (.int y :: .int x :: S) M = rn ca C_X11_status 108 L (.int (x + y) :: S) M := (rn_at k_X11_status_107).trans rfl
theorem k_X11_status_108 : lk 108 C_X11_status = some (.iaload, (0, 0, 0, 0)) := by decide +kernel
theorem s_X11_status_108 {ca : Nat → List Value → tM → tO} {M : tM} {L : tL} {a : Nat} {i : Int32} {S : List Value} : rn ca C_X11_status 108 L (.int i :: .ref a :: S) M = if (akind a = 0 ∨ akind a = 6 ∨ akind a = 7) ∧ inb i (alen M a) then rn ca C_X11_status 109 L (.int (M.1 a i.toInt.toNat) :: S) M else none := (rn_at k_X11_status_108).trans rnx_ite
theorem k_X11_status_109 : lk 109 C_X11_status = some (.iadd, (0, 0, 0, 0)) := by decide +kernel
theorem s_X11_status_109 {ca : Nat → List Value → tM → tO} {M : tM} {L : tL} {x y : Int32} {S : List Value} : rn ca C_X11_status 109 L (.int y :: .int x :: S) M = rn ca C_X11_status 110 L (.int (x + y) :: S) M := (rn_at k_X11_status_109).trans rfl
theorem k_X11_status_110 : lk 110 C_X11_status = some (.istore_n 2, (0, 0, 0, 0)) := by decide +kernel
theorem s_X11_status_110 {ca : Nat → List Value → tM → tO} {M : tM} {a0 a1 a2 a3 : Option Value} {x : Int32} {S : List Value} : rn ca C_X11_status 110 [a0, a1, a2, a3] (.int x :: S) M = rn ca C_X11_status 111 [a0, a1, some (.int x), a3] S M := (rn_at k_X11_status_110).trans rfl
theorem k_X11_status_111 : lk 111 C_X11_status = some (.iinc 3 1, (0, 0, 0, 0)) := by decide +kernel
theorem s_X11_status_111 {ca : Nat → List Value → tM → tO} {M : tM} {a0 a1 a2 : Option Value} {x : Int32} {S : List Value} : rn ca C_X11_status 111 [a0, a1, a2, some (.int x)] S M = rn ca C_X11_status 114 [a0, a1, a2, some (.int (x + iI 1))] S M := (rn_at k_X11_status_111).trans rfl
theorem k_X11_status_114 : lk 114 C_X11_status = some (.goto (-26), (88, 0, 0, 0)) := by decide +kernel
theorem s_X11_status_114 {ca : Nat → List Value → tM → tO} {M : tM} {L : tL} {S : List Value} : rn ca C_X11_status 114 L S M = rn ca C_X11_status 88 L S M := (rn_at k_X11_status_114).trans rfl
theorem k_X11_status_117 : lk 117 C_X11_status = some (.iload_n 2, (0, 0, 0, 0)) := by decide +kernel
theorem s_X11_status_117 {ca : Nat → List Value → tM → tO} {M : tM} {a0 a1 a3 : Option Value} {x : Int32} {S : List Value} : rn ca C_X11_status 117 [a0, a1, some (.int x), a3] S M = rn ca C_X11_status 118 [a0, a1, some (.int x), a3] (.int x :: S) M := (rn_at k_X11_status_117).trans rfl
theorem k_X11_status_118 : lk 118 C_X11_status = some (.ireturn, (0, 0, 0, 0)) := by decide +kernel
theorem s_X11_status_118 {ca : Nat → List Value → tM → tO} {M : tM} {L : tL} {x : Int32} : rn ca C_X11_status 118 L [.int x] M = some (some (.int x), M) := (rn_at k_X11_status_118).trans rfl
theorem k_X11_status_119 : lk 119 C_X11_status = some (.iconst 0, (0, 0, 0, 0)) := by decide +kernel
theorem s_X11_status_119 {ca : Nat → List Value → tM → tO} {M : tM} {L : tL} {S : List Value} : rn ca C_X11_status 119 L S M = rn ca C_X11_status 120 L (.int (iI 0) :: S) M := (rn_at k_X11_status_119).trans rfl
theorem k_X11_status_120 : lk 120 C_X11_status = some (.istore_n 3, (0, 0, 0, 0)) := by decide +kernel
theorem s_X11_status_120 {ca : Nat → List Value → tM → tO} {M : tM} {a0 a1 a2 a3 : Option Value} {x : Int32} {S : List Value} : rn ca C_X11_status 120 [a0, a1, a2, a3] (.int x :: S) M = rn ca C_X11_status 121 [a0, a1, a2, some (.int x)] S M := (rn_at k_X11_status_120).trans rfl
theorem k_X11_status_121 : lk 121 C_X11_status = some (.iload_n 3, (0, 0, 0, 0)) := by decide +kernel
theorem s_X11_status_121 {ca : Nat → List Value → tM → tO} {M : tM} {a0 a1 a2 : Option Value} {x : Int32} {S : List Value} : rn ca C_X11_status 121 [a0, a1, a2, some (.int x)] S M = rn ca C_X11_status 122 [a0, a1, a2, some (.int x)] (.int x :: S) M := (rn_at k_X11_status_121).trans rfl
theorem k_X11_status_122 : lk 122 C_X11_status = some (.aload_n 0, (0, 0, 0, 0)) := by decide +kernel
theorem s_X11_status_122 {ca : Nat → List Value → tM → tO} {M : tM} {a1 a2 a3 : Option Value} {x : Nat} {S : List Value} : rn ca C_X11_status 122 [some (.ref x), a1, a2, a3] S M = rn ca C_X11_status 123 [some (.ref x), a1, a2, a3] (.ref x :: S) M := (rn_at k_X11_status_122).trans rfl
theorem k_X11_status_123 : lk 123 C_X11_status = some (.getfield 17, (11, 1, 0, 147)) := by decide +kernel
theorem s_X11_status_123 {ca : Nat → List Value → tM → tO} {M : tM} {L : tL} {b : Nat} {S : List Value} : rn ca C_X11_status 123 L (.ref b :: S) M = if clsO b = some 11 then rn ca C_X11_status 126 L (fv M b 1 :: S) M else none := (rn_at k_X11_status_123).trans rnx_ite
theorem k_X11_status_126 : lk 126 C_X11_status = some (.bipush 109, (0, 0, 0, 0)) := by decide +kernel
theorem s_X11_status_126 {ca : Nat → List Value → tM → tO} {M : tM} {L : tL} {S : List Value} : rn ca C_X11_status 126 L S M = rn ca C_X11_status 128 L (.int (iI 109) :: S) M := (rn_at k_X11_status_126).trans rfl
theorem k_X11_status_128 : lk 128 C_X11_status = some (.iaload, (0, 0, 0, 0)) := by decide +kernel
theorem s_X11_status_128 {ca : Nat → List Value → tM → tO} {M : tM} {L : tL} {a : Nat} {i : Int32} {S : List Value} : rn ca C_X11_status 128 L (.int i :: .ref a :: S) M = if (akind a = 0 ∨ akind a = 6 ∨ akind a = 7) ∧ inb i (alen M a) then rn ca C_X11_status 129 L (.int (M.1 a i.toInt.toNat) :: S) M else none := (rn_at k_X11_status_128).trans rnx_ite
theorem k_X11_status_129 : lk 129 C_X11_status = some (.if_icmp .ge 22, (151, 0, 0, 0)) := by decide +kernel
theorem s_X11_status_129 {ca : Nat → List Value → tM → tO} {M : tM} {L : tL} {x y : Int32} {S : List Value} : rn ca C_X11_status 129 L (.int y :: .int x :: S) M = if y ≤ x then rn ca C_X11_status 151 L S M else rn ca C_X11_status 132 L S M := (rn_at k_X11_status_129).trans rnx_ite
theorem k_X11_status_132 : lk 132 C_X11_status = some (.iload_n 2, (0, 0, 0, 0)) := by decide +kernel
theorem s_X11_status_132 {ca : Nat → List Value → tM → tO} {M : tM} {a0 a1 a3 : Option Value} {x : Int32} {S : List Value} : rn ca C_X11_status 132 [a0, a1, some (.int x), a3] S M = rn ca C_X11_status 133 [a0, a1, some (.int x), a3] (.int x :: S) M := (rn_at k_X11_status_132).trans rfl
theorem k_X11_status_133 : lk 133 C_X11_status = some (.aload_n 0, (0, 0, 0, 0)) := by decide +kernel
theorem s_X11_status_133 {ca : Nat → List Value → tM → tO} {M : tM} {a1 a2 a3 : Option Value} {x : Nat} {S : List Value} : rn ca C_X11_status 133 [some (.ref x), a1, a2, a3] S M = rn ca C_X11_status 134 [some (.ref x), a1, a2, a3] (.ref x :: S) M := (rn_at k_X11_status_133).trans rfl
theorem k_X11_status_134 : lk 134 C_X11_status = some (.getfield 17, (11, 1, 0, 147)) := by decide +kernel
theorem s_X11_status_134 {ca : Nat → List Value → tM → tO} {M : tM} {L : tL} {b : Nat} {S : List Value} : rn ca C_X11_status 134 L (.ref b :: S) M = if clsO b = some 11 then rn ca C_X11_status 137 L (fv M b 1 :: S) M else none := (rn_at k_X11_status_134).trans rnx_ite
theorem k_X11_status_137 : lk 137 C_X11_status = some (.iconst 5, (0, 0, 0, 0)) := by decide +kernel
theorem s_X11_status_137 {ca : Nat → List Value → tM → tO} {M : tM} {L : tL} {S : List Value} : rn ca C_X11_status 137 L S M = rn ca C_X11_status 138 L (.int (iI 5) :: S) M := (rn_at k_X11_status_137).trans rfl
theorem k_X11_status_138 : lk 138 C_X11_status = some (.iload_n 3, (0, 0, 0, 0)) := by decide +kernel
theorem s_X11_status_138 {ca : Nat → List Value → tM → tO} {M : tM} {a0 a1 a2 : Option Value} {x : Int32} {S : List Value} : rn ca C_X11_status 138 [a0, a1, a2, some (.int x)] S M = rn ca C_X11_status 139 [a0, a1, a2, some (.int x)] (.int x :: S) M := (rn_at k_X11_status_138).trans rfl
theorem k_X11_status_139 : lk 139 C_X11_status = some (.imul, (0, 0, 0, 0)) := by decide +kernel
theorem s_X11_status_139 {ca : Nat → List Value → tM → tO} {M : tM} {L : tL} {x y : Int32} {S : List Value} : rn ca C_X11_status 139 L (.int y :: .int x :: S) M = rn ca C_X11_status 140 L (.int (x * y) :: S) M := (rn_at k_X11_status_139).trans rfl
theorem k_X11_status_140 : lk 140 C_X11_status = some (.iconst 4, (0, 0, 0, 0)) := by decide +kernel
theorem s_X11_status_140 {ca : Nat → List Value → tM → tO} {M : tM} {L : tL} {S : List Value} : rn ca C_X11_status 140 L S M = rn ca C_X11_status 141 L (.int (iI 4) :: S) M := (rn_at k_X11_status_140).trans rfl
theorem k_X11_status_141 : lk 141 C_X11_status = some (.iadd, (0, 0, 0, 0)) := by decide +kernel
theorem s_X11_status_141 {ca : Nat → List Value → tM → tO} {M : tM} {L : tL} {x y : Int32} {S : List Value} : rn ca C_X11_status 141 L (.int y :: .int x :: S) M = rn ca C_X11_status 142 L (.int (x + y) :: S) M := (rn_at k_X11_status_141).trans rfl
theorem k_X11_status_142 : lk 142 C_X11_status = some (.iaload, (0, 0, 0, 0)) := by decide +kernel
theorem s_X11_status_142 {ca : Nat → List Value → tM → tO} {M : tM} {L : tL} {a : Nat} {i : Int32} {S : List Value} : rn ca C_X11_status 142 L (.int i :: .ref a :: S) M = if (akind a = 0 ∨ akind a = 6 ∨ akind a = 7) ∧ inb i (alen M a) then rn ca C_X11_status 143 L (.int (M.1 a i.toInt.toNat) :: S) M else none := (rn_at k_X11_status_142).trans rnx_ite
theorem k_X11_status_143 : lk 143 C_X11_status = some (.iadd, (0, 0, 0, 0)) := by decide +kernel
theorem s_X11_status_143 {ca : Nat → List Value → tM → tO} {M : tM} {L : tL} {x y : Int32} {S : List Value} : rn ca C_X11_status 143 L (.int y :: .int x :: S) M = rn ca C_X11_status 144 L (.int (x + y) :: S) M := (rn_at k_X11_status_143).trans rfl
theorem k_X11_status_144 : lk 144 C_X11_status = some (.istore_n 2, (0, 0, 0, 0)) := by decide +kernel
theorem s_X11_status_144 {ca : Nat → List Value → tM → tO} {M : tM} {a0 a1 a2 a3 : Option Value} {x : Int32} {S : List Value} : rn ca C_X11_status 144 [a0, a1, a2, a3] (.int x :: S) M = rn ca C_X11_status 145 [a0, a1, some (.int x), a3] S M := (rn_at k_X11_status_144).trans rfl
theorem k_X11_status_145 : lk 145 C_X11_status = some (.iinc 3 1, (0, 0, 0, 0)) := by decide +kernel
theorem s_X11_status_145 {ca : Nat → List Value → tM → tO} {M : tM} {a0 a1 a2 : Option Value} {x : Int32} {S : List Value} : rn ca C_X11_status 145 [a0, a1, a2, some (.int x)] S M = rn ca C_X11_status 148 [a0, a1, a2, some (.int (x + iI 1))] S M := (rn_at k_X11_status_145).trans rfl
theorem k_X11_status_148 : lk 148 C_X11_status = some (.goto (-27), (121, 0, 0, 0)) := by decide +kernel
theorem s_X11_status_148 {ca : Nat → List Value → tM → tO} {M : tM} {L : tL} {S : List Value} : rn ca C_X11_status 148 L S M = rn ca C_X11_status 121 L S M := (rn_at k_X11_status_148).trans rfl
theorem k_X11_status_151 : lk 151 C_X11_status = some (.iload_n 2, (0, 0, 0, 0)) := by decide +kernel
theorem s_X11_status_151 {ca : Nat → List Value → tM → tO} {M : tM} {a0 a1 a3 : Option Value} {x : Int32} {S : List Value} : rn ca C_X11_status 151 [a0, a1, some (.int x), a3] S M = rn ca C_X11_status 152 [a0, a1, some (.int x), a3] (.int x :: S) M := (rn_at k_X11_status_151).trans rfl
theorem k_X11_status_152 : lk 152 C_X11_status = some (.ireturn, (0, 0, 0, 0)) := by decide +kernel
theorem s_X11_status_152 {ca : Nat → List Value → tM → tO} {M : tM} {L : tL} {x : Int32} : rn ca C_X11_status 152 L [.int x] M = some (some (.int x), M) := (rn_at k_X11_status_152).trans rfl
theorem k_X11_status_153 : lk 153 C_X11_status = some (.aload_n 0, (0, 0, 0, 0)) := by decide +kernel
theorem s_X11_status_153 {ca : Nat → List Value → tM → tO} {M : tM} {a1 a2 a3 : Option Value} {x : Nat} {S : List Value} : rn ca C_X11_status 153 [some (.ref x), a1, a2, a3] S M = rn ca C_X11_status 154 [some (.ref x), a1, a2, a3] (.ref x :: S) M := (rn_at k_X11_status_153).trans rfl
theorem k_X11_status_154 : lk 154 C_X11_status = some (.getfield 17, (11, 1, 0, 147)) := by decide +kernel
theorem s_X11_status_154 {ca : Nat → List Value → tM → tO} {M : tM} {L : tL} {b : Nat} {S : List Value} : rn ca C_X11_status 154 L (.ref b :: S) M = if clsO b = some 11 then rn ca C_X11_status 157 L (fv M b 1 :: S) M else none := (rn_at k_X11_status_154).trans rnx_ite
theorem k_X11_status_157 : lk 157 C_X11_status = some (.bipush 113, (0, 0, 0, 0)) := by decide +kernel
theorem s_X11_status_157 {ca : Nat → List Value → tM → tO} {M : tM} {L : tL} {S : List Value} : rn ca C_X11_status 157 L S M = rn ca C_X11_status 159 L (.int (iI 113) :: S) M := (rn_at k_X11_status_157).trans rfl
theorem k_X11_status_159 : lk 159 C_X11_status = some (.iaload, (0, 0, 0, 0)) := by decide +kernel
theorem s_X11_status_159 {ca : Nat → List Value → tM → tO} {M : tM} {L : tL} {a : Nat} {i : Int32} {S : List Value} : rn ca C_X11_status 159 L (.int i :: .ref a :: S) M = if (akind a = 0 ∨ akind a = 6 ∨ akind a = 7) ∧ inb i (alen M a) then rn ca C_X11_status 160 L (.int (M.1 a i.toInt.toNat) :: S) M else none := (rn_at k_X11_status_159).trans rnx_ite
theorem k_X11_status_160 : lk 160 C_X11_status = some (.ireturn, (0, 0, 0, 0)) := by decide +kernel
theorem s_X11_status_160 {ca : Nat → List Value → tM → tO} {M : tM} {L : tL} {x : Int32} : rn ca C_X11_status 160 L [.int x] M = some (some (.int x), M) := (rn_at k_X11_status_160).trans rfl
theorem k_X11_status_161 : lk 161 C_X11_status = some (.aload_n 0, (0, 0, 0, 0)) := by decide +kernel
theorem s_X11_status_161 {ca : Nat → List Value → tM → tO} {M : tM} {a1 a2 a3 : Option Value} {x : Nat} {S : List Value} : rn ca C_X11_status 161 [some (.ref x), a1, a2, a3] S M = rn ca C_X11_status 162 [some (.ref x), a1, a2, a3] (.ref x :: S) M := (rn_at k_X11_status_161).trans rfl
theorem k_X11_status_162 : lk 162 C_X11_status = some (.getfield 310, (11, 22, 0, 1194)) := by decide +kernel
theorem s_X11_status_162 {ca : Nat → List Value → tM → tO} {M : tM} {L : tL} {b : Nat} {S : List Value} : rn ca C_X11_status 162 L (.ref b :: S) M = if clsO b = some 11 then rn ca C_X11_status 165 L (fv M b 22 :: S) M else none := (rn_at k_X11_status_162).trans rnx_ite
theorem k_X11_status_165 : lk 165 C_X11_status = some (.ireturn, (0, 0, 0, 0)) := by decide +kernel
theorem s_X11_status_165 {ca : Nat → List Value → tM → tO} {M : tM} {L : tL} {x : Int32} : rn ca C_X11_status 165 L [.int x] M = some (some (.int x), M) := (rn_at k_X11_status_165).trans rfl
theorem k_X11_status_166 : lk 166 C_X11_status = some (.iconst (-1), (0, 0, 0, 0)) := by decide +kernel
theorem s_X11_status_166 {ca : Nat → List Value → tM → tO} {M : tM} {L : tL} {S : List Value} : rn ca C_X11_status 166 L S M = rn ca C_X11_status 167 L (.int (iI (-1)) :: S) M := (rn_at k_X11_status_166).trans rfl
theorem k_X11_status_167 : lk 167 C_X11_status = some (.ireturn, (0, 0, 0, 0)) := by decide +kernel
theorem s_X11_status_167 {ca : Nat → List Value → tM → tO} {M : tM} {L : tL} {x : Int32} : rn ca C_X11_status 167 L [.int x] M = some (some (.int x), M) := (rn_at k_X11_status_167).trans rfl
