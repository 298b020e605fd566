theorem k_X10_row_0 : lk 0 C_X10_row = some (.aload_n 0, (0, 0, 0, 0)) := by decide +kernel
theorem s_X10_row_0 {ca : Nat → List Value → tM → tO} {M : tM} {a1 a2 a3 : Option Value} {x : Nat} {S : List Value} : rn ca C_X10_row 0 [some (.ref x), a1, a2, a3] S M = rn ca C_X10_row 1 [some (.ref x), a1, a2, a3] (.ref x :: S) M := (rn_at k_X10_row_0).trans rfl
theorem k_X10_row_1 : lk 1 C_X10_row = some (.getfield 25, (10, 3, 0, 22)) := by decide +kernel
theorem s_X10_row_1 {ca : Nat → List Value → tM → tO} {M : tM} {L : tL} {b : Nat} {S : List Value} : rn ca C_X10_row 1 L (.ref b :: S) M = if clsO b = some 10 then rn ca C_X10_row 4 L (fv M b 3 :: S) M else none := (rn_at k_X10_row_1).trans rnx_ite
theorem k_X10_row_4 : lk 4 C_X10_row = some (.iload_n 1, (0, 0, 0, 0)) := by decide +kernel
theorem s_X10_row_4 {ca : Nat → List Value → tM → tO} {M : tM} {a0 a2 a3 : Option Value} {x : Int32} {S : List Value} : rn ca C_X10_row 4 [a0, some (.int x), a2, a3] S M = rn ca C_X10_row 5 [a0, some (.int x), a2, a3] (.int x :: S) M := (rn_at k_X10_row_4).trans rfl
theorem k_X10_row_5 : lk 5 C_X10_row = some (.invokevirtual 97, (65, 1, 8, 171)) := by decide +kernel
theorem s_X10_row_5 {ca : Nat → List Value → tM → tO} {M : tM} {L : tL} {v1 : Value} {b : Nat} : rn ca C_X10_row 5 L [v1, .ref b] M = if clsO b = some 8 then rnk ca C_X10_row 8 L [] (ca m_X8_hasShelf [.ref b, v1] M) else none := (rn_at k_X10_row_5).trans rnx_ite
theorem k_X10_row_8 : lk 8 C_X10_row = some (.ifCond .ne 9, (17, 0, 0, 0)) := by decide +kernel
theorem s_X10_row_8 {ca : Nat → List Value → tM → tO} {M : tM} {L : tL} {x : Int32} {S : List Value} : rn ca C_X10_row 8 L (.int x :: S) M = if ¬ x = iI 0 then rn ca C_X10_row 17 L S M else rn ca C_X10_row 11 L S M := (rn_at k_X10_row_8).trans rnx_ite
theorem k_X10_row_11 : lk 11 C_X10_row = some (.aload_n 0, (0, 0, 0, 0)) := by decide +kernel
theorem s_X10_row_11 {ca : Nat → List Value → tM → tO} {M : tM} {a1 a2 a3 : Option Value} {x : Nat} {S : List Value} : rn ca C_X10_row 11 [some (.ref x), a1, a2, a3] S M = rn ca C_X10_row 12 [some (.ref x), a1, a2, a3] (.ref x :: S) M := (rn_at k_X10_row_11).trans rfl
theorem k_X10_row_12 : lk 12 C_X10_row = some (.iconst (-1), (0, 0, 0, 0)) := by decide +kernel
theorem s_X10_row_12 {ca : Nat → List Value → tM → tO} {M : tM} {L : tL} {S : List Value} : rn ca C_X10_row 12 L S M = rn ca C_X10_row 13 L (.int (iI (-1)) :: S) M := (rn_at k_X10_row_12).trans rfl
theorem k_X10_row_13 : lk 13 C_X10_row = some (.invokevirtual 101, (134, 1, 10, 175)) := by decide +kernel
theorem s_X10_row_13 {ca : Nat → List Value → tM → tO} {M : tM} {L : tL} {v1 : Value} {b : Nat} : rn ca C_X10_row 13 L [v1, .ref b] M = if clsO b = some 10 then rnk ca C_X10_row 16 L [] (ca m_X10_refuse [.ref b, v1] M) else none := (rn_at k_X10_row_13).trans rnx_ite
theorem k_X10_row_16 : lk 16 C_X10_row = some (.ireturn, (0, 0, 0, 0)) := by decide +kernel
theorem s_X10_row_16 {ca : Nat → List Value → tM → tO} {M : tM} {L : tL} {x : Int32} : rn ca C_X10_row 16 L [.int x] M = some (some (.int x), M) := (rn_at k_X10_row_16).trans rfl
theorem k_X10_row_17 : lk 17 C_X10_row = some (.iload_n 3, (0, 0, 0, 0)) := by decide +kernel
theorem s_X10_row_17 {ca : Nat → List Value → tM → tO} {M : tM} {a0 a1 a2 : Option Value} {x : Int32} {S : List Value} : rn ca C_X10_row 17 [a0, a1, a2, some (.int x)] S M = rn ca C_X10_row 18 [a0, a1, a2, some (.int x)] (.int x :: S) M := (rn_at k_X10_row_17).trans rfl
theorem k_X10_row_18 : lk 18 C_X10_row = some (.ifCond .ge 10, (28, 0, 0, 0)) := by decide +kernel
theorem s_X10_row_18 {ca : Nat → List Value → tM → tO} {M : tM} {L : tL} {x : Int32} {S : List Value} : rn ca C_X10_row 18 L (.int x :: S) M = if iI 0 ≤ x then rn ca C_X10_row 28 L S M else rn ca C_X10_row 21 L S M := (rn_at k_X10_row_18).trans rnx_ite
theorem k_X10_row_21 : lk 21 C_X10_row = some (.aload_n 0, (0, 0, 0, 0)) := by decide +kernel
theorem s_X10_row_21 {ca : Nat → List Value → tM → tO} {M : tM} {a1 a2 a3 : Option Value} {x : Nat} {S : List Value} : rn ca C_X10_row 21 [some (.ref x), a1, a2, a3] S M = rn ca C_X10_row 22 [some (.ref x), a1, a2, a3] (.ref x :: S) M := (rn_at k_X10_row_21).trans rfl
theorem k_X10_row_22 : lk 22 C_X10_row = some (.bipush (-4), (0, 0, 0, 0)) := by decide +kernel
theorem s_X10_row_22 {ca : Nat → List Value → tM → tO} {M : tM} {L : tL} {S : List Value} : rn ca C_X10_row 22 L S M = rn ca C_X10_row 24 L (.int (iI (-4)) :: S) M := (rn_at k_X10_row_22).trans rfl
theorem k_X10_row_24 : lk 24 C_X10_row = some (.invokevirtual 101, (134, 1, 10, 175)) := by decide +kernel
theorem s_X10_row_24 {ca : Nat → List Value → tM → tO} {M : tM} {L : tL} {v1 : Value} {b : Nat} : rn ca C_X10_row 24 L [v1, .ref b] M = if clsO b = some 10 then rnk ca C_X10_row 27 L [] (ca m_X10_refuse [.ref b, v1] M) else none := (rn_at k_X10_row_24).trans rnx_ite
theorem k_X10_row_27 : lk 27 C_X10_row = some (.ireturn, (0, 0, 0, 0)) := by decide +kernel
theorem s_X10_row_27 {ca : Nat → List Value → tM → tO} {M : tM} {L : tL} {x : Int32} : rn ca C_X10_row 27 L [.int x] M = some (some (.int x), M) := (rn_at k_X10_row_27).trans rfl
theorem k_X10_row_28 : lk 28 C_X10_row = some (.iload_n 2, (0, 0, 0, 0)) := by decide +kernel
theorem s_X10_row_28 {ca : Nat → List Value → tM → tO} {M : tM} {a0 a1 a3 : Option Value} {x : Int32} {S : List Value} : rn ca C_X10_row 28 [a0, a1, some (.int x), a3] S M = rn ca C_X10_row 29 [a0, a1, some (.int x), a3] (.int x :: S) M := (rn_at k_X10_row_28).trans rfl
theorem k_X10_row_29 : lk 29 C_X10_row = some (.ifCond .lt 8, (37, 0, 0, 0)) := by decide +kernel
theorem s_X10_row_29 {ca : Nat → List Value → tM → tO} {M : tM} {L : tL} {x : Int32} {S : List Value} : rn ca C_X10_row 29 L (.int x :: S) M = if x < iI 0 then rn ca C_X10_row 37 L S M else rn ca C_X10_row 32 L S M := (rn_at k_X10_row_29).trans rnx_ite
theorem k_X10_row_32 : lk 32 C_X10_row = some (.iload_n 2, (0, 0, 0, 0)) := by decide +kernel
theorem s_X10_row_32 {ca : Nat → List Value → tM → tO} {M : tM} {a0 a1 a3 : Option Value} {x : Int32} {S : List Value} : rn ca C_X10_row 32 [a0, a1, some (.int x), a3] S M = rn ca C_X10_row 33 [a0, a1, some (.int x), a3] (.int x :: S) M := (rn_at k_X10_row_32).trans rfl
theorem k_X10_row_33 : lk 33 C_X10_row = some (.iconst 4, (0, 0, 0, 0)) := by decide +kernel
theorem s_X10_row_33 {ca : Nat → List Value → tM → tO} {M : tM} {L : tL} {S : List Value} : rn ca C_X10_row 33 L S M = rn ca C_X10_row 34 L (.int (iI 4) :: S) M := (rn_at k_X10_row_33).trans rfl
theorem k_X10_row_34 : lk 34 C_X10_row = some (.if_icmp .lt 10, (44, 0, 0, 0)) := by decide +kernel
theorem s_X10_row_34 {ca : Nat → List Value → tM → tO} {M : tM} {L : tL} {x y : Int32} {S : List Value} : rn ca C_X10_row 34 L (.int y :: .int x :: S) M = if x < y then rn ca C_X10_row 44 L S M else rn ca C_X10_row 37 L S M := (rn_at k_X10_row_34).trans rnx_ite
theorem k_X10_row_37 : lk 37 C_X10_row = some (.aload_n 0, (0, 0, 0, 0)) := by decide +kernel
theorem s_X10_row_37 {ca : Nat → List Value → tM → tO} {M : tM} {a1 a2 a3 : Option Value} {x : Nat} {S : List Value} : rn ca C_X10_row 37 [some (.ref x), a1, a2, a3] S M = rn ca C_X10_row 38 [some (.ref x), a1, a2, a3] (.ref x :: S) M := (rn_at k_X10_row_37).trans rfl
theorem k_X10_row_38 : lk 38 C_X10_row = some (.bipush (-6), (0, 0, 0, 0)) := by decide +kernel
theorem s_X10_row_38 {ca : Nat → List Value → tM → tO} {M : tM} {L : tL} {S : List Value} : rn ca C_X10_row 38 L S M = rn ca C_X10_row 40 L (.int (iI (-6)) :: S) M := (rn_at k_X10_row_38).trans rfl
theorem k_X10_row_40 : lk 40 C_X10_row = some (.invokevirtual 101, (134, 1, 10, 175)) := by decide +kernel
theorem s_X10_row_40 {ca : Nat → List Value → tM → tO} {M : tM} {L : tL} {v1 : Value} {b : Nat} : rn ca C_X10_row 40 L [v1, .ref b] M = if clsO b = some 10 then rnk ca C_X10_row 43 L [] (ca m_X10_refuse [.ref b, v1] M) else none := (rn_at k_X10_row_40).trans rnx_ite
theorem k_X10_row_43 : lk 43 C_X10_row = some (.ireturn, (0, 0, 0, 0)) := by decide +kernel
theorem s_X10_row_43 {ca : Nat → List Value → tM → tO} {M : tM} {L : tL} {x : Int32} : rn ca C_X10_row 43 L [.int x] M = some (some (.int x), M) := (rn_at k_X10_row_43).trans rfl
theorem k_X10_row_44 : lk 44 C_X10_row = some (.iload_n 3, (0, 0, 0, 0)) := by decide +kernel
theorem s_X10_row_44 {ca : Nat → List Value → tM → tO} {M : tM} {a0 a1 a2 : Option Value} {x : Int32} {S : List Value} : rn ca C_X10_row 44 [a0, a1, a2, some (.int x)] S M = rn ca C_X10_row 45 [a0, a1, a2, some (.int x)] (.int x :: S) M := (rn_at k_X10_row_44).trans rfl
theorem k_X10_row_45 : lk 45 C_X10_row = some (.sipush 160, (0, 0, 0, 0)) := by decide +kernel
theorem s_X10_row_45 {ca : Nat → List Value → tM → tO} {M : tM} {L : tL} {S : List Value} : rn ca C_X10_row 45 L S M = rn ca C_X10_row 48 L (.int (iI 160) :: S) M := (rn_at k_X10_row_45).trans rfl
theorem k_X10_row_48 : lk 48 C_X10_row = some (.if_icmp .le 10, (58, 0, 0, 0)) := by decide +kernel
theorem s_X10_row_48 {ca : Nat → List Value → tM → tO} {M : tM} {L : tL} {x y : Int32} {S : List Value} : rn ca C_X10_row 48 L (.int y :: .int x :: S) M = if x ≤ y then rn ca C_X10_row 58 L S M else rn ca C_X10_row 51 L S M := (rn_at k_X10_row_48).trans rnx_ite
theorem k_X10_row_51 : lk 51 C_X10_row = some (.aload_n 0, (0, 0, 0, 0)) := by decide +kernel
theorem s_X10_row_51 {ca : Nat → List Value → tM → tO} {M : tM} {a1 a2 a3 : Option Value} {x : Nat} {S : List Value} : rn ca C_X10_row 51 [some (.ref x), a1, a2, a3] S M = rn ca C_X10_row 52 [some (.ref x), a1, a2, a3] (.ref x :: S) M := (rn_at k_X10_row_51).trans rfl
theorem k_X10_row_52 : lk 52 C_X10_row = some (.bipush (-7), (0, 0, 0, 0)) := by decide +kernel
theorem s_X10_row_52 {ca : Nat → List Value → tM → tO} {M : tM} {L : tL} {S : List Value} : rn ca C_X10_row 52 L S M = rn ca C_X10_row 54 L (.int (iI (-7)) :: S) M := (rn_at k_X10_row_52).trans rfl
theorem k_X10_row_54 : lk 54 C_X10_row = some (.invokevirtual 101, (134, 1, 10, 175)) := by decide +kernel
theorem s_X10_row_54 {ca : Nat → List Value → tM → tO} {M : tM} {L : tL} {v1 : Value} {b : Nat} : rn ca C_X10_row 54 L [v1, .ref b] M = if clsO b = some 10 then rnk ca C_X10_row 57 L [] (ca m_X10_refuse [.ref b, v1] M) else none := (rn_at k_X10_row_54).trans rnx_ite
theorem k_X10_row_57 : lk 57 C_X10_row = some (.ireturn, (0, 0, 0, 0)) := by decide +kernel
theorem s_X10_row_57 {ca : Nat → List Value → tM → tO} {M : tM} {L : tL} {x : Int32} : rn ca C_X10_row 57 L [.int x] M = some (some (.int x), M) := (rn_at k_X10_row_57).trans rfl
theorem k_X10_row_58 : lk 58 C_X10_row = some (.aload_n 0, (0, 0, 0, 0)) := by decide +kernel
theorem s_X10_row_58 {ca : Nat → List Value → tM → tO} {M : tM} {a1 a2 a3 : Option Value} {x : Nat} {S : List Value} : rn ca C_X10_row 58 [some (.ref x), a1, a2, a3] S M = rn ca C_X10_row 59 [some (.ref x), a1, a2, a3] (.ref x :: S) M := (rn_at k_X10_row_58).trans rfl
theorem k_X10_row_59 : lk 59 C_X10_row = some (.getfield 25, (10, 3, 0, 22)) := by decide +kernel
theorem s_X10_row_59 {ca : Nat → List Value → tM → tO} {M : tM} {L : tL} {b : Nat} {S : List Value} : rn ca C_X10_row 59 L (.ref b :: S) M = if clsO b = some 10 then rn ca C_X10_row 62 L (fv M b 3 :: S) M else none := (rn_at k_X10_row_59).trans rnx_ite
theorem k_X10_row_62 : lk 62 C_X10_row = some (.iload_n 1, (0, 0, 0, 0)) := by decide +kernel
theorem s_X10_row_62 {ca : Nat → List Value → tM → tO} {M : tM} {a0 a2 a3 : Option Value} {x : Int32} {S : List Value} : rn ca C_X10_row 62 [a0, some (.int x), a2, a3] S M = rn ca C_X10_row 63 [a0, some (.int x), a2, a3] (.int x :: S) M := (rn_at k_X10_row_62).trans rfl
theorem k_X10_row_63 : lk 63 C_X10_row = some (.iload_n 2, (0, 0, 0, 0)) := by decide +kernel
theorem s_X10_row_63 {ca : Nat → List Value → tM → tO} {M : tM} {a0 a1 a3 : Option Value} {x : Int32} {S : List Value} : rn ca C_X10_row 63 [a0, a1, some (.int x), a3] S M = rn ca C_X10_row 64 [a0, a1, some (.int x), a3] (.int x :: S) M := (rn_at k_X10_row_63).trans rfl
theorem k_X10_row_64 : lk 64 C_X10_row = some (.iload_n 3, (0, 0, 0, 0)) := by decide +kernel
theorem s_X10_row_64 {ca : Nat → List Value → tM → tO} {M : tM} {a0 a1 a2 : Option Value} {x : Int32} {S : List Value} : rn ca C_X10_row 64 [a0, a1, a2, some (.int x)] S M = rn ca C_X10_row 65 [a0, a1, a2, some (.int x)] (.int x :: S) M := (rn_at k_X10_row_64).trans rfl
theorem k_X10_row_65 : lk 65 C_X10_row = some (.invokevirtual 105, (69, 3, 8, 179)) := by decide +kernel
theorem s_X10_row_65 {ca : Nat → List Value → tM → tO} {M : tM} {L : tL} {v1 v2 v3 : Value} {b : Nat} : rn ca C_X10_row 65 L [v3, v2, v1, .ref b] M = if clsO b = some 8 then rnk ca C_X10_row 68 L [] (ca m_X8_putRow [.ref b, v1, v2, v3] M) else none := (rn_at k_X10_row_65).trans rnx_ite
theorem k_X10_row_68 : lk 68 C_X10_row = some (.iconst 1, (0, 0, 0, 0)) := by decide +kernel
theorem s_X10_row_68 {ca : Nat → List Value → tM → tO} {M : tM} {L : tL} {S : List Value} : rn ca C_X10_row 68 L S M = rn ca C_X10_row 69 L (.int (iI 1) :: S) M := (rn_at k_X10_row_68).trans rfl
theorem k_X10_row_69 : lk 69 C_X10_row = some (.ireturn, (0, 0, 0, 0)) := by decide +kernel
theorem s_X10_row_69 {ca : Nat → List Value → tM → tO} {M : tM} {L : tL} {x : Int32} : rn ca C_X10_row 69 L [.int x] M = some (some (.int x), M) := (rn_at k_X10_row_69).trans rfl
theorem k_X10_set_0 : lk 0 C_X10_set = some (.aload_n 0, (0, 0, 0, 0)) := by decide +kernel
theorem s_X10_set_0 {ca : Nat → List Value → tM → tO} {M : tM} {a1 a2 a3 a4 a5 : Option Value} {x : Nat} {S : List Value} : rn ca C_X10_set 0 [some (.ref x), a1, a2, a3, a4, a5] S M = rn ca C_X10_set 1 [some (.ref x), a1, a2, a3, a4, a5] (.ref x :: S) M := (rn_at k_X10_set_0).trans rfl
theorem k_X10_set_1 : lk 1 C_X10_set = some (.iload_n 1, (0, 0, 0, 0)) := by decide +kernel
theorem s_X10_set_1 {ca : Nat → List Value → tM → tO} {M : tM} {a0 a2 a3 a4 a5 : Option Value} {x : Int32} {S : List Value} : rn ca C_X10_set 1 [a0, some (.int x), a2, a3, a4, a5] S M = rn ca C_X10_set 2 [a0, some (.int x), a2, a3, a4, a5] (.int x :: S) M := (rn_at k_X10_set_1).trans rfl
theorem k_X10_set_2 : lk 2 C_X10_set = some (.invokevirtual 109, (135, 1, 10, 208)) := by decide +kernel
theorem s_X10_set_2 {ca : Nat → List Value → tM → tO} {M : tM} {L : tL} {v1 : Value} {b : Nat} : rn ca C_X10_set 2 L [v1, .ref b] M = if clsO b = some 10 then rnk ca C_X10_set 5 L [] (ca m_X10_rowRefusal [.ref b, v1] M) else none := (rn_at k_X10_set_2).trans rnx_ite
theorem k_X10_set_5 : lk 5 C_X10_set = some (.istore 5, (0, 0, 0, 0)) := by decide +kernel
theorem s_X10_set_5 {ca : Nat → List Value → tM → tO} {M : tM} {a0 a1 a2 a3 a4 a5 : Option Value} {x : Int32} {S : List Value} : rn ca C_X10_set 5 [a0, a1, a2, a3, a4, a5] (.int x :: S) M = rn ca C_X10_set 7 [a0, a1, a2, a3, a4, some (.int x)] S M := (rn_at k_X10_set_5).trans rfl
theorem k_X10_set_7 : lk 7 C_X10_set = some (.iload 5, (0, 0, 0, 0)) := by decide +kernel
theorem s_X10_set_7 {ca : Nat → List Value → tM → tO} {M : tM} {a0 a1 a2 a3 a4 : Option Value} {x : Int32} {S : List Value} : rn ca C_X10_set 7 [a0, a1, a2, a3, a4, some (.int x)] S M = rn ca C_X10_set 9 [a0, a1, a2, a3, a4, some (.int x)] (.int x :: S) M := (rn_at k_X10_set_7).trans rfl
theorem k_X10_set_9 : lk 9 C_X10_set = some (.ifCond .ge 10, (19, 0, 0, 0)) := by decide +kernel
theorem s_X10_set_9 {ca : Nat → List Value → tM → tO} {M : tM} {L : tL} {x : Int32} {S : List Value} : rn ca C_X10_set 9 L (.int x :: S) M = if iI 0 ≤ x then rn ca C_X10_set 19 L S M else rn ca C_X10_set 12 L S M := (rn_at k_X10_set_9).trans rnx_ite
theorem k_X10_set_12 : lk 12 C_X10_set = some (.aload_n 0, (0, 0, 0, 0)) := by decide +kernel
theorem s_X10_set_12 {ca : Nat → List Value → tM → tO} {M : tM} {a1 a2 a3 a4 a5 : Option Value} {x : Nat} {S : List Value} : rn ca C_X10_set 12 [some (.ref x), a1, a2, a3, a4, a5] S M = rn ca C_X10_set 13 [some (.ref x), a1, a2, a3, a4, a5] (.ref x :: S) M := (rn_at k_X10_set_12).trans rfl
theorem k_X10_set_13 : lk 13 C_X10_set = some (.iload 5, (0, 0, 0, 0)) := by decide +kernel
theorem s_X10_set_13 {ca : Nat → List Value → tM → tO} {M : tM} {a0 a1 a2 a3 a4 : Option Value} {x : Int32} {S : List Value} : rn ca C_X10_set 13 [a0, a1, a2, a3, a4, some (.int x)] S M = rn ca C_X10_set 15 [a0, a1, a2, a3, a4, some (.int x)] (.int x :: S) M := (rn_at k_X10_set_13).trans rfl
theorem k_X10_set_15 : lk 15 C_X10_set = some (.invokevirtual 101, (134, 1, 10, 175)) := by decide +kernel
theorem s_X10_set_15 {ca : Nat → List Value → tM → tO} {M : tM} {L : tL} {v1 : Value} {b : Nat} : rn ca C_X10_set 15 L [v1, .ref b] M = if clsO b = some 10 then rnk ca C_X10_set 18 L [] (ca m_X10_refuse [.ref b, v1] M) else none := (rn_at k_X10_set_15).trans rnx_ite
theorem k_X10_set_18 : lk 18 C_X10_set = some (.ireturn, (0, 0, 0, 0)) := by decide +kernel
theorem s_X10_set_18 {ca : Nat → List Value → tM → tO} {M : tM} {L : tL} {x : Int32} : rn ca C_X10_set 18 L [.int x] M = some (some (.int x), M) := (rn_at k_X10_set_18).trans rfl
theorem k_X10_set_19 : lk 19 C_X10_set = some (.iload_n 2, (0, 0, 0, 0)) := by decide +kernel
theorem s_X10_set_19 {ca : Nat → List Value → tM → tO} {M : tM} {a0 a1 a3 a4 a5 : Option Value} {x : Int32} {S : List Value} : rn ca C_X10_set 19 [a0, a1, some (.int x), a3, a4, a5] S M = rn ca C_X10_set 20 [a0, a1, some (.int x), a3, a4, a5] (.int x :: S) M := (rn_at k_X10_set_19).trans rfl
theorem k_X10_set_20 : lk 20 C_X10_set = some (.ifCond .lt 15, (35, 0, 0, 0)) := by decide +kernel
theorem s_X10_set_20 {ca : Nat → List Value → tM → tO} {M : tM} {L : tL} {x : Int32} {S : List Value} : rn ca C_X10_set 20 L (.int x :: S) M = if x < iI 0 then rn ca C_X10_set 35 L S M else rn ca C_X10_set 23 L S M := (rn_at k_X10_set_20).trans rnx_ite
theorem k_X10_set_23 : lk 23 C_X10_set = some (.iload_n 2, (0, 0, 0, 0)) := by decide +kernel
theorem s_X10_set_23 {ca : Nat → List Value → tM → tO} {M : tM} {a0 a1 a3 a4 a5 : Option Value} {x : Int32} {S : List Value} : rn ca C_X10_set 23 [a0, a1, some (.int x), a3, a4, a5] S M = rn ca C_X10_set 24 [a0, a1, some (.int x), a3, a4, a5] (.int x :: S) M := (rn_at k_X10_set_23).trans rfl
theorem k_X10_set_24 : lk 24 C_X10_set = some (.aload_n 0, (0, 0, 0, 0)) := by decide +kernel
theorem s_X10_set_24 {ca : Nat → List Value → tM → tO} {M : tM} {a1 a2 a3 a4 a5 : Option Value} {x : Nat} {S : List Value} : rn ca C_X10_set 24 [some (.ref x), a1, a2, a3, a4, a5] S M = rn ca C_X10_set 25 [some (.ref x), a1, a2, a3, a4, a5] (.ref x :: S) M := (rn_at k_X10_set_24).trans rfl
theorem k_X10_set_25 : lk 25 C_X10_set = some (.getfield 25, (10, 3, 0, 22)) := by decide +kernel
theorem s_X10_set_25 {ca : Nat → List Value → tM → tO} {M : tM} {L : tL} {b : Nat} {S : List Value} : rn ca C_X10_set 25 L (.ref b :: S) M = if clsO b = some 10 then rn ca C_X10_set 28 L (fv M b 3 :: S) M else none := (rn_at k_X10_set_25).trans rnx_ite
theorem k_X10_set_28 : lk 28 C_X10_set = some (.iload_n 1, (0, 0, 0, 0)) := by decide +kernel
theorem s_X10_set_28 {ca : Nat → List Value → tM → tO} {M : tM} {a0 a2 a3 a4 a5 : Option Value} {x : Int32} {S : List Value} : rn ca C_X10_set 28 [a0, some (.int x), a2, a3, a4, a5] S M = rn ca C_X10_set 29 [a0, some (.int x), a2, a3, a4, a5] (.int x :: S) M := (rn_at k_X10_set_28).trans rfl
theorem k_X10_set_29 : lk 29 C_X10_set = some (.invokevirtual 112, (68, 1, 8, 216)) := by decide +kernel
theorem s_X10_set_29 {ca : Nat → List Value → tM → tO} {M : tM} {L : tL} {v1 : Value} {r0 : Int32} {b : Nat} : rn ca C_X10_set 29 L [v1, .ref b, .int r0] M = if clsO b = some 8 then rnk ca C_X10_set 32 L [.int r0] (ca m_X8_sizeOf [.ref b, v1] M) else none := (rn_at k_X10_set_29).trans rnx_ite
theorem k_X10_set_32 : lk 32 C_X10_set = some (.if_icmp .lt 10, (42, 0, 0, 0)) := by decide +kernel
theorem s_X10_set_32 {ca : Nat → List Value → tM → tO} {M : tM} {L : tL} {x y : Int32} {S : List Value} : rn ca C_X10_set 32 L (.int y :: .int x :: S) M = if x < y then rn ca C_X10_set 42 L S M else rn ca C_X10_set 35 L S M := (rn_at k_X10_set_32).trans rnx_ite
theorem k_X10_set_35 : lk 35 C_X10_set = some (.aload_n 0, (0, 0, 0, 0)) := by decide +kernel
theorem s_X10_set_35 {ca : Nat → List Value → tM → tO} {M : tM} {a1 a2 a3 a4 a5 : Option Value} {x : Nat} {S : List Value} : rn ca C_X10_set 35 [some (.ref x), a1, a2, a3, a4, a5] S M = rn ca C_X10_set 36 [some (.ref x), a1, a2, a3, a4, a5] (.ref x :: S) M := (rn_at k_X10_set_35).trans rfl
theorem k_X10_set_36 : lk 36 C_X10_set = some (.bipush (-5), (0, 0, 0, 0)) := by decide +kernel
theorem s_X10_set_36 {ca : Nat → List Value → tM → tO} {M : tM} {L : tL} {S : List Value} : rn ca C_X10_set 36 L S M = rn ca C_X10_set 38 L (.int (iI (-5)) :: S) M := (rn_at k_X10_set_36).trans rfl
theorem k_X10_set_38 : lk 38 C_X10_set = some (.invokevirtual 101, (134, 1, 10, 175)) := by decide +kernel
theorem s_X10_set_38 {ca : Nat → List Value → tM → tO} {M : tM} {L : tL} {v1 : Value} {b : Nat} : rn ca C_X10_set 38 L [v1, .ref b] M = if clsO b = some 10 then rnk ca C_X10_set 41 L [] (ca m_X10_refuse [.ref b, v1] M) else none := (rn_at k_X10_set_38).trans rnx_ite
theorem k_X10_set_41 : lk 41 C_X10_set = some (.ireturn, (0, 0, 0, 0)) := by decide +kernel
theorem s_X10_set_41 {ca : Nat → List Value → tM → tO} {M : tM} {L : tL} {x : Int32} : rn ca C_X10_set 41 L [.int x] M = some (some (.int x), M) := (rn_at k_X10_set_41).trans rfl
theorem k_X10_set_42 : lk 42 C_X10_set = some (.aload_n 0, (0, 0, 0, 0)) := by decide +kernel
theorem s_X10_set_42 {ca : Nat → List Value → tM → tO} {M : tM} {a1 a2 a3 a4 a5 : Option Value} {x : Nat} {S : List Value} : rn ca C_X10_set 42 [some (.ref x), a1, a2, a3, a4, a5] S M = rn ca C_X10_set 43 [some (.ref x), a1, a2, a3, a4, a5] (.ref x :: S) M := (rn_at k_X10_set_42).trans rfl
theorem k_X10_set_43 : lk 43 C_X10_set = some (.getfield 25, (10, 3, 0, 22)) := by decide +kernel
theorem s_X10_set_43 {ca : Nat → List Value → tM → tO} {M : tM} {L : tL} {b : Nat} {S : List Value} : rn ca C_X10_set 43 L (.ref b :: S) M = if clsO b = some 10 then rn ca C_X10_set 46 L (fv M b 3 :: S) M else none := (rn_at k_X10_set_43).trans rnx_ite
theorem k_X10_set_46 : lk 46 C_X10_set = some (.iload_n 1, (0, 0, 0, 0)) := by decide +kernel
theorem s_X10_set_46 {ca : Nat → List Value → tM → tO} {M : tM} {a0 a2 a3 a4 a5 : Option Value} {x : Int32} {S : List Value} : rn ca C_X10_set 46 [a0, some (.int x), a2, a3, a4, a5] S M = rn ca C_X10_set 47 [a0, some (.int x), a2, a3, a4, a5] (.int x :: S) M := (rn_at k_X10_set_46).trans rfl
theorem k_X10_set_47 : lk 47 C_X10_set = some (.iload_n 2, (0, 0, 0, 0)) := by decide +kernel
theorem s_X10_set_47 {ca : Nat → List Value → tM → tO} {M : tM} {a0 a1 a3 a4 a5 : Option Value} {x : Int32} {S : List Value} : rn ca C_X10_set 47 [a0, a1, some (.int x), a3, a4, a5] S M = rn ca C_X10_set 48 [a0, a1, some (.int x), a3, a4, a5] (.int x :: S) M := (rn_at k_X10_set_47).trans rfl
theorem k_X10_set_48 : lk 48 C_X10_set = some (.lload_n 3, (0, 0, 0, 0)) := by decide +kernel
theorem s_X10_set_48 {ca : Nat → List Value → tM → tO} {M : tM} {a0 a1 a2 a4 a5 : Option Value} {x : Int64} {S : List Value} : rn ca C_X10_set 48 [a0, a1, a2, some (.long x), a4, a5] S M = rn ca C_X10_set 49 [a0, a1, a2, some (.long x), a4, a5] (.long x :: S) M := (rn_at k_X10_set_48).trans rfl
theorem k_X10_set_49 : lk 49 C_X10_set = some (.invokevirtual 115, (74, 3, 8, 220)) := by decide +kernel
theorem s_X10_set_49 {ca : Nat → List Value → tM → tO} {M : tM} {L : tL} {v1 v2 v3 : Value} {b : Nat} : rn ca C_X10_set 49 L [v3, v2, v1, .ref b] M = if clsO b = some 8 then rnk ca C_X10_set 52 L [] (ca m_X8_putElement [.ref b, v1, v2, v3] M) else none := (rn_at k_X10_set_49).trans rnx_ite
theorem k_X10_set_52 : lk 52 C_X10_set = some (.iconst 1, (0, 0, 0, 0)) := by decide +kernel
theorem s_X10_set_52 {ca : Nat → List Value → tM → tO} {M : tM} {L : tL} {S : List Value} : rn ca C_X10_set 52 L S M = rn ca C_X10_set 53 L (.int (iI 1) :: S) M := (rn_at k_X10_set_52).trans rfl
theorem k_X10_set_53 : lk 53 C_X10_set = some (.ireturn, (0, 0, 0, 0)) := by decide +kernel
theorem s_X10_set_53 {ca : Nat → List Value → tM → tO} {M : tM} {L : tL} {x : Int32} : rn ca C_X10_set 53 L [.int x] M = some (some (.int x), M) := (rn_at k_X10_set_53).trans rfl
theorem k_X10_copy_0 : lk 0 C_X10_copy = some (.aload_n 0, (0, 0, 0, 0)) := by decide +kernel
theorem s_X10_copy_0 {ca : Nat → List Value → tM → tO} {M : tM} {a1 a2 a3 a4 a5 a6 : Option Value} {x : Nat} {S : List Value} : rn ca C_X10_copy 0 [some (.ref x), a1, a2, a3, a4, a5, a6] S M = rn ca C_X10_copy 1 [some (.ref x), a1, a2, a3, a4, a5, a6] (.ref x :: S) M := (rn_at k_X10_copy_0).trans rfl
theorem k_X10_copy_1 : lk 1 C_X10_copy = some (.iload_n 1, (0, 0, 0, 0)) := by decide +kernel
theorem s_X10_copy_1 {ca : Nat → List Value → tM → tO} {M : tM} {a0 a2 a3 a4 a5 a6 : Option Value} {x : Int32} {S : List Value} : rn ca C_X10_copy 1 [a0, some (.int x), a2, a3, a4, a5, a6] S M = rn ca C_X10_copy 2 [a0, some (.int x), a2, a3, a4, a5, a6] (.int x :: S) M := (rn_at k_X10_copy_1).trans rfl
theorem k_X10_copy_2 : lk 2 C_X10_copy = some (.iload_n 2, (0, 0, 0, 0)) := by decide +kernel
theorem s_X10_copy_2 {ca : Nat → List Value → tM → tO} {M : tM} {a0 a1 a3 a4 a5 a6 : Option Value} {x : Int32} {S : List Value} : rn ca C_X10_copy 2 [a0, a1, some (.int x), a3, a4, a5, a6] S M = rn ca C_X10_copy 3 [a0, a1, some (.int x), a3, a4, a5, a6] (.int x :: S) M := (rn_at k_X10_copy_2).trans rfl
theorem k_X10_copy_3 : lk 3 C_X10_copy = some (.invokevirtual 119, (136, 2, 10, 244)) := by decide +kernel
theorem s_X10_copy_3 {ca : Nat → List Value → tM → tO} {M : tM} {L : tL} {v1 v2 : Value} {b : Nat} : rn ca C_X10_copy 3 L [v2, v1, .ref b] M = if clsO b = some 10 then rnk ca C_X10_copy 6 L [] (ca m_X10_copyRefusal [.ref b, v1, v2] M) else none := (rn_at k_X10_copy_3).trans rnx_ite
theorem k_X10_copy_6 : lk 6 C_X10_copy = some (.istore 6, (0, 0, 0, 0)) := by decide +kernel
theorem s_X10_copy_6 {ca : Nat → List Value → tM → tO} {M : tM} {a0 a1 a2 a3 a4 a5 a6 : Option Value} {x : Int32} {S : List Value} : rn ca C_X10_copy 6 [a0, a1, a2, a3, a4, a5, a6] (.int x :: S) M = rn ca C_X10_copy 8 [a0, a1, a2, a3, a4, a5, some (.int x)] S M := (rn_at k_X10_copy_6).trans rfl
theorem k_X10_copy_8 : lk 8 C_X10_copy = some (.iload 6, (0, 0, 0, 0)) := by decide +kernel
theorem s_X10_copy_8 {ca : Nat → List Value → tM → tO} {M : tM} {a0 a1 a2 a3 a4 a5 : Option Value} {x : Int32} {S : List Value} : rn ca C_X10_copy 8 [a0, a1, a2, a3, a4, a5, some (.int x)] S M = rn ca C_X10_copy 10 [a0, a1, a2, a3, a4, a5, some (.int x)] (.int x :: S) M := (rn_at k_X10_copy_8).trans rfl
theorem k_X10_copy_10 : lk 10 C_X10_copy = some (.ifCond .ge 10, (20, 0, 0, 0)) := by decide +kernel
theorem s_X10_copy_10 {ca : Nat → List Value → tM → tO} {M : tM} {L : tL} {x : Int32} {S : List Value} : rn ca C_X10_copy 10 L (.int x :: S) M = if iI 0 ≤ x then rn ca C_X10_copy 20 L S M else rn ca C_X10_copy 13 L S M := (rn_at k_X10_copy_10).trans rnx_ite
theorem k_X10_copy_13 : lk 13 C_X10_copy = some (.aload_n 0, (0, 0, 0, 0)) := by decide +kernel
theorem s_X10_copy_13 {ca : Nat → List Value → tM → tO} {M : tM} {a1 a2 a3 a4 a5 a6 : Option Value} {x : Nat} {S : List Value} : rn ca C_X10_copy 13 [some (.ref x), a1, a2, a3, a4, a5, a6] S M = rn ca C_X10_copy 14 [some (.ref x), a1, a2, a3, a4, a5, a6] (.ref x :: S) M := (rn_at k_X10_copy_13).trans rfl
theorem k_X10_copy_14 : lk 14 C_X10_copy = some (.iload 6, (0, 0, 0, 0)) := by decide +kernel
theorem s_X10_copy_14 {ca : Nat → List Value → tM → tO} {M : tM} {a0 a1 a2 a3 a4 a5 : Option Value} {x : Int32} {S : List Value} : rn ca C_X10_copy 14 [a0, a1, a2, a3, a4, a5, some (.int x)] S M = rn ca C_X10_copy 16 [a0, a1, a2, a3, a4, a5, some (.int x)] (.int x :: S) M := (rn_at k_X10_copy_14).trans rfl
theorem k_X10_copy_16 : lk 16 C_X10_copy = some (.invokevirtual 101, (134, 1, 10, 175)) := by decide +kernel
theorem s_X10_copy_16 {ca : Nat → List Value → tM → tO} {M : tM} {L : tL} {v1 : Value} {b : Nat} : rn ca C_X10_copy 16 L [v1, .ref b] M = if clsO b = some 10 then rnk ca C_X10_copy 19 L [] (ca m_X10_refuse [.ref b, v1] M) else none := (rn_at k_X10_copy_16).trans rnx_ite
theorem k_X10_copy_19 : lk 19 C_X10_copy = some (.ireturn, (0, 0, 0, 0)) := by decide +kernel
theorem s_X10_copy_19 {ca : Nat → List Value → tM → tO} {M : tM} {L : tL} {x : Int32} : rn ca C_X10_copy 19 L [.int x] M = some (some (.int x), M) := (rn_at k_X10_copy_19).trans rfl
theorem k_X10_copy_20 : lk 20 C_X10_copy = some (.iload 5, (0, 0, 0, 0)) := by decide +kernel
theorem s_X10_copy_20 {ca : Nat → List Value → tM → tO} {M : tM} {a0 a1 a2 a3 a4 a6 : Option Value} {x : Int32} {S : List Value} : rn ca C_X10_copy 20 [a0, a1, a2, a3, a4, some (.int x), a6] S M = rn ca C_X10_copy 22 [a0, a1, a2, a3, a4, some (.int x), a6] (.int x :: S) M := (rn_at k_X10_copy_20).trans rfl
theorem k_X10_copy_22 : lk 22 C_X10_copy = some (.ifCond .ge 10, (32, 0, 0, 0)) := by decide +kernel
theorem s_X10_copy_22 {ca : Nat → List Value → tM → tO} {M : tM} {L : tL} {x : Int32} {S : List Value} : rn ca C_X10_copy 22 L (.int x :: S) M = if iI 0 ≤ x then rn ca C_X10_copy 32 L S M else rn ca C_X10_copy 25 L S M := (rn_at k_X10_copy_22).trans rnx_ite
theorem k_X10_copy_25 : lk 25 C_X10_copy = some (.aload_n 0, (0, 0, 0, 0)) := by decide +kernel
theorem s_X10_copy_25 {ca : Nat → List Value → tM → tO} {M : tM} {a1 a2 a3 a4 a5 a6 : Option Value} {x : Nat} {S : List Value} : rn ca C_X10_copy 25 [some (.ref x), a1, a2, a3, a4, a5, a6] S M = rn ca C_X10_copy 26 [some (.ref x), a1, a2, a3, a4, a5, a6] (.ref x :: S) M := (rn_at k_X10_copy_25).trans rfl
theorem k_X10_copy_26 : lk 26 C_X10_copy = some (.bipush (-4), (0, 0, 0, 0)) := by decide +kernel
theorem s_X10_copy_26 {ca : Nat → List Value → tM → tO} {M : tM} {L : tL} {S : List Value} : rn ca C_X10_copy 26 L S M = rn ca C_X10_copy 28 L (.int (iI (-4)) :: S) M := (rn_at k_X10_copy_26).trans rfl
theorem k_X10_copy_28 : lk 28 C_X10_copy = some (.invokevirtual 101, (134, 1, 10, 175)) := by decide +kernel
theorem s_X10_copy_28 {ca : Nat → List Value → tM → tO} {M : tM} {L : tL} {v1 : Value} {b : Nat} : rn ca C_X10_copy 28 L [v1, .ref b] M = if clsO b = some 10 then rnk ca C_X10_copy 31 L [] (ca m_X10_refuse [.ref b, v1] M) else none := (rn_at k_X10_copy_28).trans rnx_ite
theorem k_X10_copy_31 : lk 31 C_X10_copy = some (.ireturn, (0, 0, 0, 0)) := by decide +kernel
theorem s_X10_copy_31 {ca : Nat → List Value → tM → tO} {M : tM} {L : tL} {x : Int32} : rn ca C_X10_copy 31 L [.int x] M = some (some (.int x), M) := (rn_at k_X10_copy_31).trans rfl
theorem k_X10_copy_32 : lk 32 C_X10_copy = some (.aload_n 0, (0, 0, 0, 0)) := by decide +kernel
theorem s_X10_copy_32 {ca : Nat → List Value → tM → tO} {M : tM} {a1 a2 a3 a4 a5 a6 : Option Value} {x : Nat} {S : List Value} : rn ca C_X10_copy 32 [some (.ref x), a1, a2, a3, a4, a5, a6] S M = rn ca C_X10_copy 33 [some (.ref x), a1, a2, a3, a4, a5, a6] (.ref x :: S) M := (rn_at k_X10_copy_32).trans rfl
theorem k_X10_copy_33 : lk 33 C_X10_copy = some (.getfield 25, (10, 3, 0, 22)) := by decide +kernel
theorem s_X10_copy_33 {ca : Nat → List Value → tM → tO} {M : tM} {L : tL} {b : Nat} {S : List Value} : rn ca C_X10_copy 33 L (.ref b :: S) M = if clsO b = some 10 then rn ca C_X10_copy 36 L (fv M b 3 :: S) M else none := (rn_at k_X10_copy_33).trans rnx_ite
theorem k_X10_copy_36 : lk 36 C_X10_copy = some (.iload_n 1, (0, 0, 0, 0)) := by decide +kernel
theorem s_X10_copy_36 {ca : Nat → List Value → tM → tO} {M : tM} {a0 a2 a3 a4 a5 a6 : Option Value} {x : Int32} {S : List Value} : rn ca C_X10_copy 36 [a0, some (.int x), a2, a3, a4, a5, a6] S M = rn ca C_X10_copy 37 [a0, some (.int x), a2, a3, a4, a5, a6] (.int x :: S) M := (rn_at k_X10_copy_36).trans rfl
theorem k_X10_copy_37 : lk 37 C_X10_copy = some (.iload_n 3, (0, 0, 0, 0)) := by decide +kernel
theorem s_X10_copy_37 {ca : Nat → List Value → tM → tO} {M : tM} {a0 a1 a2 a4 a5 a6 : Option Value} {x : Int32} {S : List Value} : rn ca C_X10_copy 37 [a0, a1, a2, some (.int x), a4, a5, a6] S M = rn ca C_X10_copy 38 [a0, a1, a2, some (.int x), a4, a5, a6] (.int x :: S) M := (rn_at k_X10_copy_37).trans rfl
theorem k_X10_copy_38 : lk 38 C_X10_copy = some (.iload 5, (0, 0, 0, 0)) := by decide +kernel
theorem s_X10_copy_38 {ca : Nat → List Value → tM → tO} {M : tM} {a0 a1 a2 a3 a4 a6 : Option Value} {x : Int32} {S : List Value} : rn ca C_X10_copy 38 [a0, a1, a2, a3, a4, some (.int x), a6] S M = rn ca C_X10_copy 40 [a0, a1, a2, a3, a4, some (.int x), a6] (.int x :: S) M := (rn_at k_X10_copy_38).trans rfl
theorem k_X10_copy_40 : lk 40 C_X10_copy = some (.invokevirtual 123, (76, 3, 8, 248)) := by decide +kernel
theorem s_X10_copy_40 {ca : Nat → List Value → tM → tO} {M : tM} {L : tL} {v1 v2 v3 : Value} {b : Nat} : rn ca C_X10_copy 40 L [v3, v2, v1, .ref b] M = if clsO b = some 8 then rnk ca C_X10_copy 43 L [] (ca m_X8_hasPart [.ref b, v1, v2, v3] M) else none := (rn_at k_X10_copy_40).trans rnx_ite
theorem k_X10_copy_43 : lk 43 C_X10_copy = some (.ifCond .eq 18, (61, 0, 0, 0)) := by decide +kernel
theorem s_X10_copy_43 {ca : Nat → List Value → tM → tO} {M : tM} {L : tL} {x : Int32} {S : List Value} : rn ca C_X10_copy 43 L (.int x :: S) M = if x = iI 0 then rn ca C_X10_copy 61 L S M else rn ca C_X10_copy 46 L S M := (rn_at k_X10_copy_43).trans rnx_ite
theorem k_X10_copy_46 : lk 46 C_X10_copy = some (.aload_n 0, (0, 0, 0, 0)) := by decide +kernel
theorem s_X10_copy_46 {ca : Nat → List Value → tM → tO} {M : tM} {a1 a2 a3 a4 a5 a6 : Option Value} {x : Nat} {S : List Value} : rn ca C_X10_copy 46 [some (.ref x), a1, a2, a3, a4, a5, a6] S M = rn ca C_X10_copy 47 [some (.ref x), a1, a2, a3, a4, a5, a6] (.ref x :: S) M := (rn_at k_X10_copy_46).trans rfl
theorem k_X10_copy_47 : lk 47 C_X10_copy = some (.getfield 25, (10, 3, 0, 22)) := by decide +kernel
theorem s_X10_copy_47 {ca : Nat → List Value → tM → tO} {M : tM} {L : tL} {b : Nat} {S : List Value} : rn ca C_X10_copy 47 L (.ref b :: S) M = if clsO b = some 10 then rn ca C_X10_copy 50 L (fv M b 3 :: S) M else none := (rn_at k_X10_copy_47).trans rnx_ite
theorem k_X10_copy_50 : lk 50 C_X10_copy = some (.iload_n 2, (0, 0, 0, 0)) := by decide +kernel
theorem s_X10_copy_50 {ca : Nat → List Value → tM → tO} {M : tM} {a0 a1 a3 a4 a5 a6 : Option Value} {x : Int32} {S : List Value} : rn ca C_X10_copy 50 [a0, a1, some (.int x), a3, a4, a5, a6] S M = rn ca C_X10_copy 51 [a0, a1, some (.int x), a3, a4, a5, a6] (.int x :: S) M := (rn_at k_X10_copy_50).trans rfl
theorem k_X10_copy_51 : lk 51 C_X10_copy = some (.iload 4, (0, 0, 0, 0)) := by decide +kernel
theorem s_X10_copy_51 {ca : Nat → List Value → tM → tO} {M : tM} {a0 a1 a2 a3 a5 a6 : Option Value} {x : Int32} {S : List Value} : rn ca C_X10_copy 51 [a0, a1, a2, a3, some (.int x), a5, a6] S M = rn ca C_X10_copy 53 [a0, a1, a2, a3, some (.int x), a5, a6] (.int x :: S) M := (rn_at k_X10_copy_51).trans rfl
theorem k_X10_copy_53 : lk 53 C_X10_copy = some (.iload 5, (0, 0, 0, 0)) := by decide +kernel
theorem s_X10_copy_53 {ca : Nat → List Value → tM → tO} {M : tM} {a0 a1 a2 a3 a4 a6 : Option Value} {x : Int32} {S : List Value} : rn ca C_X10_copy 53 [a0, a1, a2, a3, a4, some (.int x), a6] S M = rn ca C_X10_copy 55 [a0, a1, a2, a3, a4, some (.int x), a6] (.int x :: S) M := (rn_at k_X10_copy_53).trans rfl
theorem k_X10_copy_55 : lk 55 C_X10_copy = some (.invokevirtual 123, (76, 3, 8, 248)) := by decide +kernel
theorem s_X10_copy_55 {ca : Nat → List Value → tM → tO} {M : tM} {L : tL} {v1 v2 v3 : Value} {b : Nat} : rn ca C_X10_copy 55 L [v3, v2, v1, .ref b] M = if clsO b = some 8 then rnk ca C_X10_copy 58 L [] (ca m_X8_hasPart [.ref b, v1, v2, v3] M) else none := (rn_at k_X10_copy_55).trans rnx_ite
theorem k_X10_copy_58 : lk 58 C_X10_copy = some (.ifCond .ne 10, (68, 0, 0, 0)) := by decide +kernel
theorem s_X10_copy_58 {ca : Nat → List Value → tM → tO} {M : tM} {L : tL} {x : Int32} {S : List Value} : rn ca C_X10_copy 58 L (.int x :: S) M = if ¬ x = iI 0 then rn ca C_X10_copy 68 L S M else rn ca C_X10_copy 61 L S M := (rn_at k_X10_copy_58).trans rnx_ite
theorem k_X10_copy_61 : lk 61 C_X10_copy = some (.aload_n 0, (0, 0, 0, 0)) := by decide +kernel
theorem s_X10_copy_61 {ca : Nat → List Value → tM → tO} {M : tM} {a1 a2 a3 a4 a5 a6 : Option Value} {x : Nat} {S : List Value} : rn ca C_X10_copy 61 [some (.ref x), a1, a2, a3, a4, a5, a6] S M = rn ca C_X10_copy 62 [some (.ref x), a1, a2, a3, a4, a5, a6] (.ref x :: S) M := (rn_at k_X10_copy_61).trans rfl
theorem k_X10_copy_62 : lk 62 C_X10_copy = some (.bipush (-5), (0, 0, 0, 0)) := by decide +kernel
theorem s_X10_copy_62 {ca : Nat → List Value → tM → tO} {M : tM} {L : tL} {S : List Value} : rn ca C_X10_copy 62 L S M = rn ca C_X10_copy 64 L (.int (iI (-5)) :: S) M := (rn_at k_X10_copy_62).trans rfl
theorem k_X10_copy_64 : lk 64 C_X10_copy = some (.invokevirtual 101, (134, 1, 10, 175)) := by decide +kernel
theorem s_X10_copy_64 {ca : Nat → List Value → tM → tO} {M : tM} {L : tL} {v1 : Value} {b : Nat} : rn ca C_X10_copy 64 L [v1, .ref b] M = if clsO b = some 10 then rnk ca C_X10_copy 67 L [] (ca m_X10_refuse [.ref b, v1] M) else none := (rn_at k_X10_copy_64).trans rnx_ite
theorem k_X10_copy_67 : lk 67 C_X10_copy = some (.ireturn, (0, 0, 0, 0)) := by decide +kernel
theorem s_X10_copy_67 {ca : Nat → List Value → tM → tO} {M : tM} {L : tL} {x : Int32} : rn ca C_X10_copy 67 L [.int x] M = some (some (.int x), M) := (rn_at k_X10_copy_67).trans rfl
theorem k_X10_copy_68 : lk 68 C_X10_copy = some (.aload_n 0, (0, 0, 0, 0)) := by decide +kernel
theorem s_X10_copy_68 {ca : Nat → List Value → tM → tO} {M : tM} {a1 a2 a3 a4 a5 a6 : Option Value} {x : Nat} {S : List Value} : rn ca C_X10_copy 68 [some (.ref x), a1, a2, a3, a4, a5, a6] S M = rn ca C_X10_copy 69 [some (.ref x), a1, a2, a3, a4, a5, a6] (.ref x :: S) M := (rn_at k_X10_copy_68).trans rfl
theorem k_X10_copy_69 : lk 69 C_X10_copy = some (.getfield 25, (10, 3, 0, 22)) := by decide +kernel
theorem s_X10_copy_69 {ca : Nat → List Value → tM → tO} {M : tM} {L : tL} {b : Nat} {S : List Value} : rn ca C_X10_copy 69 L (.ref b :: S) M = if clsO b = some 10 then rn ca C_X10_copy 72 L (fv M b 3 :: S) M else none := (rn_at k_X10_copy_69).trans rnx_ite
theorem k_X10_copy_72 : lk 72 C_X10_copy = some (.iload_n 1, (0, 0, 0, 0)) := by decide +kernel
theorem s_X10_copy_72 {ca : Nat → List Value → tM → tO} {M : tM} {a0 a2 a3 a4 a5 a6 : Option Value} {x : Int32} {S : List Value} : rn ca C_X10_copy 72 [a0, some (.int x), a2, a3, a4, a5, a6] S M = rn ca C_X10_copy 73 [a0, some (.int x), a2, a3, a4, a5, a6] (.int x :: S) M := (rn_at k_X10_copy_72).trans rfl
theorem k_X10_copy_73 : lk 73 C_X10_copy = some (.iload_n 2, (0, 0, 0, 0)) := by decide +kernel
theorem s_X10_copy_73 {ca : Nat → List Value → tM → tO} {M : tM} {a0 a1 a3 a4 a5 a6 : Option Value} {x : Int32} {S : List Value} : rn ca C_X10_copy 73 [a0, a1, some (.int x), a3, a4, a5, a6] S M = rn ca C_X10_copy 74 [a0, a1, some (.int x), a3, a4, a5, a6] (.int x :: S) M := (rn_at k_X10_copy_73).trans rfl
theorem k_X10_copy_74 : lk 74 C_X10_copy = some (.iload_n 3, (0, 0, 0, 0)) := by decide +kernel
theorem s_X10_copy_74 {ca : Nat → List Value → tM → tO} {M : tM} {a0 a1 a2 a4 a5 a6 : Option Value} {x : Int32} {S : List Value} : rn ca C_X10_copy 74 [a0, a1, a2, some (.int x), a4, a5, a6] S M = rn ca C_X10_copy 75 [a0, a1, a2, some (.int x), a4, a5, a6] (.int x :: S) M := (rn_at k_X10_copy_74).trans rfl
theorem k_X10_copy_75 : lk 75 C_X10_copy = some (.iload 4, (0, 0, 0, 0)) := by decide +kernel
theorem s_X10_copy_75 {ca : Nat → List Value → tM → tO} {M : tM} {a0 a1 a2 a3 a5 a6 : Option Value} {x : Int32} {S : List Value} : rn ca C_X10_copy 75 [a0, a1, a2, a3, some (.int x), a5, a6] S M = rn ca C_X10_copy 77 [a0, a1, a2, a3, some (.int x), a5, a6] (.int x :: S) M := (rn_at k_X10_copy_75).trans rfl
theorem k_X10_copy_77 : lk 77 C_X10_copy = some (.iload 5, (0, 0, 0, 0)) := by decide +kernel
theorem s_X10_copy_77 {ca : Nat → List Value → tM → tO} {M : tM} {a0 a1 a2 a3 a4 a6 : Option Value} {x : Int32} {S : List Value} : rn ca C_X10_copy 77 [a0, a1, a2, a3, a4, some (.int x), a6] S M = rn ca C_X10_copy 79 [a0, a1, a2, a3, a4, some (.int x), a6] (.int x :: S) M := (rn_at k_X10_copy_77).trans rfl
theorem k_X10_copy_79 : lk 79 C_X10_copy = some (.invokevirtual 127, (77, 5, 8, 252)) := by decide +kernel
theorem s_X10_copy_79 {ca : Nat → List Value → tM → tO} {M : tM} {L : tL} {v1 v2 v3 v4 v5 : Value} {b : Nat} : rn ca C_X10_copy 79 L [v5, v4, v3, v2, v1, .ref b] M = if clsO b = some 8 then rnk ca C_X10_copy 82 L [] (ca m_X8_copyPart [.ref b, v1, v2, v3, v4, v5] M) else none := (rn_at k_X10_copy_79).trans rnx_ite
theorem k_X10_copy_82 : lk 82 C_X10_copy = some (.iconst 1, (0, 0, 0, 0)) := by decide +kernel
theorem s_X10_copy_82 {ca : Nat → List Value → tM → tO} {M : tM} {L : tL} {S : List Value} : rn ca C_X10_copy 82 L S M = rn ca C_X10_copy 83 L (.int (iI 1) :: S) M := (rn_at k_X10_copy_82).trans rfl
theorem k_X10_copy_83 : lk 83 C_X10_copy = some (.ireturn, (0, 0, 0, 0)) := by decide +kernel
theorem s_X10_copy_83 {ca : Nat → List Value → tM → tO} {M : tM} {L : tL} {x : Int32} : rn ca C_X10_copy 83 L [.int x] M = some (some (.int x), M) := (rn_at k_X10_copy_83).trans rfl
theorem k_X10_element_0 : lk 0 C_X10_element = some (.aload_n 0, (0, 0, 0, 0)) := by decide +kernel
theorem s_X10_element_0 {ca : Nat → List Value → tM → tO} {M : tM} {a1 a2 : Option Value} {x : Nat} {S : List Value} : rn ca C_X10_element 0 [some (.ref x), a1, a2] S M = rn ca C_X10_element 1 [some (.ref x), a1, a2] (.ref x :: S) M := (rn_at k_X10_element_0).trans rfl
theorem k_X10_element_1 : lk 1 C_X10_element = some (.getfield 25, (10, 3, 0, 22)) := by decide +kernel
theorem s_X10_element_1 {ca : Nat → List Value → tM → tO} {M : tM} {L : tL} {b : Nat} {S : List Value} : rn ca C_X10_element 1 L (.ref b :: S) M = if clsO b = some 10 then rn ca C_X10_element 4 L (fv M b 3 :: S) M else none := (rn_at k_X10_element_1).trans rnx_ite
theorem k_X10_element_4 : lk 4 C_X10_element = some (.iload_n 1, (0, 0, 0, 0)) := by decide +kernel
theorem s_X10_element_4 {ca : Nat → List Value → tM → tO} {M : tM} {a0 a2 : Option Value} {x : Int32} {S : List Value} : rn ca C_X10_element 4 [a0, some (.int x), a2] S M = rn ca C_X10_element 5 [a0, some (.int x), a2] (.int x :: S) M := (rn_at k_X10_element_4).trans rfl
theorem k_X10_element_5 : lk 5 C_X10_element = some (.iload_n 2, (0, 0, 0, 0)) := by decide +kernel
theorem s_X10_element_5 {ca : Nat → List Value → tM → tO} {M : tM} {a0 a1 : Option Value} {x : Int32} {S : List Value} : rn ca C_X10_element 5 [a0, a1, some (.int x)] S M = rn ca C_X10_element 6 [a0, a1, some (.int x)] (.int x :: S) M := (rn_at k_X10_element_5).trans rfl
theorem k_X10_element_6 : lk 6 C_X10_element = some (.invokevirtual 131, (72, 2, 8, 278)) := by decide +kernel
theorem s_X10_element_6 {ca : Nat → List Value → tM → tO} {M : tM} {L : tL} {v1 v2 : Value} {b : Nat} : rn ca C_X10_element 6 L [v2, v1, .ref b] M = if clsO b = some 8 then rnk ca C_X10_element 9 L [] (ca m_X8_elementAt [.ref b, v1, v2] M) else none := (rn_at k_X10_element_6).trans rnx_ite
theorem k_X10_element_9 : lk 9 C_X10_element = some (.lreturn, (0, 0, 0, 0)) := by decide +kernel
theorem s_X10_element_9 {ca : Nat → List Value → tM → tO} {M : tM} {L : tL} {x : Int64} : rn ca C_X10_element 9 L [.long x] M = some (some (.long x), M) := (rn_at k_X10_element_9).trans rfl
theorem k_X10_show_0 : lk 0 C_X10_show = some (.aload_n 0, (0, 0, 0, 0)) := by decide +kernel
theorem s_X10_show_0 {ca : Nat → List Value → tM → tO} {M : tM} {a1 a2 : Option Value} {x : Nat} {S : List Value} : rn ca C_X10_show 0 [some (.ref x), a1, a2] S M = rn ca C_X10_show 1 [some (.ref x), a1, a2] (.ref x :: S) M := (rn_at k_X10_show_0).trans rfl
theorem k_X10_show_1 : lk 1 C_X10_show = some (.getfield 25, (10, 3, 0, 22)) := by decide +kernel
theorem s_X10_show_1 {ca : Nat → List Value → tM → tO} {M : tM} {L : tL} {b : Nat} {S : List Value} : rn ca C_X10_show 1 L (.ref b :: S) M = if clsO b = some 10 then rn ca C_X10_show 4 L (fv M b 3 :: S) M else none := (rn_at k_X10_show_1).trans rnx_ite
theorem k_X10_show_4 : lk 4 C_X10_show = some (.iload_n 1, (0, 0, 0, 0)) := by decide +kernel
theorem s_X10_show_4 {ca : Nat → List Value → tM → tO} {M : tM} {a0 a2 : Option Value} {x : Int32} {S : List Value} : rn ca C_X10_show 4 [a0, some (.int x), a2] S M = rn ca C_X10_show 5 [a0, some (.int x), a2] (.int x :: S) M := (rn_at k_X10_show_4).trans rfl
theorem k_X10_show_5 : lk 5 C_X10_show = some (.invokevirtual 97, (65, 1, 8, 171)) := by decide +kernel
theorem s_X10_show_5 {ca : Nat → List Value → tM → tO} {M : tM} {L : tL} {v1 : Value} {b : Nat} : rn ca C_X10_show 5 L [v1, .ref b] M = if clsO b = some 8 then rnk ca C_X10_show 8 L [] (ca m_X8_hasShelf [.ref b, v1] M) else none := (rn_at k_X10_show_5).trans rnx_ite
theorem k_X10_show_8 : lk 8 C_X10_show = some (.ifCond .eq 19, (27, 0, 0, 0)) := by decide +kernel
theorem s_X10_show_8 {ca : Nat → List Value → tM → tO} {M : tM} {L : tL} {x : Int32} {S : List Value} : rn ca C_X10_show 8 L (.int x :: S) M = if x = iI 0 then rn ca C_X10_show 27 L S M else rn ca C_X10_show 11 L S M := (rn_at k_X10_show_8).trans rnx_ite
theorem k_X10_show_11 : lk 11 C_X10_show = some (.iload_n 2, (0, 0, 0, 0)) := by decide +kernel
theorem s_X10_show_11 {ca : Nat → List Value → tM → tO} {M : tM} {a0 a1 : Option Value} {x : Int32} {S : List Value} : rn ca C_X10_show 11 [a0, a1, some (.int x)] S M = rn ca C_X10_show 12 [a0, a1, some (.int x)] (.int x :: S) M := (rn_at k_X10_show_11).trans rfl
theorem k_X10_show_12 : lk 12 C_X10_show = some (.iconst (-1), (0, 0, 0, 0)) := by decide +kernel
theorem s_X10_show_12 {ca : Nat → List Value → tM → tO} {M : tM} {L : tL} {S : List Value} : rn ca C_X10_show 12 L S M = rn ca C_X10_show 13 L (.int (iI (-1)) :: S) M := (rn_at k_X10_show_12).trans rfl
theorem k_X10_show_13 : lk 13 C_X10_show = some (.if_icmp .eq 20, (33, 0, 0, 0)) := by decide +kernel
theorem s_X10_show_13 {ca : Nat → List Value → tM → tO} {M : tM} {L : tL} {x y : Int32} {S : List Value} : rn ca C_X10_show 13 L (.int y :: .int x :: S) M = if x = y then rn ca C_X10_show 33 L S M else rn ca C_X10_show 16 L S M := (rn_at k_X10_show_13).trans rnx_ite
theorem k_X10_show_16 : lk 16 C_X10_show = some (.aload_n 0, (0, 0, 0, 0)) := by decide +kernel
theorem s_X10_show_16 {ca : Nat → List Value → tM → tO} {M : tM} {a1 a2 : Option Value} {x : Nat} {S : List Value} : rn ca C_X10_show 16 [some (.ref x), a1, a2] S M = rn ca C_X10_show 17 [some (.ref x), a1, a2] (.ref x :: S) M := (rn_at k_X10_show_16).trans rfl
theorem k_X10_show_17 : lk 17 C_X10_show = some (.getfield 10, (10, 0, 0, 16)) := by decide +kernel
theorem s_X10_show_17 {ca : Nat → List Value → tM → tO} {M : tM} {L : tL} {b : Nat} {S : List Value} : rn ca C_X10_show 17 L (.ref b :: S) M = if clsO b = some 10 then rn ca C_X10_show 20 L (fv M b 0 :: S) M else none := (rn_at k_X10_show_17).trans rnx_ite
theorem k_X10_show_20 : lk 20 C_X10_show = some (.iload_n 2, (0, 0, 0, 0)) := by decide +kernel
theorem s_X10_show_20 {ca : Nat → List Value → tM → tO} {M : tM} {a0 a1 : Option Value} {x : Int32} {S : List Value} : rn ca C_X10_show 20 [a0, a1, some (.int x)] S M = rn ca C_X10_show 21 [a0, a1, some (.int x)] (.int x :: S) M := (rn_at k_X10_show_20).trans rfl
theorem k_X10_show_21 : lk 21 C_X10_show = some (.invokevirtual 135, (20, 1, 4, 290)) := by decide +kernel
theorem s_X10_show_21 {ca : Nat → List Value → tM → tO} {M : tM} {L : tL} {v1 : Value} {b : Nat} : rn ca C_X10_show 21 L [v1, .ref b] M = if clsO b = some 4 then rnk ca C_X10_show 24 L [] (ca m_X4_hasCapsule [.ref b, v1] M) else none := (rn_at k_X10_show_21).trans rnx_ite
theorem k_X10_show_24 : lk 24 C_X10_show = some (.ifCond .ne 9, (33, 0, 0, 0)) := by decide +kernel
theorem s_X10_show_24 {ca : Nat → List Value → tM → tO} {M : tM} {L : tL} {x : Int32} {S : List Value} : rn ca C_X10_show 24 L (.int x :: S) M = if ¬ x = iI 0 then rn ca C_X10_show 33 L S M else rn ca C_X10_show 27 L S M := (rn_at k_X10_show_24).trans rnx_ite
theorem k_X10_show_27 : lk 27 C_X10_show = some (.aload_n 0, (0, 0, 0, 0)) := by decide +kernel
theorem s_X10_show_27 {ca : Nat → List Value → tM → tO} {M : tM} {a1 a2 : Option Value} {x : Nat} {S : List Value} : rn ca C_X10_show 27 [some (.ref x), a1, a2] S M = rn ca C_X10_show 28 [some (.ref x), a1, a2] (.ref x :: S) M := (rn_at k_X10_show_27).trans rfl
theorem k_X10_show_28 : lk 28 C_X10_show = some (.iconst (-1), (0, 0, 0, 0)) := by decide +kernel
theorem s_X10_show_28 {ca : Nat → List Value → tM → tO} {M : tM} {L : tL} {S : List Value} : rn ca C_X10_show 28 L S M = rn ca C_X10_show 29 L (.int (iI (-1)) :: S) M := (rn_at k_X10_show_28).trans rfl
theorem k_X10_show_29 : lk 29 C_X10_show = some (.invokevirtual 101, (134, 1, 10, 175)) := by decide +kernel
theorem s_X10_show_29 {ca : Nat → List Value → tM → tO} {M : tM} {L : tL} {v1 : Value} {b : Nat} : rn ca C_X10_show 29 L [v1, .ref b] M = if clsO b = some 10 then rnk ca C_X10_show 32 L [] (ca m_X10_refuse [.ref b, v1] M) else none := (rn_at k_X10_show_29).trans rnx_ite
theorem k_X10_show_32 : lk 32 C_X10_show = some (.ireturn, (0, 0, 0, 0)) := by decide +kernel
theorem s_X10_show_32 {ca : Nat → List Value → tM → tO} {M : tM} {L : tL} {x : Int32} : rn ca C_X10_show 32 L [.int x] M = some (some (.int x), M) := (rn_at k_X10_show_32).trans rfl
theorem k_X10_show_33 : lk 33 C_X10_show = some (.aload_n 0, (0, 0, 0, 0)) := by decide +kernel
theorem s_X10_show_33 {ca : Nat → List Value → tM → tO} {M : tM} {a1 a2 : Option Value} {x : Nat} {S : List Value} : rn ca C_X10_show 33 [some (.ref x), a1, a2] S M = rn ca C_X10_show 34 [some (.ref x), a1, a2] (.ref x :: S) M := (rn_at k_X10_show_33).trans rfl
theorem k_X10_show_34 : lk 34 C_X10_show = some (.getfield 25, (10, 3, 0, 22)) := by decide +kernel
theorem s_X10_show_34 {ca : Nat → List Value → tM → tO} {M : tM} {L : tL} {b : Nat} {S : List Value} : rn ca C_X10_show 34 L (.ref b :: S) M = if clsO b = some 10 then rn ca C_X10_show 37 L (fv M b 3 :: S) M else none := (rn_at k_X10_show_34).trans rnx_ite
theorem k_X10_show_37 : lk 37 C_X10_show = some (.iload_n 1, (0, 0, 0, 0)) := by decide +kernel
theorem s_X10_show_37 {ca : Nat → List Value → tM → tO} {M : tM} {a0 a2 : Option Value} {x : Int32} {S : List Value} : rn ca C_X10_show 37 [a0, some (.int x), a2] S M = rn ca C_X10_show 38 [a0, some (.int x), a2] (.int x :: S) M := (rn_at k_X10_show_37).trans rfl
theorem k_X10_show_38 : lk 38 C_X10_show = some (.iload_n 2, (0, 0, 0, 0)) := by decide +kernel
theorem s_X10_show_38 {ca : Nat → List Value → tM → tO} {M : tM} {a0 a1 : Option Value} {x : Int32} {S : List Value} : rn ca C_X10_show 38 [a0, a1, some (.int x)] S M = rn ca C_X10_show 39 [a0, a1, some (.int x)] (.int x :: S) M := (rn_at k_X10_show_38).trans rfl
theorem k_X10_show_39 : lk 39 C_X10_show = some (.invokevirtual 138, (70, 2, 8, 294)) := by decide +kernel
theorem s_X10_show_39 {ca : Nat → List Value → tM → tO} {M : tM} {L : tL} {v1 v2 : Value} {b : Nat} : rn ca C_X10_show 39 L [v2, v1, .ref b] M = if clsO b = some 8 then rnk ca C_X10_show 42 L [] (ca m_X8_putHeld [.ref b, v1, v2] M) else none := (rn_at k_X10_show_39).trans rnx_ite
theorem k_X10_show_42 : lk 42 C_X10_show = some (.iload_n 2, (0, 0, 0, 0)) := by decide +kernel
theorem s_X10_show_42 {ca : Nat → List Value → tM → tO} {M : tM} {a0 a1 : Option Value} {x : Int32} {S : List Value} : rn ca C_X10_show 42 [a0, a1, some (.int x)] S M = rn ca C_X10_show 43 [a0, a1, some (.int x)] (.int x :: S) M := (rn_at k_X10_show_42).trans rfl
theorem k_X10_show_43 : lk 43 C_X10_show = some (.iconst (-1), (0, 0, 0, 0)) := by decide +kernel
theorem s_X10_show_43 {ca : Nat → List Value → tM → tO} {M : tM} {L : tL} {S : List Value} : rn ca C_X10_show 43 L S M = rn ca C_X10_show 44 L (.int (iI (-1)) :: S) M := (rn_at k_X10_show_43).trans rfl
theorem k_X10_show_44 : lk 44 C_X10_show = some (.if_icmp .ne 7, (51, 0, 0, 0)) := by decide +kernel
theorem s_X10_show_44 {ca : Nat → List Value → tM → tO} {M : tM} {L : tL} {x y : Int32} {S : List Value} : rn ca C_X10_show 44 L (.int y :: .int x :: S) M = if ¬ x = y then rn ca C_X10_show 51 L S M else rn ca C_X10_show 47 L S M := (rn_at k_X10_show_44).trans rnx_ite
theorem k_X10_show_47 : lk 47 C_X10_show = some (.iconst 0, (0, 0, 0, 0)) := by decide +kernel
theorem s_X10_show_47 {ca : Nat → List Value → tM → tO} {M : tM} {L : tL} {S : List Value} : rn ca C_X10_show 47 L S M = rn ca C_X10_show 48 L (.int (iI 0) :: S) M := (rn_at k_X10_show_47).trans rfl
theorem k_X10_show_48 : lk 48 C_X10_show = some (.goto 4, (52, 0, 0, 0)) := by decide +kernel
theorem s_X10_show_48 {ca : Nat → List Value → tM → tO} {M : tM} {L : tL} {S : List Value} : rn ca C_X10_show 48 L S M = rn ca C_X10_show 52 L S M := (rn_at k_X10_show_48).trans rfl
theorem k_X10_show_51 : lk 51 C_X10_show = some (.iconst 1, (0, 0, 0, 0)) := by decide +kernel
theorem s_X10_show_51 {ca : Nat → List Value → tM → tO} {M : tM} {L : tL} {S : List Value} : rn ca C_X10_show 51 L S M = rn ca C_X10_show 52 L (.int (iI 1) :: S) M := (rn_at k_X10_show_51).trans rfl
theorem k_X10_show_52 : lk 52 C_X10_show = some (.ireturn, (0, 0, 0, 0)) := by decide +kernel
theorem s_X10_show_52 {ca : Nat → List Value → tM → tO} {M : tM} {L : tL} {x : Int32} : rn ca C_X10_show 52 L [.int x] M = some (some (.int x), M) := (rn_at k_X10_show_52).trans rfl
theorem k_X10_holds_0 : lk 0 C_X10_holds = some (.aload_n 0, (0, 0, 0, 0)) := by decide +kernel
theorem s_X10_holds_0 {ca : Nat → List Value → tM → tO} {M : tM} {a1 : Option Value} {x : Nat} {S : List Value} : rn ca C_X10_holds 0 [some (.ref x), a1] S M = rn ca C_X10_holds 1 [some (.ref x), a1] (.ref x :: S) M := (rn_at k_X10_holds_0).trans rfl
theorem k_X10_holds_1 : lk 1 C_X10_holds = some (.getfield 25, (10, 3, 0, 22)) := by decide +kernel
theorem s_X10_holds_1 {ca : Nat → List Value → tM → tO} {M : tM} {L : tL} {b : Nat} {S : List Value} : rn ca C_X10_holds 1 L (.ref b :: S) M = if clsO b = some 10 then rn ca C_X10_holds 4 L (fv M b 3 :: S) M else none := (rn_at k_X10_holds_1).trans rnx_ite
theorem k_X10_holds_4 : lk 4 C_X10_holds = some (.iload_n 1, (0, 0, 0, 0)) := by decide +kernel
theorem s_X10_holds_4 {ca : Nat → List Value → tM → tO} {M : tM} {a0 : Option Value} {x : Int32} {S : List Value} : rn ca C_X10_holds 4 [a0, some (.int x)] S M = rn ca C_X10_holds 5 [a0, some (.int x)] (.int x :: S) M := (rn_at k_X10_holds_4).trans rfl
theorem k_X10_holds_5 : lk 5 C_X10_holds = some (.invokevirtual 142, (67, 1, 8, 212)) := by decide +kernel
theorem s_X10_holds_5 {ca : Nat → List Value → tM → tO} {M : tM} {L : tL} {v1 : Value} {b : Nat} : rn ca C_X10_holds 5 L [v1, .ref b] M = if clsO b = some 8 then rnk ca C_X10_holds 8 L [] (ca m_X8_heldAt [.ref b, v1] M) else none := (rn_at k_X10_holds_5).trans rnx_ite
theorem k_X10_holds_8 : lk 8 C_X10_holds = some (.ireturn, (0, 0, 0, 0)) := by decide +kernel
theorem s_X10_holds_8 {ca : Nat → List Value → tM → tO} {M : tM} {L : tL} {x : Int32} : rn ca C_X10_holds 8 L [.int x] M = some (some (.int x), M) := (rn_at k_X10_holds_8).trans rfl
theorem k_X10_says_0 : lk 0 C_X10_says = some (.aload_n 0, (0, 0, 0, 0)) := by decide +kernel
theorem s_X10_says_0 {ca : Nat → List Value → tM → tO} {M : tM} {a1 a2 a3 : Option Value} {x : Nat} {S : List Value} : rn ca C_X10_says 0 [some (.ref x), a1, a2, a3] S M = rn ca C_X10_says 1 [some (.ref x), a1, a2, a3] (.ref x :: S) M := (rn_at k_X10_says_0).trans rfl
theorem k_X10_says_1 : lk 1 C_X10_says = some (.getfield 25, (10, 3, 0, 22)) := by decide +kernel
theorem s_X10_says_1 {ca : Nat → List Value → tM → tO} {M : tM} {L : tL} {b : Nat} {S : List Value} : rn ca C_X10_says 1 L (.ref b :: S) M = if clsO b = some 10 then rn ca C_X10_says 4 L (fv M b 3 :: S) M else none := (rn_at k_X10_says_1).trans rnx_ite
theorem k_X10_says_4 : lk 4 C_X10_says = some (.iload_n 1, (0, 0, 0, 0)) := by decide +kernel
theorem s_X10_says_4 {ca : Nat → List Value → tM → tO} {M : tM} {a0 a2 a3 : Option Value} {x : Int32} {S : List Value} : rn ca C_X10_says 4 [a0, some (.int x), a2, a3] S M = rn ca C_X10_says 5 [a0, some (.int x), a2, a3] (.int x :: S) M := (rn_at k_X10_says_4).trans rfl
theorem k_X10_says_5 : lk 5 C_X10_says = some (.invokevirtual 97, (65, 1, 8, 171)) := by decide +kernel
theorem s_X10_says_5 {ca : Nat → List Value → tM → tO} {M : tM} {L : tL} {v1 : Value} {b : Nat} : rn ca C_X10_says 5 L [v1, .ref b] M = if clsO b = some 8 then rnk ca C_X10_says 8 L [] (ca m_X8_hasShelf [.ref b, v1] M) else none := (rn_at k_X10_says_5).trans rnx_ite
theorem k_X10_says_8 : lk 8 C_X10_says = some (.ifCond .eq 13, (21, 0, 0, 0)) := by decide +kernel
theorem s_X10_says_8 {ca : Nat → List Value → tM → tO} {M : tM} {L : tL} {x : Int32} {S : List Value} : rn ca C_X10_says 8 L (.int x :: S) M = if x = iI 0 then rn ca C_X10_says 21 L S M else rn ca C_X10_says 11 L S M := (rn_at k_X10_says_8).trans rnx_ite
theorem k_X10_says_11 : lk 11 C_X10_says = some (.iload_n 2, (0, 0, 0, 0)) := by decide +kernel
theorem s_X10_says_11 {ca : Nat → List Value → tM → tO} {M : tM} {a0 a1 a3 : Option Value} {x : Int32} {S : List Value} : rn ca C_X10_says 11 [a0, a1, some (.int x), a3] S M = rn ca C_X10_says 12 [a0, a1, some (.int x), a3] (.int x :: S) M := (rn_at k_X10_says_11).trans rfl
theorem k_X10_says_12 : lk 12 C_X10_says = some (.ifCond .lt 9, (21, 0, 0, 0)) := by decide +kernel
theorem s_X10_says_12 {ca : Nat → List Value → tM → tO} {M : tM} {L : tL} {x : Int32} {S : List Value} : rn ca C_X10_says 12 L (.int x :: S) M = if x < iI 0 then rn ca C_X10_says 21 L S M else rn ca C_X10_says 15 L S M := (rn_at k_X10_says_12).trans rnx_ite
theorem k_X10_says_15 : lk 15 C_X10_says = some (.iload_n 2, (0, 0, 0, 0)) := by decide +kernel
theorem s_X10_says_15 {ca : Nat → List Value → tM → tO} {M : tM} {a0 a1 a3 : Option Value} {x : Int32} {S : List Value} : rn ca C_X10_says 15 [a0, a1, some (.int x), a3] S M = rn ca C_X10_says 16 [a0, a1, some (.int x), a3] (.int x :: S) M := (rn_at k_X10_says_15).trans rfl
theorem k_X10_says_16 : lk 16 C_X10_says = some (.bipush 7, (0, 0, 0, 0)) := by decide +kernel
theorem s_X10_says_16 {ca : Nat → List Value → tM → tO} {M : tM} {L : tL} {S : List Value} : rn ca C_X10_says 16 L S M = rn ca C_X10_says 18 L (.int (iI 7) :: S) M := (rn_at k_X10_says_16).trans rfl
theorem k_X10_says_18 : lk 18 C_X10_says = some (.if_icmp .lt 9, (27, 0, 0, 0)) := by decide +kernel
theorem s_X10_says_18 {ca : Nat → List Value → tM → tO} {M : tM} {L : tL} {x y : Int32} {S : List Value} : rn ca C_X10_says 18 L (.int y :: .int x :: S) M = if x < y then rn ca C_X10_says 27 L S M else rn ca C_X10_says 21 L S M := (rn_at k_X10_says_18).trans rnx_ite
theorem k_X10_says_21 : lk 21 C_X10_says = some (.aload_n 0, (0, 0, 0, 0)) := by decide +kernel
theorem s_X10_says_21 {ca : Nat → List Value → tM → tO} {M : tM} {a1 a2 a3 : Option Value} {x : Nat} {S : List Value} : rn ca C_X10_says 21 [some (.ref x), a1, a2, a3] S M = rn ca C_X10_says 22 [some (.ref x), a1, a2, a3] (.ref x :: S) M := (rn_at k_X10_says_21).trans rfl
theorem k_X10_says_22 : lk 22 C_X10_says = some (.iconst (-1), (0, 0, 0, 0)) := by decide +kernel
theorem s_X10_says_22 {ca : Nat → List Value → tM → tO} {M : tM} {L : tL} {S : List Value} : rn ca C_X10_says 22 L S M = rn ca C_X10_says 23 L (.int (iI (-1)) :: S) M := (rn_at k_X10_says_22).trans rfl
theorem k_X10_says_23 : lk 23 C_X10_says = some (.invokevirtual 101, (134, 1, 10, 175)) := by decide +kernel
theorem s_X10_says_23 {ca : Nat → List Value → tM → tO} {M : tM} {L : tL} {v1 : Value} {b : Nat} : rn ca C_X10_says 23 L [v1, .ref b] M = if clsO b = some 10 then rnk ca C_X10_says 26 L [] (ca m_X10_refuse [.ref b, v1] M) else none := (rn_at k_X10_says_23).trans rnx_ite
theorem k_X10_says_26 : lk 26 C_X10_says = some (.ireturn, (0, 0, 0, 0)) := by decide +kernel
theorem s_X10_says_26 {ca : Nat → List Value → tM → tO} {M : tM} {L : tL} {x : Int32} : rn ca C_X10_says 26 L [.int x] M = some (some (.int x), M) := (rn_at k_X10_says_26).trans rfl
theorem k_X10_says_27 : lk 27 C_X10_says = some (.aload_n 0, (0, 0, 0, 0)) := by decide +kernel
theorem s_X10_says_27 {ca : Nat → List Value → tM → tO} {M : tM} {a1 a2 a3 : Option Value} {x : Nat} {S : List Value} : rn ca C_X10_says 27 [some (.ref x), a1, a2, a3] S M = rn ca C_X10_says 28 [some (.ref x), a1, a2, a3] (.ref x :: S) M := (rn_at k_X10_says_27).trans rfl
theorem k_X10_says_28 : lk 28 C_X10_says = some (.getfield 25, (10, 3, 0, 22)) := by decide +kernel
theorem s_X10_says_28 {ca : Nat → List Value → tM → tO} {M : tM} {L : tL} {b : Nat} {S : List Value} : rn ca C_X10_says 28 L (.ref b :: S) M = if clsO b = some 10 then rn ca C_X10_says 31 L (fv M b 3 :: S) M else none := (rn_at k_X10_says_28).trans rnx_ite
theorem k_X10_says_31 : lk 31 C_X10_says = some (.iload_n 1, (0, 0, 0, 0)) := by decide +kernel
theorem s_X10_says_31 {ca : Nat → List Value → tM → tO} {M : tM} {a0 a2 a3 : Option Value} {x : Int32} {S : List Value} : rn ca C_X10_says 31 [a0, some (.int x), a2, a3] S M = rn ca C_X10_says 32 [a0, some (.int x), a2, a3] (.int x :: S) M := (rn_at k_X10_says_31).trans rfl
theorem k_X10_says_32 : lk 32 C_X10_says = some (.invokevirtual 142, (67, 1, 8, 212)) := by decide +kernel
theorem s_X10_says_32 {ca : Nat → List Value → tM → tO} {M : tM} {L : tL} {v1 : Value} {b : Nat} : rn ca C_X10_says 32 L [v1, .ref b] M = if clsO b = some 8 then rnk ca C_X10_says 35 L [] (ca m_X8_heldAt [.ref b, v1] M) else none := (rn_at k_X10_says_32).trans rnx_ite
theorem k_X10_says_35 : lk 35 C_X10_says = some (.istore_n 3, (0, 0, 0, 0)) := by decide +kernel
theorem s_X10_says_35 {ca : Nat → List Value → tM → tO} {M : tM} {a0 a1 a2 a3 : Option Value} {x : Int32} {S : List Value} : rn ca C_X10_says 35 [a0, a1, a2, a3] (.int x :: S) M = rn ca C_X10_says 36 [a0, a1, a2, some (.int x)] S M := (rn_at k_X10_says_35).trans rfl
theorem k_X10_says_36 : lk 36 C_X10_says = some (.iload_n 3, (0, 0, 0, 0)) := by decide +kernel
theorem s_X10_says_36 {ca : Nat → List Value → tM → tO} {M : tM} {a0 a1 a2 : Option Value} {x : Int32} {S : List Value} : rn ca C_X10_says 36 [a0, a1, a2, some (.int x)] S M = rn ca C_X10_says 37 [a0, a1, a2, some (.int x)] (.int x :: S) M := (rn_at k_X10_says_36).trans rfl
theorem k_X10_says_37 : lk 37 C_X10_says = some (.iconst (-1), (0, 0, 0, 0)) := by decide +kernel
theorem s_X10_says_37 {ca : Nat → List Value → tM → tO} {M : tM} {L : tL} {S : List Value} : rn ca C_X10_says 37 L S M = rn ca C_X10_says 38 L (.int (iI (-1)) :: S) M := (rn_at k_X10_says_37).trans rfl
theorem k_X10_says_38 : lk 38 C_X10_says = some (.if_icmp .ne 10, (48, 0, 0, 0)) := by decide +kernel
theorem s_X10_says_38 {ca : Nat → List Value → tM → tO} {M : tM} {L : tL} {x y : Int32} {S : List Value} : rn ca C_X10_says 38 L (.int y :: .int x :: S) M = if ¬ x = y then rn ca C_X10_says 48 L S M else rn ca C_X10_says 41 L S M := (rn_at k_X10_says_38).trans rnx_ite
theorem k_X10_says_41 : lk 41 C_X10_says = some (.aload_n 0, (0, 0, 0, 0)) := by decide +kernel
theorem s_X10_says_41 {ca : Nat → List Value → tM → tO} {M : tM} {a1 a2 a3 : Option Value} {x : Nat} {S : List Value} : rn ca C_X10_says 41 [some (.ref x), a1, a2, a3] S M = rn ca C_X10_says 42 [some (.ref x), a1, a2, a3] (.ref x :: S) M := (rn_at k_X10_says_41).trans rfl
theorem k_X10_says_42 : lk 42 C_X10_says = some (.bipush (-3), (0, 0, 0, 0)) := by decide +kernel
theorem s_X10_says_42 {ca : Nat → List Value → tM → tO} {M : tM} {L : tL} {S : List Value} : rn ca C_X10_says 42 L S M = rn ca C_X10_says 44 L (.int (iI (-3)) :: S) M := (rn_at k_X10_says_42).trans rfl
theorem k_X10_says_44 : lk 44 C_X10_says = some (.invokevirtual 101, (134, 1, 10, 175)) := by decide +kernel
theorem s_X10_says_44 {ca : Nat → List Value → tM → tO} {M : tM} {L : tL} {v1 : Value} {b : Nat} : rn ca C_X10_says 44 L [v1, .ref b] M = if clsO b = some 10 then rnk ca C_X10_says 47 L [] (ca m_X10_refuse [.ref b, v1] M) else none := (rn_at k_X10_says_44).trans rnx_ite
theorem k_X10_says_47 : lk 47 C_X10_says = some (.ireturn, (0, 0, 0, 0)) := by decide +kernel
theorem s_X10_says_47 {ca : Nat → List Value → tM → tO} {M : tM} {L : tL} {x : Int32} : rn ca C_X10_says 47 L [.int x] M = some (some (.int x), M) := (rn_at k_X10_says_47).trans rfl
theorem k_X10_says_48 : lk 48 C_X10_says = some (.aload_n 0, (0, 0, 0, 0)) := by decide +kernel
theorem s_X10_says_48 {ca : Nat → List Value → tM → tO} {M : tM} {a1 a2 a3 : Option Value} {x : Nat} {S : List Value} : rn ca C_X10_says 48 [some (.ref x), a1, a2, a3] S M = rn ca C_X10_says 49 [some (.ref x), a1, a2, a3] (.ref x :: S) M := (rn_at k_X10_says_48).trans rfl
theorem k_X10_says_49 : lk 49 C_X10_says = some (.getfield 10, (10, 0, 0, 16)) := by decide +kernel
theorem s_X10_says_49 {ca : Nat → List Value → tM → tO} {M : tM} {L : tL} {b : Nat} {S : List Value} : rn ca C_X10_says 49 L (.ref b :: S) M = if clsO b = some 10 then rn ca C_X10_says 52 L (fv M b 0 :: S) M else none := (rn_at k_X10_says_49).trans rnx_ite
theorem k_X10_says_52 : lk 52 C_X10_says = some (.iload_n 3, (0, 0, 0, 0)) := by decide +kernel
theorem s_X10_says_52 {ca : Nat → List Value → tM → tO} {M : tM} {a0 a1 a2 : Option Value} {x : Int32} {S : List Value} : rn ca C_X10_says 52 [a0, a1, a2, some (.int x)] S M = rn ca C_X10_says 53 [a0, a1, a2, some (.int x)] (.int x :: S) M := (rn_at k_X10_says_52).trans rfl
theorem k_X10_says_53 : lk 53 C_X10_says = some (.invokevirtual 135, (20, 1, 4, 290)) := by decide +kernel
theorem s_X10_says_53 {ca : Nat → List Value → tM → tO} {M : tM} {L : tL} {v1 : Value} {b : Nat} : rn ca C_X10_says 53 L [v1, .ref b] M = if clsO b = some 4 then rnk ca C_X10_says 56 L [] (ca m_X4_hasCapsule [.ref b, v1] M) else none := (rn_at k_X10_says_53).trans rnx_ite
theorem k_X10_says_56 : lk 56 C_X10_says = some (.ifCond .eq 19, (75, 0, 0, 0)) := by decide +kernel
theorem s_X10_says_56 {ca : Nat → List Value → tM → tO} {M : tM} {L : tL} {x : Int32} {S : List Value} : rn ca C_X10_says 56 L (.int x :: S) M = if x = iI 0 then rn ca C_X10_says 75 L S M else rn ca C_X10_says 59 L S M := (rn_at k_X10_says_56).trans rnx_ite
theorem k_X10_says_59 : lk 59 C_X10_says = some (.aload_n 0, (0, 0, 0, 0)) := by decide +kernel
theorem s_X10_says_59 {ca : Nat → List Value → tM → tO} {M : tM} {a1 a2 a3 : Option Value} {x : Nat} {S : List Value} : rn ca C_X10_says 59 [some (.ref x), a1, a2, a3] S M = rn ca C_X10_says 60 [some (.ref x), a1, a2, a3] (.ref x :: S) M := (rn_at k_X10_says_59).trans rfl
theorem k_X10_says_60 : lk 60 C_X10_says = some (.getfield 10, (10, 0, 0, 16)) := by decide +kernel
theorem s_X10_says_60 {ca : Nat → List Value → tM → tO} {M : tM} {L : tL} {b : Nat} {S : List Value} : rn ca C_X10_says 60 L (.ref b :: S) M = if clsO b = some 10 then rn ca C_X10_says 63 L (fv M b 0 :: S) M else none := (rn_at k_X10_says_60).trans rnx_ite
theorem k_X10_says_63 : lk 63 C_X10_says = some (.getfield 145, (4, 9, 0, 100027)) := by decide +kernel
theorem s_X10_says_63 {ca : Nat → List Value → tM → tO} {M : tM} {L : tL} {b : Nat} {S : List Value} : rn ca C_X10_says 63 L (.ref b :: S) M = if clsO b = some 4 then rn ca C_X10_says 66 L (fv M b 9 :: S) M else none := (rn_at k_X10_says_63).trans rnx_ite
theorem k_X10_says_66 : lk 66 C_X10_says = some (.iload_n 3, (0, 0, 0, 0)) := by decide +kernel
theorem s_X10_says_66 {ca : Nat → List Value → tM → tO} {M : tM} {a0 a1 a2 : Option Value} {x : Int32} {S : List Value} : rn ca C_X10_says 66 [a0, a1, a2, some (.int x)] S M = rn ca C_X10_says 67 [a0, a1, a2, some (.int x)] (.int x :: S) M := (rn_at k_X10_says_66).trans rfl
theorem k_X10_says_67 : lk 67 C_X10_says = some (.iaload, (0, 0, 0, 0)) := by decide +kernel
theorem s_X10_says_67 {ca : Nat → List Value → tM → tO} {M : tM} {L : tL} {a : Nat} {i : Int32} {S : List Value} : rn ca C_X10_says 67 L (.int i :: .ref a :: S) M = if (akind a = 0 ∨ akind a = 6 ∨ akind a = 7) ∧ inb i (alen M a) then rn ca C_X10_says 68 L (.int (M.1 a i.toInt.toNat) :: S) M else none := (rn_at k_X10_says_67).trans rnx_ite
theorem k_X10_says_68 : lk 68 C_X10_says = some (.iload_n 2, (0, 0, 0, 0)) := by decide +kernel
theorem s_X10_says_68 {ca : Nat → List Value → tM → tO} {M : tM} {a0 a1 a3 : Option Value} {x : Int32} {S : List Value} : rn ca C_X10_says 68 [a0, a1, some (.int x), a3] S M = rn ca C_X10_says 69 [a0, a1, some (.int x), a3] (.int x :: S) M := (rn_at k_X10_says_68).trans rfl
theorem k_X10_says_69 : lk 69 C_X10_says = some (.invokestatic 148, (142, 2, 0, 318)) := by decide +kernel
theorem s_X10_says_69 {ca : Nat → List Value → tM → tO} {M : tM} {L : tL} {v1 v2 : Value} : rn ca C_X10_says 69 L [v2, v1] M = rnk ca C_X10_says 72 L [] (ca m_X10_isUnder [v1, v2] M) := (rn_at k_X10_says_69).trans rfl
theorem k_X10_says_72 : lk 72 C_X10_says = some (.ifCond .ne 10, (82, 0, 0, 0)) := by decide +kernel
theorem s_X10_says_72 {ca : Nat → List Value → tM → tO} {M : tM} {L : tL} {x : Int32} {S : List Value} : rn ca C_X10_says 72 L (.int x :: S) M = if ¬ x = iI 0 then rn ca C_X10_says 82 L S M else rn ca C_X10_says 75 L S M := (rn_at k_X10_says_72).trans rnx_ite
theorem k_X10_says_75 : lk 75 C_X10_says = some (.aload_n 0, (0, 0, 0, 0)) := by decide +kernel
theorem s_X10_says_75 {ca : Nat → List Value → tM → tO} {M : tM} {a1 a2 a3 : Option Value} {x : Nat} {S : List Value} : rn ca C_X10_says 75 [some (.ref x), a1, a2, a3] S M = rn ca C_X10_says 76 [some (.ref x), a1, a2, a3] (.ref x :: S) M := (rn_at k_X10_says_75).trans rfl
theorem k_X10_says_76 : lk 76 C_X10_says = some (.bipush (-2), (0, 0, 0, 0)) := by decide +kernel
theorem s_X10_says_76 {ca : Nat → List Value → tM → tO} {M : tM} {L : tL} {S : List Value} : rn ca C_X10_says 76 L S M = rn ca C_X10_says 78 L (.int (iI (-2)) :: S) M := (rn_at k_X10_says_76).trans rfl
theorem k_X10_says_78 : lk 78 C_X10_says = some (.invokevirtual 101, (134, 1, 10, 175)) := by decide +kernel
theorem s_X10_says_78 {ca : Nat → List Value → tM → tO} {M : tM} {L : tL} {v1 : Value} {b : Nat} : rn ca C_X10_says 78 L [v1, .ref b] M = if clsO b = some 10 then rnk ca C_X10_says 81 L [] (ca m_X10_refuse [.ref b, v1] M) else none := (rn_at k_X10_says_78).trans rnx_ite
theorem k_X10_says_81 : lk 81 C_X10_says = some (.ireturn, (0, 0, 0, 0)) := by decide +kernel
theorem s_X10_says_81 {ca : Nat → List Value → tM → tO} {M : tM} {L : tL} {x : Int32} : rn ca C_X10_says 81 L [.int x] M = some (some (.int x), M) := (rn_at k_X10_says_81).trans rfl
theorem k_X10_says_82 : lk 82 C_X10_says = some (.iload_n 2, (0, 0, 0, 0)) := by decide +kernel
theorem s_X10_says_82 {ca : Nat → List Value → tM → tO} {M : tM} {a0 a1 a3 : Option Value} {x : Int32} {S : List Value} : rn ca C_X10_says 82 [a0, a1, some (.int x), a3] S M = rn ca C_X10_says 83 [a0, a1, some (.int x), a3] (.int x :: S) M := (rn_at k_X10_says_82).trans rfl
theorem k_X10_says_83 : lk 83 C_X10_says = some (.tableswitch 65 1 6 #[37, 37, 47, 47, 57, 37], (0, 0, 0, 0)) := by decide +kernel
theorem s_X10_says_83 {ca : Nat → List Value → tM → tO} {M : tM} {L : tL} {x : Int32} {S : List Value} : rn ca C_X10_says 83 L (.int x :: S) M = if x = iI 1 then rn ca C_X10_says 120 L S M else if x = iI 2 then rn ca C_X10_says 120 L S M else if x = iI 3 then rn ca C_X10_says 130 L S M else if x = iI 4 then rn ca C_X10_says 130 L S M else if x = iI 5 then rn ca C_X10_says 140 L S M else if x = iI 6 then rn ca C_X10_says 120 L S M else rn ca C_X10_says 148 L S M := by rw [rn_at k_X10_says_83]; simp only [ta, tsw, lsw, rnx_ite]; rfl
theorem k_X10_says_120 : lk 120 C_X10_says = some (.aload_n 0, (0, 0, 0, 0)) := by decide +kernel
theorem s_X10_says_120 {ca : Nat → List Value → tM → tO} {M : tM} {a1 a2 a3 : Option Value} {x : Nat} {S : List Value} : rn ca C_X10_says 120 [some (.ref x), a1, a2, a3] S M = rn ca C_X10_says 121 [some (.ref x), a1, a2, a3] (.ref x :: S) M := (rn_at k_X10_says_120).trans rfl
theorem k_X10_says_121 : lk 121 C_X10_says = some (.getfield 10, (10, 0, 0, 16)) := by decide +kernel
theorem s_X10_says_121 {ca : Nat → List Value → tM → tO} {M : tM} {L : tL} {b : Nat} {S : List Value} : rn ca C_X10_says 121 L (.ref b :: S) M = if clsO b = some 10 then rn ca C_X10_says 124 L (fv M b 0 :: S) M else none := (rn_at k_X10_says_121).trans rnx_ite
theorem k_X10_says_124 : lk 124 C_X10_says = some (.getfield 152, (4, 11, 0, 100029)) := by decide +kernel
theorem s_X10_says_124 {ca : Nat → List Value → tM → tO} {M : tM} {L : tL} {b : Nat} {S : List Value} : rn ca C_X10_says 124 L (.ref b :: S) M = if clsO b = some 4 then rn ca C_X10_says 127 L (fv M b 11 :: S) M else none := (rn_at k_X10_says_124).trans rnx_ite
theorem k_X10_says_127 : lk 127 C_X10_says = some (.iload_n 3, (0, 0, 0, 0)) := by decide +kernel
theorem s_X10_says_127 {ca : Nat → List Value → tM → tO} {M : tM} {a0 a1 a2 : Option Value} {x : Int32} {S : List Value} : rn ca C_X10_says 127 [a0, a1, a2, some (.int x)] S M = rn ca C_X10_says 128 [a0, a1, a2, some (.int x)] (.int x :: S) M := (rn_at k_X10_says_127).trans rfl
theorem k_X10_says_128 : lk 128 C_X10_says = some (.iaload, (0, 0, 0, 0)) := by decide +kernel
theorem s_X10_says_128 {ca : Nat → List Value → tM → tO} {M : tM} {L : tL} {a : Nat} {i : Int32} {S : List Value} : rn ca C_X10_says 128 L (.int i :: .ref a :: S) M = if (akind a = 0 ∨ akind a = 6 ∨ akind a = 7) ∧ inb i (alen M a) then rn ca C_X10_says 129 L (.int (M.1 a i.toInt.toNat) :: S) M else none := (rn_at k_X10_says_128).trans rnx_ite
theorem k_X10_says_129 : lk 129 C_X10_says = some (.ireturn, (0, 0, 0, 0)) := by decide +kernel
theorem s_X10_says_129 {ca : Nat → List Value → tM → tO} {M : tM} {L : tL} {x : Int32} : rn ca C_X10_says 129 L [.int x] M = some (some (.int x), M) := (rn_at k_X10_says_129).trans rfl
theorem k_X10_says_130 : lk 130 C_X10_says = some (.aload_n 0, (0, 0, 0, 0)) := by decide +kernel
theorem s_X10_says_130 {ca : Nat → List Value → tM → tO} {M : tM} {a1 a2 a3 : Option Value} {x : Nat} {S : List Value} : rn ca C_X10_says 130 [some (.ref x), a1, a2, a3] S M = rn ca C_X10_says 131 [some (.ref x), a1, a2, a3] (.ref x :: S) M := (rn_at k_X10_says_130).trans rfl
theorem k_X10_says_131 : lk 131 C_X10_says = some (.getfield 10, (10, 0, 0, 16)) := by decide +kernel
theorem s_X10_says_131 {ca : Nat → List Value → tM → tO} {M : tM} {L : tL} {b : Nat} {S : List Value} : rn ca C_X10_says 131 L (.ref b :: S) M = if clsO b = some 10 then rn ca C_X10_says 134 L (fv M b 0 :: S) M else none := (rn_at k_X10_says_131).trans rnx_ite
theorem k_X10_says_134 : lk 134 C_X10_says = some (.getfield 155, (4, 10, 0, 100028)) := by decide +kernel
theorem s_X10_says_134 {ca : Nat → List Value → tM → tO} {M : tM} {L : tL} {b : Nat} {S : List Value} : rn ca C_X10_says 134 L (.ref b :: S) M = if clsO b = some 4 then rn ca C_X10_says 137 L (fv M b 10 :: S) M else none := (rn_at k_X10_says_134).trans rnx_ite
theorem k_X10_says_137 : lk 137 C_X10_says = some (.iload_n 3, (0, 0, 0, 0)) := by decide +kernel
theorem s_X10_says_137 {ca : Nat → List Value → tM → tO} {M : tM} {a0 a1 a2 : Option Value} {x : Int32} {S : List Value} : rn ca C_X10_says 137 [a0, a1, a2, some (.int x)] S M = rn ca C_X10_says 138 [a0, a1, a2, some (.int x)] (.int x :: S) M := (rn_at k_X10_says_137).trans rfl
theorem k_X10_says_138 : lk 138 C_X10_says = some (.iaload, (0, 0, 0, 0)) := by decide +kernel
theorem s_X10_says_138 {ca : Nat → List Value → tM → tO} {M : tM} {L : tL} {a : Nat} {i : Int32} {S : List Value} : rn ca C_X10_says 138 L (.int i :: .ref a :: S) M = if (akind a = 0 ∨ akind a = 6 ∨ akind a = 7) ∧ inb i (alen M a) then rn ca C_X10_says 139 L (.int (M.1 a i.toInt.toNat) :: S) M else none := (rn_at k_X10_says_138).trans rnx_ite
theorem k_X10_says_139 : lk 139 C_X10_says = some (.ireturn, (0, 0, 0, 0)) := by decide +kernel
theorem s_X10_says_139 {ca : Nat → List Value → tM → tO} {M : tM} {L : tL} {x : Int32} : rn ca C_X10_says 139 L [.int x] M = some (some (.int x), M) := (rn_at k_X10_says_139).trans rfl
theorem k_X10_says_140 : lk 140 C_X10_says = some (.aload_n 0, (0, 0, 0, 0)) := by decide +kernel
theorem s_X10_says_140 {ca : Nat → List Value → tM → tO} {M : tM} {a1 a2 a3 : Option Value} {x : Nat} {S : List Value} : rn ca C_X10_says 140 [some (.ref x), a1, a2, a3] S M = rn ca C_X10_says 141 [some (.ref x), a1, a2, a3] (.ref x :: S) M := (rn_at k_X10_says_140).trans rfl
theorem k_X10_says_141 : lk 141 C_X10_says = some (.getfield 10, (10, 0, 0, 16)) := by decide +kernel
theorem s_X10_says_141 {ca : Nat → List Value → tM → tO} {M : tM} {L : tL} {b : Nat} {S : List Value} : rn ca C_X10_says 141 L (.ref b :: S) M = if clsO b = some 10 then rn ca C_X10_says 144 L (fv M b 0 :: S) M else none := (rn_at k_X10_says_141).trans rnx_ite
theorem k_X10_says_144 : lk 144 C_X10_says = some (.getfield 158, (4, 2, 0, 100010)) := by decide +kernel
theorem s_X10_says_144 {ca : Nat → List Value → tM → tO} {M : tM} {L : tL} {b : Nat} {S : List Value} : rn ca C_X10_says 144 L (.ref b :: S) M = if clsO b = some 4 then rn ca C_X10_says 147 L (fv M b 2 :: S) M else none := (rn_at k_X10_says_144).trans rnx_ite
theorem k_X10_says_147 : lk 147 C_X10_says = some (.ireturn, (0, 0, 0, 0)) := by decide +kernel
theorem s_X10_says_147 {ca : Nat → List Value → tM → tO} {M : tM} {L : tL} {x : Int32} : rn ca C_X10_says 147 L [.int x] M = some (some (.int x), M) := (rn_at k_X10_says_147).trans rfl
theorem k_X10_says_148 : lk 148 C_X10_says = some (.aload_n 0, (0, 0, 0, 0)) := by decide +kernel
theorem s_X10_says_148 {ca : Nat → List Value → tM → tO} {M : tM} {a1 a2 a3 : Option Value} {x : Nat} {S : List Value} : rn ca C_X10_says 148 [some (.ref x), a1, a2, a3] S M = rn ca C_X10_says 149 [some (.ref x), a1, a2, a3] (.ref x :: S) M := (rn_at k_X10_says_148).trans rfl
theorem k_X10_says_149 : lk 149 C_X10_says = some (.getfield 10, (10, 0, 0, 16)) := by decide +kernel
theorem s_X10_says_149 {ca : Nat → List Value → tM → tO} {M : tM} {L : tL} {b : Nat} {S : List Value} : rn ca C_X10_says 149 L (.ref b :: S) M = if clsO b = some 10 then rn ca C_X10_says 152 L (fv M b 0 :: S) M else none := (rn_at k_X10_says_149).trans rnx_ite
theorem k_X10_says_152 : lk 152 C_X10_says = some (.getfield 161, (4, 12, 0, 100030)) := by decide +kernel
theorem s_X10_says_152 {ca : Nat → List Value → tM → tO} {M : tM} {L : tL} {b : Nat} {S : List Value} : rn ca C_X10_says 152 L (.ref b :: S) M = if clsO b = some 4 then rn ca C_X10_says 155 L (fv M b 12 :: S) M else none := (rn_at k_X10_says_152).trans rnx_ite
theorem k_X10_says_155 : lk 155 C_X10_says = some (.iload_n 3, (0, 0, 0, 0)) := by decide +kernel
theorem s_X10_says_155 {ca : Nat → List Value → tM → tO} {M : tM} {a0 a1 a2 : Option Value} {x : Int32} {S : List Value} : rn ca C_X10_says 155 [a0, a1, a2, some (.int x)] S M = rn ca C_X10_says 156 [a0, a1, a2, some (.int x)] (.int x :: S) M := (rn_at k_X10_says_155).trans rfl
theorem k_X10_says_156 : lk 156 C_X10_says = some (.iaload, (0, 0, 0, 0)) := by decide +kernel
theorem s_X10_says_156 {ca : Nat → List Value → tM → tO} {M : tM} {L : tL} {a : Nat} {i : Int32} {S : List Value} : rn ca C_X10_says 156 L (.int i :: .ref a :: S) M = if (akind a = 0 ∨ akind a = 6 ∨ akind a = 7) ∧ inb i (alen M a) then rn ca C_X10_says 157 L (.int (M.1 a i.toInt.toNat) :: S) M else none := (rn_at k_X10_says_156).trans rnx_ite
theorem k_X10_says_157 : lk 157 C_X10_says = some (.ireturn, (0, 0, 0, 0)) := by decide +kernel
theorem s_X10_says_157 {ca : Nat → List Value → tM → tO} {M : tM} {L : tL} {x : Int32} : rn ca C_X10_says 157 L [.int x] M = some (some (.int x), M) := (rn_at k_X10_says_157).trans rfl
theorem k_X10_desk_0 : lk 0 C_X10_desk = some (.aload_n 0, (0, 0, 0, 0)) := by decide +kernel
theorem s_X10_desk_0 {ca : Nat → List Value → tM → tO} {M : tM} {x : Nat} {S : List Value} : rn ca C_X10_desk 0 [some (.ref x)] S M = rn ca C_X10_desk 1 [some (.ref x)] (.ref x :: S) M := (rn_at k_X10_desk_0).trans rfl
theorem k_X10_desk_1 : lk 1 C_X10_desk = some (.getfield 10, (10, 0, 0, 16)) := by decide +kernel
theorem s_X10_desk_1 {ca : Nat → List Value → tM → tO} {M : tM} {L : tL} {b : Nat} {S : List Value} : rn ca C_X10_desk 1 L (.ref b :: S) M = if clsO b = some 10 then rn ca C_X10_desk 4 L (fv M b 0 :: S) M else none := (rn_at k_X10_desk_1).trans rnx_ite
theorem k_X10_desk_4 : lk 4 C_X10_desk = some (.invokevirtual 164, (21, 0, 4, 347)) := by decide +kernel
theorem s_X10_desk_4 {ca : Nat → List Value → tM → tO} {M : tM} {L : tL} {b : Nat} : rn ca C_X10_desk 4 L [.ref b] M = if clsO b = some 4 then rnk ca C_X10_desk 7 L [] (ca m_X4_hasRoomForDesk [.ref b] M) else none := (rn_at k_X10_desk_4).trans rnx_ite
theorem k_X10_desk_7 : lk 7 C_X10_desk = some (.ifCond .ne 10, (17, 0, 0, 0)) := by decide +kernel
theorem s_X10_desk_7 {ca : Nat → List Value → tM → tO} {M : tM} {L : tL} {x : Int32} {S : List Value} : rn ca C_X10_desk 7 L (.int x :: S) M = if ¬ x = iI 0 then rn ca C_X10_desk 17 L S M else rn ca C_X10_desk 10 L S M := (rn_at k_X10_desk_7).trans rnx_ite
theorem k_X10_desk_10 : lk 10 C_X10_desk = some (.aload_n 0, (0, 0, 0, 0)) := by decide +kernel
theorem s_X10_desk_10 {ca : Nat → List Value → tM → tO} {M : tM} {x : Nat} {S : List Value} : rn ca C_X10_desk 10 [some (.ref x)] S M = rn ca C_X10_desk 11 [some (.ref x)] (.ref x :: S) M := (rn_at k_X10_desk_10).trans rfl
theorem k_X10_desk_11 : lk 11 C_X10_desk = some (.bipush (-7), (0, 0, 0, 0)) := by decide +kernel
theorem s_X10_desk_11 {ca : Nat → List Value → tM → tO} {M : tM} {L : tL} {S : List Value} : rn ca C_X10_desk 11 L S M = rn ca C_X10_desk 13 L (.int (iI (-7)) :: S) M := (rn_at k_X10_desk_11).trans rfl
theorem k_X10_desk_13 : lk 13 C_X10_desk = some (.invokevirtual 101, (134, 1, 10, 175)) := by decide +kernel
theorem s_X10_desk_13 {ca : Nat → List Value → tM → tO} {M : tM} {L : tL} {v1 : Value} {b : Nat} : rn ca C_X10_desk 13 L [v1, .ref b] M = if clsO b = some 10 then rnk ca C_X10_desk 16 L [] (ca m_X10_refuse [.ref b, v1] M) else none := (rn_at k_X10_desk_13).trans rnx_ite
theorem k_X10_desk_16 : lk 16 C_X10_desk = some (.ireturn, (0, 0, 0, 0)) := by decide +kernel
theorem s_X10_desk_16 {ca : Nat → List Value → tM → tO} {M : tM} {L : tL} {x : Int32} : rn ca C_X10_desk 16 L [.int x] M = some (some (.int x), M) := (rn_at k_X10_desk_16).trans rfl
theorem k_X10_desk_17 : lk 17 C_X10_desk = some (.aload_n 0, (0, 0, 0, 0)) := by decide +kernel
theorem s_X10_desk_17 {ca : Nat → List Value → tM → tO} {M : tM} {x : Nat} {S : List Value} : rn ca C_X10_desk 17 [some (.ref x)] S M = rn ca C_X10_desk 18 [some (.ref x)] (.ref x :: S) M := (rn_at k_X10_desk_17).trans rfl
theorem k_X10_desk_18 : lk 18 C_X10_desk = some (.getfield 10, (10, 0, 0, 16)) := by decide +kernel
theorem s_X10_desk_18 {ca : Nat → List Value → tM → tO} {M : tM} {L : tL} {b : Nat} {S : List Value} : rn ca C_X10_desk 18 L (.ref b :: S) M = if clsO b = some 10 then rn ca C_X10_desk 21 L (fv M b 0 :: S) M else none := (rn_at k_X10_desk_18).trans rnx_ite
theorem k_X10_desk_21 : lk 21 C_X10_desk = some (.invokevirtual 168, (24, 0, 4, 351)) := by decide +kernel
theorem s_X10_desk_21 {ca : Nat → List Value → tM → tO} {M : tM} {L : tL} {b : Nat} : rn ca C_X10_desk 21 L [.ref b] M = if clsO b = some 4 then rnk ca C_X10_desk 24 L [] (ca m_X4_addDesk [.ref b] M) else none := (rn_at k_X10_desk_21).trans rnx_ite
theorem k_X10_desk_24 : lk 24 C_X10_desk = some (.aload_n 0, (0, 0, 0, 0)) := by decide +kernel
theorem s_X10_desk_24 {ca : Nat → List Value → tM → tO} {M : tM} {x : Nat} {S : List Value} : rn ca C_X10_desk 24 [some (.ref x)] S M = rn ca C_X10_desk 25 [some (.ref x)] (.ref x :: S) M := (rn_at k_X10_desk_24).trans rfl
theorem k_X10_desk_25 : lk 25 C_X10_desk = some (.getfield 10, (10, 0, 0, 16)) := by decide +kernel
theorem s_X10_desk_25 {ca : Nat → List Value → tM → tO} {M : tM} {L : tL} {b : Nat} {S : List Value} : rn ca C_X10_desk 25 L (.ref b :: S) M = if clsO b = some 10 then rn ca C_X10_desk 28 L (fv M b 0 :: S) M else none := (rn_at k_X10_desk_25).trans rnx_ite
theorem k_X10_desk_28 : lk 28 C_X10_desk = some (.getfield 171, (4, 0, 0, 100004)) := by decide +kernel
theorem s_X10_desk_28 {ca : Nat → List Value → tM → tO} {M : tM} {L : tL} {b : Nat} {S : List Value} : rn ca C_X10_desk 28 L (.ref b :: S) M = if clsO b = some 4 then rn ca C_X10_desk 31 L (fv M b 0 :: S) M else none := (rn_at k_X10_desk_28).trans rnx_ite
theorem k_X10_desk_31 : lk 31 C_X10_desk = some (.iconst 1, (0, 0, 0, 0)) := by decide +kernel
theorem s_X10_desk_31 {ca : Nat → List Value → tM → tO} {M : tM} {L : tL} {S : List Value} : rn ca C_X10_desk 31 L S M = rn ca C_X10_desk 32 L (.int (iI 1) :: S) M := (rn_at k_X10_desk_31).trans rfl
theorem k_X10_desk_32 : lk 32 C_X10_desk = some (.isub, (0, 0, 0, 0)) := by decide +kernel
theorem s_X10_desk_32 {ca : Nat → List Value → tM → tO} {M : tM} {L : tL} {x y : Int32} {S : List Value} : rn ca C_X10_desk 32 L (.int y :: .int x :: S) M = rn ca C_X10_desk 33 L (.int (x - y) :: S) M := (rn_at k_X10_desk_32).trans rfl
theorem k_X10_desk_33 : lk 33 C_X10_desk = some (.ireturn, (0, 0, 0, 0)) := by decide +kernel
theorem s_X10_desk_33 {ca : Nat → List Value → tM → tO} {M : tM} {L : tL} {x : Int32} : rn ca C_X10_desk 33 L [.int x] M = some (some (.int x), M) := (rn_at k_X10_desk_33).trans rfl
theorem k_X10_tube_0 : lk 0 C_X10_tube = some (.aload_n 0, (0, 0, 0, 0)) := by decide +kernel
theorem s_X10_tube_0 {ca : Nat → List Value → tM → tO} {M : tM} {a1 a2 a3 a4 : Option Value} {x : Nat} {S : List Value} : rn ca C_X10_tube 0 [some (.ref x), a1, a2, a3, a4] S M = rn ca C_X10_tube 1 [some (.ref x), a1, a2, a3, a4] (.ref x :: S) M := (rn_at k_X10_tube_0).trans rfl
theorem k_X10_tube_1 : lk 1 C_X10_tube = some (.getfield 10, (10, 0, 0, 16)) := by decide +kernel
theorem s_X10_tube_1 {ca : Nat → List Value → tM → tO} {M : tM} {L : tL} {b : Nat} {S : List Value} : rn ca C_X10_tube 1 L (.ref b :: S) M = if clsO b = some 10 then rn ca C_X10_tube 4 L (fv M b 0 :: S) M else none := (rn_at k_X10_tube_1).trans rnx_ite
theorem k_X10_tube_4 : lk 4 C_X10_tube = some (.iload_n 1, (0, 0, 0, 0)) := by decide +kernel
theorem s_X10_tube_4 {ca : Nat → List Value → tM → tO} {M : tM} {a0 a2 a3 a4 : Option Value} {x : Int32} {S : List Value} : rn ca C_X10_tube 4 [a0, some (.int x), a2, a3, a4] S M = rn ca C_X10_tube 5 [a0, some (.int x), a2, a3, a4] (.int x :: S) M := (rn_at k_X10_tube_4).trans rfl
theorem k_X10_tube_5 : lk 5 C_X10_tube = some (.invokevirtual 174, (18, 1, 4, 368)) := by decide +kernel
theorem s_X10_tube_5 {ca : Nat → List Value → tM → tO} {M : tM} {L : tL} {v1 : Value} {b : Nat} : rn ca C_X10_tube 5 L [v1, .ref b] M = if clsO b = some 4 then rnk ca C_X10_tube 8 L [] (ca m_X4_hasDesk [.ref b, v1] M) else none := (rn_at k_X10_tube_5).trans rnx_ite
theorem k_X10_tube_8 : lk 8 C_X10_tube = some (.ifCond .eq 14, (22, 0, 0, 0)) := by decide +kernel
theorem s_X10_tube_8 {ca : Nat → List Value → tM → tO} {M : tM} {L : tL} {x : Int32} {S : List Value} : rn ca C_X10_tube 8 L (.int x :: S) M = if x = iI 0 then rn ca C_X10_tube 22 L S M else rn ca C_X10_tube 11 L S M := (rn_at k_X10_tube_8).trans rnx_ite
theorem k_X10_tube_11 : lk 11 C_X10_tube = some (.aload_n 0, (0, 0, 0, 0)) := by decide +kernel
theorem s_X10_tube_11 {ca : Nat → List Value → tM → tO} {M : tM} {a1 a2 a3 a4 : Option Value} {x : Nat} {S : List Value} : rn ca C_X10_tube 11 [some (.ref x), a1, a2, a3, a4] S M = rn ca C_X10_tube 12 [some (.ref x), a1, a2, a3, a4] (.ref x :: S) M := (rn_at k_X10_tube_11).trans rfl
theorem k_X10_tube_12 : lk 12 C_X10_tube = some (.getfield 10, (10, 0, 0, 16)) := by decide +kernel
theorem s_X10_tube_12 {ca : Nat → List Value → tM → tO} {M : tM} {L : tL} {b : Nat} {S : List Value} : rn ca C_X10_tube 12 L (.ref b :: S) M = if clsO b = some 10 then rn ca C_X10_tube 15 L (fv M b 0 :: S) M else none := (rn_at k_X10_tube_12).trans rnx_ite
theorem k_X10_tube_15 : lk 15 C_X10_tube = some (.iload_n 2, (0, 0, 0, 0)) := by decide +kernel
theorem s_X10_tube_15 {ca : Nat → List Value → tM → tO} {M : tM} {a0 a1 a3 a4 : Option Value} {x : Int32} {S : List Value} : rn ca C_X10_tube 15 [a0, a1, some (.int x), a3, a4] S M = rn ca C_X10_tube 16 [a0, a1, some (.int x), a3, a4] (.int x :: S) M := (rn_at k_X10_tube_15).trans rfl
theorem k_X10_tube_16 : lk 16 C_X10_tube = some (.invokevirtual 174, (18, 1, 4, 368)) := by decide +kernel
theorem s_X10_tube_16 {ca : Nat → List Value → tM → tO} {M : tM} {L : tL} {v1 : Value} {b : Nat} : rn ca C_X10_tube 16 L [v1, .ref b] M = if clsO b = some 4 then rnk ca C_X10_tube 19 L [] (ca m_X4_hasDesk [.ref b, v1] M) else none := (rn_at k_X10_tube_16).trans rnx_ite
theorem k_X10_tube_19 : lk 19 C_X10_tube = some (.ifCond .ne 9, (28, 0, 0, 0)) := by decide +kernel
theorem s_X10_tube_19 {ca : Nat → List Value → tM → tO} {M : tM} {L : tL} {x : Int32} {S : List Value} : rn ca C_X10_tube 19 L (.int x :: S) M = if ¬ x = iI 0 then rn ca C_X10_tube 28 L S M else rn ca C_X10_tube 22 L S M := (rn_at k_X10_tube_19).trans rnx_ite
theorem k_X10_tube_22 : lk 22 C_X10_tube = some (.aload_n 0, (0, 0, 0, 0)) := by decide +kernel
theorem s_X10_tube_22 {ca : Nat → List Value → tM → tO} {M : tM} {a1 a2 a3 a4 : Option Value} {x : Nat} {S : List Value} : rn ca C_X10_tube 22 [some (.ref x), a1, a2, a3, a4] S M = rn ca C_X10_tube 23 [some (.ref x), a1, a2, a3, a4] (.ref x :: S) M := (rn_at k_X10_tube_22).trans rfl
theorem k_X10_tube_23 : lk 23 C_X10_tube = some (.iconst (-1), (0, 0, 0, 0)) := by decide +kernel
theorem s_X10_tube_23 {ca : Nat → List Value → tM → tO} {M : tM} {L : tL} {S : List Value} : rn ca C_X10_tube 23 L S M = rn ca C_X10_tube 24 L (.int (iI (-1)) :: S) M := (rn_at k_X10_tube_23).trans rfl
theorem k_X10_tube_24 : lk 24 C_X10_tube = some (.invokevirtual 101, (134, 1, 10, 175)) := by decide +kernel
theorem s_X10_tube_24 {ca : Nat → List Value → tM → tO} {M : tM} {L : tL} {v1 : Value} {b : Nat} : rn ca C_X10_tube 24 L [v1, .ref b] M = if clsO b = some 10 then rnk ca C_X10_tube 27 L [] (ca m_X10_refuse [.ref b, v1] M) else none := (rn_at k_X10_tube_24).trans rnx_ite
theorem k_X10_tube_27 : lk 27 C_X10_tube = some (.ireturn, (0, 0, 0, 0)) := by decide +kernel
theorem s_X10_tube_27 {ca : Nat → List Value → tM → tO} {M : tM} {L : tL} {x : Int32} : rn ca C_X10_tube 27 L [.int x] M = some (some (.int x), M) := (rn_at k_X10_tube_27).trans rfl
theorem k_X10_tube_28 : lk 28 C_X10_tube = some (.iload_n 1, (0, 0, 0, 0)) := by decide +kernel
theorem s_X10_tube_28 {ca : Nat → List Value → tM → tO} {M : tM} {a0 a2 a3 a4 : Option Value} {x : Int32} {S : List Value} : rn ca C_X10_tube 28 [a0, some (.int x), a2, a3, a4] S M = rn ca C_X10_tube 29 [a0, some (.int x), a2, a3, a4] (.int x :: S) M := (rn_at k_X10_tube_28).trans rfl
theorem k_X10_tube_29 : lk 29 C_X10_tube = some (.iload_n 2, (0, 0, 0, 0)) := by decide +kernel
theorem s_X10_tube_29 {ca : Nat → List Value → tM → tO} {M : tM} {a0 a1 a3 a4 : Option Value} {x : Int32} {S : List Value} : rn ca C_X10_tube 29 [a0, a1, some (.int x), a3, a4] S M = rn ca C_X10_tube 30 [a0, a1, some (.int x), a3, a4] (.int x :: S) M := (rn_at k_X10_tube_29).trans rfl
theorem k_X10_tube_30 : lk 30 C_X10_tube = some (.if_icmp .eq 18, (48, 0, 0, 0)) := by decide +kernel
theorem s_X10_tube_30 {ca : Nat → List Value → tM → tO} {M : tM} {L : tL} {x y : Int32} {S : List Value} : rn ca C_X10_tube 30 L (.int y :: .int x :: S) M = if x = y then rn ca C_X10_tube 48 L S M else rn ca C_X10_tube 33 L S M := (rn_at k_X10_tube_30).trans rnx_ite
theorem k_X10_tube_33 : lk 33 C_X10_tube = some (.iload_n 3, (0, 0, 0, 0)) := by decide +kernel
theorem s_X10_tube_33 {ca : Nat → List Value → tM → tO} {M : tM} {a0 a1 a2 a4 : Option Value} {x : Int32} {S : List Value} : rn ca C_X10_tube 33 [a0, a1, a2, some (.int x), a4] S M = rn ca C_X10_tube 34 [a0, a1, a2, some (.int x), a4] (.int x :: S) M := (rn_at k_X10_tube_33).trans rfl
theorem k_X10_tube_34 : lk 34 C_X10_tube = some (.invokestatic 177, (140, 1, 0, 372)) := by decide +kernel
theorem s_X10_tube_34 {ca : Nat → List Value → tM → tO} {M : tM} {L : tL} {v1 : Value} : rn ca C_X10_tube 34 L [v1] M = rnk ca C_X10_tube 37 L [] (ca m_X10_isOneToNine [v1] M) := (rn_at k_X10_tube_34).trans rfl
theorem k_X10_tube_37 : lk 37 C_X10_tube = some (.ifCond .eq 11, (48, 0, 0, 0)) := by decide +kernel
theorem s_X10_tube_37 {ca : Nat → List Value → tM → tO} {M : tM} {L : tL} {x : Int32} {S : List Value} : rn ca C_X10_tube 37 L (.int x :: S) M = if x = iI 0 then rn ca C_X10_tube 48 L S M else rn ca C_X10_tube 40 L S M := (rn_at k_X10_tube_37).trans rnx_ite
theorem k_X10_tube_40 : lk 40 C_X10_tube = some (.iload 4, (0, 0, 0, 0)) := by decide +kernel
theorem s_X10_tube_40 {ca : Nat → List Value → tM → tO} {M : tM} {a0 a1 a2 a3 : Option Value} {x : Int32} {S : List Value} : rn ca C_X10_tube 40 [a0, a1, a2, a3, some (.int x)] S M = rn ca C_X10_tube 42 [a0, a1, a2, a3, some (.int x)] (.int x :: S) M := (rn_at k_X10_tube_40).trans rfl
theorem k_X10_tube_42 : lk 42 C_X10_tube = some (.invokestatic 177, (140, 1, 0, 372)) := by decide +kernel
theorem s_X10_tube_42 {ca : Nat → List Value → tM → tO} {M : tM} {L : tL} {v1 : Value} : rn ca C_X10_tube 42 L [v1] M = rnk ca C_X10_tube 45 L [] (ca m_X10_isOneToNine [v1] M) := (rn_at k_X10_tube_42).trans rfl
theorem k_X10_tube_45 : lk 45 C_X10_tube = some (.ifCond .ne 10, (55, 0, 0, 0)) := by decide +kernel
theorem s_X10_tube_45 {ca : Nat → List Value → tM → tO} {M : tM} {L : tL} {x : Int32} {S : List Value} : rn ca C_X10_tube 45 L (.int x :: S) M = if ¬ x = iI 0 then rn ca C_X10_tube 55 L S M else rn ca C_X10_tube 48 L S M := (rn_at k_X10_tube_45).trans rnx_ite
theorem k_X10_tube_48 : lk 48 C_X10_tube = some (.aload_n 0, (0, 0, 0, 0)) := by decide +kernel
theorem s_X10_tube_48 {ca : Nat → List Value → tM → tO} {M : tM} {a1 a2 a3 a4 : Option Value} {x : Nat} {S : List Value} : rn ca C_X10_tube 48 [some (.ref x), a1, a2, a3, a4] S M = rn ca C_X10_tube 49 [some (.ref x), a1, a2, a3, a4] (.ref x :: S) M := (rn_at k_X10_tube_48).trans rfl
theorem k_X10_tube_49 : lk 49 C_X10_tube = some (.bipush (-6), (0, 0, 0, 0)) := by decide +kernel
theorem s_X10_tube_49 {ca : Nat → List Value → tM → tO} {M : tM} {L : tL} {S : List Value} : rn ca C_X10_tube 49 L S M = rn ca C_X10_tube 51 L (.int (iI (-6)) :: S) M := (rn_at k_X10_tube_49).trans rfl
theorem k_X10_tube_51 : lk 51 C_X10_tube = some (.invokevirtual 101, (134, 1, 10, 175)) := by decide +kernel
theorem s_X10_tube_51 {ca : Nat → List Value → tM → tO} {M : tM} {L : tL} {v1 : Value} {b : Nat} : rn ca C_X10_tube 51 L [v1, .ref b] M = if clsO b = some 10 then rnk ca C_X10_tube 54 L [] (ca m_X10_refuse [.ref b, v1] M) else none := (rn_at k_X10_tube_51).trans rnx_ite
theorem k_X10_tube_54 : lk 54 C_X10_tube = some (.ireturn, (0, 0, 0, 0)) := by decide +kernel
theorem s_X10_tube_54 {ca : Nat → List Value → tM → tO} {M : tM} {L : tL} {x : Int32} : rn ca C_X10_tube 54 L [.int x] M = some (some (.int x), M) := (rn_at k_X10_tube_54).trans rfl
theorem k_X10_tube_55 : lk 55 C_X10_tube = some (.aload_n 0, (0, 0, 0, 0)) := by decide +kernel
theorem s_X10_tube_55 {ca : Nat → List Value → tM → tO} {M : tM} {a1 a2 a3 a4 : Option Value} {x : Nat} {S : List Value} : rn ca C_X10_tube 55 [some (.ref x), a1, a2, a3, a4] S M = rn ca C_X10_tube 56 [some (.ref x), a1, a2, a3, a4] (.ref x :: S) M := (rn_at k_X10_tube_55).trans rfl
theorem k_X10_tube_56 : lk 56 C_X10_tube = some (.getfield 10, (10, 0, 0, 16)) := by decide +kernel
theorem s_X10_tube_56 {ca : Nat → List Value → tM → tO} {M : tM} {L : tL} {b : Nat} {S : List Value} : rn ca C_X10_tube 56 L (.ref b :: S) M = if clsO b = some 10 then rn ca C_X10_tube 59 L (fv M b 0 :: S) M else none := (rn_at k_X10_tube_56).trans rnx_ite
theorem k_X10_tube_59 : lk 59 C_X10_tube = some (.invokevirtual 180, (22, 0, 4, 375)) := by decide +kernel
theorem s_X10_tube_59 {ca : Nat → List Value → tM → tO} {M : tM} {L : tL} {b : Nat} : rn ca C_X10_tube 59 L [.ref b] M = if clsO b = some 4 then rnk ca C_X10_tube 62 L [] (ca m_X4_hasRoomForTube [.ref b] M) else none := (rn_at k_X10_tube_59).trans rnx_ite
theorem k_X10_tube_62 : lk 62 C_X10_tube = some (.ifCond .ne 10, (72, 0, 0, 0)) := by decide +kernel
theorem s_X10_tube_62 {ca : Nat → List Value → tM → tO} {M : tM} {L : tL} {x : Int32} {S : List Value} : rn ca C_X10_tube 62 L (.int x :: S) M = if ¬ x = iI 0 then rn ca C_X10_tube 72 L S M else rn ca C_X10_tube 65 L S M := (rn_at k_X10_tube_62).trans rnx_ite
theorem k_X10_tube_65 : lk 65 C_X10_tube = some (.aload_n 0, (0, 0, 0, 0)) := by decide +kernel
theorem s_X10_tube_65 {ca : Nat → List Value → tM → tO} {M : tM} {a1 a2 a3 a4 : Option Value} {x : Nat} {S : List Value} : rn ca C_X10_tube 65 [some (.ref x), a1, a2, a3, a4] S M = rn ca C_X10_tube 66 [some (.ref x), a1, a2, a3, a4] (.ref x :: S) M := (rn_at k_X10_tube_65).trans rfl
theorem k_X10_tube_66 : lk 66 C_X10_tube = some (.bipush (-7), (0, 0, 0, 0)) := by decide +kernel
theorem s_X10_tube_66 {ca : Nat → List Value → tM → tO} {M : tM} {L : tL} {S : List Value} : rn ca C_X10_tube 66 L S M = rn ca C_X10_tube 68 L (.int (iI (-7)) :: S) M := (rn_at k_X10_tube_66).trans rfl
theorem k_X10_tube_68 : lk 68 C_X10_tube = some (.invokevirtual 101, (134, 1, 10, 175)) := by decide +kernel
theorem s_X10_tube_68 {ca : Nat → List Value → tM → tO} {M : tM} {L : tL} {v1 : Value} {b : Nat} : rn ca C_X10_tube 68 L [v1, .ref b] M = if clsO b = some 10 then rnk ca C_X10_tube 71 L [] (ca m_X10_refuse [.ref b, v1] M) else none := (rn_at k_X10_tube_68).trans rnx_ite
theorem k_X10_tube_71 : lk 71 C_X10_tube = some (.ireturn, (0, 0, 0, 0)) := by decide +kernel
theorem s_X10_tube_71 {ca : Nat → List Value → tM → tO} {M : tM} {L : tL} {x : Int32} : rn ca C_X10_tube 71 L [.int x] M = some (some (.int x), M) := (rn_at k_X10_tube_71).trans rfl
theorem k_X10_tube_72 : lk 72 C_X10_tube = some (.aload_n 0, (0, 0, 0, 0)) := by decide +kernel
theorem s_X10_tube_72 {ca : Nat → List Value → tM → tO} {M : tM} {a1 a2 a3 a4 : Option Value} {x : Nat} {S : List Value} : rn ca C_X10_tube 72 [some (.ref x), a1, a2, a3, a4] S M = rn ca C_X10_tube 73 [some (.ref x), a1, a2, a3, a4] (.ref x :: S) M := (rn_at k_X10_tube_72).trans rfl
theorem k_X10_tube_73 : lk 73 C_X10_tube = some (.getfield 10, (10, 0, 0, 16)) := by decide +kernel
theorem s_X10_tube_73 {ca : Nat → List Value → tM → tO} {M : tM} {L : tL} {b : Nat} {S : List Value} : rn ca C_X10_tube 73 L (.ref b :: S) M = if clsO b = some 10 then rn ca C_X10_tube 76 L (fv M b 0 :: S) M else none := (rn_at k_X10_tube_73).trans rnx_ite
theorem k_X10_tube_76 : lk 76 C_X10_tube = some (.iload_n 1, (0, 0, 0, 0)) := by decide +kernel
theorem s_X10_tube_76 {ca : Nat → List Value → tM → tO} {M : tM} {a0 a2 a3 a4 : Option Value} {x : Int32} {S : List Value} : rn ca C_X10_tube 76 [a0, some (.int x), a2, a3, a4] S M = rn ca C_X10_tube 77 [a0, some (.int x), a2, a3, a4] (.int x :: S) M := (rn_at k_X10_tube_76).trans rfl
theorem k_X10_tube_77 : lk 77 C_X10_tube = some (.iload_n 2, (0, 0, 0, 0)) := by decide +kernel
theorem s_X10_tube_77 {ca : Nat → List Value → tM → tO} {M : tM} {a0 a1 a3 a4 : Option Value} {x : Int32} {S : List Value} : rn ca C_X10_tube 77 [a0, a1, some (.int x), a3, a4] S M = rn ca C_X10_tube 78 [a0, a1, some (.int x), a3, a4] (.int x :: S) M := (rn_at k_X10_tube_77).trans rfl
theorem k_X10_tube_78 : lk 78 C_X10_tube = some (.iload_n 3, (0, 0, 0, 0)) := by decide +kernel
theorem s_X10_tube_78 {ca : Nat → List Value → tM → tO} {M : tM} {a0 a1 a2 a4 : Option Value} {x : Int32} {S : List Value} : rn ca C_X10_tube 78 [a0, a1, a2, some (.int x), a4] S M = rn ca C_X10_tube 79 [a0, a1, a2, some (.int x), a4] (.int x :: S) M := (rn_at k_X10_tube_78).trans rfl
theorem k_X10_tube_79 : lk 79 C_X10_tube = some (.iload 4, (0, 0, 0, 0)) := by decide +kernel
theorem s_X10_tube_79 {ca : Nat → List Value → tM → tO} {M : tM} {a0 a1 a2 a3 : Option Value} {x : Int32} {S : List Value} : rn ca C_X10_tube 79 [a0, a1, a2, a3, some (.int x)] S M = rn ca C_X10_tube 81 [a0, a1, a2, a3, some (.int x)] (.int x :: S) M := (rn_at k_X10_tube_79).trans rfl
theorem k_X10_tube_81 : lk 81 C_X10_tube = some (.invokevirtual 183, (25, 4, 4, 379)) := by decide +kernel
theorem s_X10_tube_81 {ca : Nat → List Value → tM → tO} {M : tM} {L : tL} {v1 v2 v3 v4 : Value} {b : Nat} : rn ca C_X10_tube 81 L [v4, v3, v2, v1, .ref b] M = if clsO b = some 4 then rnk ca C_X10_tube 84 L [] (ca m_X4_addTube [.ref b, v1, v2, v3, v4] M) else none := (rn_at k_X10_tube_81).trans rnx_ite
theorem k_X10_tube_84 : lk 84 C_X10_tube = some (.aload_n 0, (0, 0, 0, 0)) := by decide +kernel
theorem s_X10_tube_84 {ca : Nat → List Value → tM → tO} {M : tM} {a1 a2 a3 a4 : Option Value} {x : Nat} {S : List Value} : rn ca C_X10_tube 84 [some (.ref x), a1, a2, a3, a4] S M = rn ca C_X10_tube 85 [some (.ref x), a1, a2, a3, a4] (.ref x :: S) M := (rn_at k_X10_tube_84).trans rfl
theorem k_X10_tube_85 : lk 85 C_X10_tube = some (.getfield 10, (10, 0, 0, 16)) := by decide +kernel
theorem s_X10_tube_85 {ca : Nat → List Value → tM → tO} {M : tM} {L : tL} {b : Nat} {S : List Value} : rn ca C_X10_tube 85 L (.ref b :: S) M = if clsO b = some 10 then rn ca C_X10_tube 88 L (fv M b 0 :: S) M else none := (rn_at k_X10_tube_85).trans rnx_ite
theorem k_X10_tube_88 : lk 88 C_X10_tube = some (.getfield 158, (4, 2, 0, 100010)) := by decide +kernel
theorem s_X10_tube_88 {ca : Nat → List Value → tM → tO} {M : tM} {L : tL} {b : Nat} {S : List Value} : rn ca C_X10_tube 88 L (.ref b :: S) M = if clsO b = some 4 then rn ca C_X10_tube 91 L (fv M b 2 :: S) M else none := (rn_at k_X10_tube_88).trans rnx_ite
theorem k_X10_tube_91 : lk 91 C_X10_tube = some (.iconst 1, (0, 0, 0, 0)) := by decide +kernel
theorem s_X10_tube_91 {ca : Nat → List Value → tM → tO} {M : tM} {L : tL} {S : List Value} : rn ca C_X10_tube 91 L S M = rn ca C_X10_tube 92 L (.int (iI 1) :: S) M := (rn_at k_X10_tube_91).trans rfl
theorem k_X10_tube_92 : lk 92 C_X10_tube = some (.isub, (0, 0, 0, 0)) := by decide +kernel
theorem s_X10_tube_92 {ca : Nat → List Value → tM → tO} {M : tM} {L : tL} {x y : Int32} {S : List Value} : rn ca C_X10_tube 92 L (.int y :: .int x :: S) M = rn ca C_X10_tube 93 L (.int (x - y) :: S) M := (rn_at k_X10_tube_92).trans rfl
theorem k_X10_tube_93 : lk 93 C_X10_tube = some (.ireturn, (0, 0, 0, 0)) := by decide +kernel
theorem s_X10_tube_93 {ca : Nat → List Value → tM → tO} {M : tM} {L : tL} {x : Int32} : rn ca C_X10_tube 93 L [.int x] M = some (some (.int x), M) := (rn_at k_X10_tube_93).trans rfl
theorem k_X10_capsule_0 : lk 0 C_X10_capsule = some (.iload_n 1, (0, 0, 0, 0)) := by decide +kernel
theorem s_X10_capsule_0 {ca : Nat → List Value → tM → tO} {M : tM} {a0 a2 a3 a4 : Option Value} {x : Int32} {S : List Value} : rn ca C_X10_capsule 0 [a0, some (.int x), a2, a3, a4] S M = rn ca C_X10_capsule 1 [a0, some (.int x), a2, a3, a4] (.int x :: S) M := (rn_at k_X10_capsule_0).trans rfl
theorem k_X10_capsule_1 : lk 1 C_X10_capsule = some (.ifCond .lt 21, (22, 0, 0, 0)) := by decide +kernel
theorem s_X10_capsule_1 {ca : Nat → List Value → tM → tO} {M : tM} {L : tL} {x : Int32} {S : List Value} : rn ca C_X10_capsule 1 L (.int x :: S) M = if x < iI 0 then rn ca C_X10_capsule 22 L S M else rn ca C_X10_capsule 4 L S M := (rn_at k_X10_capsule_1).trans rnx_ite
theorem k_X10_capsule_4 : lk 4 C_X10_capsule = some (.iload_n 1, (0, 0, 0, 0)) := by decide +kernel
theorem s_X10_capsule_4 {ca : Nat → List Value → tM → tO} {M : tM} {a0 a2 a3 a4 : Option Value} {x : Int32} {S : List Value} : rn ca C_X10_capsule 4 [a0, some (.int x), a2, a3, a4] S M = rn ca C_X10_capsule 5 [a0, some (.int x), a2, a3, a4] (.int x :: S) M := (rn_at k_X10_capsule_4).trans rfl
theorem k_X10_capsule_5 : lk 5 C_X10_capsule = some (.bipush 7, (0, 0, 0, 0)) := by decide +kernel
theorem s_X10_capsule_5 {ca : Nat → List Value → tM → tO} {M : tM} {L : tL} {S : List Value} : rn ca C_X10_capsule 5 L S M = rn ca C_X10_capsule 7 L (.int (iI 7) :: S) M := (rn_at k_X10_capsule_5).trans rfl
theorem k_X10_capsule_7 : lk 7 C_X10_capsule = some (.if_icmp .ge 15, (22, 0, 0, 0)) := by decide +kernel
theorem s_X10_capsule_7 {ca : Nat → List Value → tM → tO} {M : tM} {L : tL} {x y : Int32} {S : List Value} : rn ca C_X10_capsule 7 L (.int y :: .int x :: S) M = if y ≤ x then rn ca C_X10_capsule 22 L S M else rn ca C_X10_capsule 10 L S M := (rn_at k_X10_capsule_7).trans rnx_ite
theorem k_X10_capsule_10 : lk 10 C_X10_capsule = some (.aload_n 0, (0, 0, 0, 0)) := by decide +kernel
theorem s_X10_capsule_10 {ca : Nat → List Value → tM → tO} {M : tM} {a1 a2 a3 a4 : Option Value} {x : Nat} {S : List Value} : rn ca C_X10_capsule 10 [some (.ref x), a1, a2, a3, a4] S M = rn ca C_X10_capsule 11 [some (.ref x), a1, a2, a3, a4] (.ref x :: S) M := (rn_at k_X10_capsule_10).trans rfl
theorem k_X10_capsule_11 : lk 11 C_X10_capsule = some (.getfield 10, (10, 0, 0, 16)) := by decide +kernel
theorem s_X10_capsule_11 {ca : Nat → List Value → tM → tO} {M : tM} {L : tL} {b : Nat} {S : List Value} : rn ca C_X10_capsule 11 L (.ref b :: S) M = if clsO b = some 10 then rn ca C_X10_capsule 14 L (fv M b 0 :: S) M else none := (rn_at k_X10_capsule_11).trans rnx_ite
theorem k_X10_capsule_14 : lk 14 C_X10_capsule = some (.iload 4, (0, 0, 0, 0)) := by decide +kernel
theorem s_X10_capsule_14 {ca : Nat → List Value → tM → tO} {M : tM} {a0 a1 a2 a3 : Option Value} {x : Int32} {S : List Value} : rn ca C_X10_capsule 14 [a0, a1, a2, a3, some (.int x)] S M = rn ca C_X10_capsule 16 [a0, a1, a2, a3, some (.int x)] (.int x :: S) M := (rn_at k_X10_capsule_14).trans rfl
theorem k_X10_capsule_16 : lk 16 C_X10_capsule = some (.invokevirtual 174, (18, 1, 4, 368)) := by decide +kernel
theorem s_X10_capsule_16 {ca : Nat → List Value → tM → tO} {M : tM} {L : tL} {v1 : Value} {b : Nat} : rn ca C_X10_capsule 16 L [v1, .ref b] M = if clsO b = some 4 then rnk ca C_X10_capsule 19 L [] (ca m_X4_hasDesk [.ref b, v1] M) else none := (rn_at k_X10_capsule_16).trans rnx_ite
theorem k_X10_capsule_19 : lk 19 C_X10_capsule = some (.ifCond .ne 9, (28, 0, 0, 0)) := by decide +kernel
theorem s_X10_capsule_19 {ca : Nat → List Value → tM → tO} {M : tM} {L : tL} {x : Int32} {S : List Value} : rn ca C_X10_capsule 19 L (.int x :: S) M = if ¬ x = iI 0 then rn ca C_X10_capsule 28 L S M else rn ca C_X10_capsule 22 L S M := (rn_at k_X10_capsule_19).trans rnx_ite
theorem k_X10_capsule_22 : lk 22 C_X10_capsule = some (.aload_n 0, (0, 0, 0, 0)) := by decide +kernel
theorem s_X10_capsule_22 {ca : Nat → List Value → tM → tO} {M : tM} {a1 a2 a3 a4 : Option Value} {x : Nat} {S : List Value} : rn ca C_X10_capsule 22 [some (.ref x), a1, a2, a3, a4] S M = rn ca C_X10_capsule 23 [some (.ref x), a1, a2, a3, a4] (.ref x :: S) M := (rn_at k_X10_capsule_22).trans rfl
theorem k_X10_capsule_23 : lk 23 C_X10_capsule = some (.iconst (-1), (0, 0, 0, 0)) := by decide +kernel
theorem s_X10_capsule_23 {ca : Nat → List Value → tM → tO} {M : tM} {L : tL} {S : List Value} : rn ca C_X10_capsule 23 L S M = rn ca C_X10_capsule 24 L (.int (iI (-1)) :: S) M := (rn_at k_X10_capsule_23).trans rfl
theorem k_X10_capsule_24 : lk 24 C_X10_capsule = some (.invokevirtual 101, (134, 1, 10, 175)) := by decide +kernel
theorem s_X10_capsule_24 {ca : Nat → List Value → tM → tO} {M : tM} {L : tL} {v1 : Value} {b : Nat} : rn ca C_X10_capsule 24 L [v1, .ref b] M = if clsO b = some 10 then rnk ca C_X10_capsule 27 L [] (ca m_X10_refuse [.ref b, v1] M) else none := (rn_at k_X10_capsule_24).trans rnx_ite
theorem k_X10_capsule_27 : lk 27 C_X10_capsule = some (.ireturn, (0, 0, 0, 0)) := by decide +kernel
theorem s_X10_capsule_27 {ca : Nat → List Value → tM → tO} {M : tM} {L : tL} {x : Int32} : rn ca C_X10_capsule 27 L [.int x] M = some (some (.int x), M) := (rn_at k_X10_capsule_27).trans rfl
theorem k_X10_capsule_28 : lk 28 C_X10_capsule = some (.iload_n 2, (0, 0, 0, 0)) := by decide +kernel
theorem s_X10_capsule_28 {ca : Nat → List Value → tM → tO} {M : tM} {a0 a1 a3 a4 : Option Value} {x : Int32} {S : List Value} : rn ca C_X10_capsule 28 [a0, a1, some (.int x), a3, a4] S M = rn ca C_X10_capsule 29 [a0, a1, some (.int x), a3, a4] (.int x :: S) M := (rn_at k_X10_capsule_28).trans rfl
theorem k_X10_capsule_29 : lk 29 C_X10_capsule = some (.ifCond .lt 16, (45, 0, 0, 0)) := by decide +kernel
theorem s_X10_capsule_29 {ca : Nat → List Value → tM → tO} {M : tM} {L : tL} {x : Int32} {S : List Value} : rn ca C_X10_capsule 29 L (.int x :: S) M = if x < iI 0 then rn ca C_X10_capsule 45 L S M else rn ca C_X10_capsule 32 L S M := (rn_at k_X10_capsule_29).trans rnx_ite
theorem k_X10_capsule_32 : lk 32 C_X10_capsule = some (.iload_n 2, (0, 0, 0, 0)) := by decide +kernel
theorem s_X10_capsule_32 {ca : Nat → List Value → tM → tO} {M : tM} {a0 a1 a3 a4 : Option Value} {x : Int32} {S : List Value} : rn ca C_X10_capsule 32 [a0, a1, some (.int x), a3, a4] S M = rn ca C_X10_capsule 33 [a0, a1, some (.int x), a3, a4] (.int x :: S) M := (rn_at k_X10_capsule_32).trans rfl
theorem k_X10_capsule_33 : lk 33 C_X10_capsule = some (.bipush 9, (0, 0, 0, 0)) := by decide +kernel
theorem s_X10_capsule_33 {ca : Nat → List Value → tM → tO} {M : tM} {L : tL} {S : List Value} : rn ca C_X10_capsule 33 L S M = rn ca C_X10_capsule 35 L (.int (iI 9) :: S) M := (rn_at k_X10_capsule_33).trans rfl
theorem k_X10_capsule_35 : lk 35 C_X10_capsule = some (.if_icmp .gt 10, (45, 0, 0, 0)) := by decide +kernel
theorem s_X10_capsule_35 {ca : Nat → List Value → tM → tO} {M : tM} {L : tL} {x y : Int32} {S : List Value} : rn ca C_X10_capsule 35 L (.int y :: .int x :: S) M = if y < x then rn ca C_X10_capsule 45 L S M else rn ca C_X10_capsule 38 L S M := (rn_at k_X10_capsule_35).trans rnx_ite
theorem k_X10_capsule_38 : lk 38 C_X10_capsule = some (.iload_n 3, (0, 0, 0, 0)) := by decide +kernel
theorem s_X10_capsule_38 {ca : Nat → List Value → tM → tO} {M : tM} {a0 a1 a2 a4 : Option Value} {x : Int32} {S : List Value} : rn ca C_X10_capsule 38 [a0, a1, a2, some (.int x), a4] S M = rn ca C_X10_capsule 39 [a0, a1, a2, some (.int x), a4] (.int x :: S) M := (rn_at k_X10_capsule_38).trans rfl
theorem k_X10_capsule_39 : lk 39 C_X10_capsule = some (.invokestatic 177, (140, 1, 0, 372)) := by decide +kernel
theorem s_X10_capsule_39 {ca : Nat → List Value → tM → tO} {M : tM} {L : tL} {v1 : Value} : rn ca C_X10_capsule 39 L [v1] M = rnk ca C_X10_capsule 42 L [] (ca m_X10_isOneToNine [v1] M) := (rn_at k_X10_capsule_39).trans rfl
theorem k_X10_capsule_42 : lk 42 C_X10_capsule = some (.ifCond .ne 10, (52, 0, 0, 0)) := by decide +kernel
theorem s_X10_capsule_42 {ca : Nat → List Value → tM → tO} {M : tM} {L : tL} {x : Int32} {S : List Value} : rn ca C_X10_capsule 42 L (.int x :: S) M = if ¬ x = iI 0 then rn ca C_X10_capsule 52 L S M else rn ca C_X10_capsule 45 L S M := (rn_at k_X10_capsule_42).trans rnx_ite
theorem k_X10_capsule_45 : lk 45 C_X10_capsule = some (.aload_n 0, (0, 0, 0, 0)) := by decide +kernel
theorem s_X10_capsule_45 {ca : Nat → List Value → tM → tO} {M : tM} {a1 a2 a3 a4 : Option Value} {x : Nat} {S : List Value} : rn ca C_X10_capsule 45 [some (.ref x), a1, a2, a3, a4] S M = rn ca C_X10_capsule 46 [some (.ref x), a1, a2, a3, a4] (.ref x :: S) M := (rn_at k_X10_capsule_45).trans rfl
theorem k_X10_capsule_46 : lk 46 C_X10_capsule = some (.bipush (-6), (0, 0, 0, 0)) := by decide +kernel
theorem s_X10_capsule_46 {ca : Nat → List Value → tM → tO} {M : tM} {L : tL} {S : List Value} : rn ca C_X10_capsule 46 L S M = rn ca C_X10_capsule 48 L (.int (iI (-6)) :: S) M := (rn_at k_X10_capsule_46).trans rfl
theorem k_X10_capsule_48 : lk 48 C_X10_capsule = some (.invokevirtual 101, (134, 1, 10, 175)) := by decide +kernel
theorem s_X10_capsule_48 {ca : Nat → List Value → tM → tO} {M : tM} {L : tL} {v1 : Value} {b : Nat} : rn ca C_X10_capsule 48 L [v1, .ref b] M = if clsO b = some 10 then rnk ca C_X10_capsule 51 L [] (ca m_X10_refuse [.ref b, v1] M) else none := (rn_at k_X10_capsule_48).trans rnx_ite
theorem k_X10_capsule_51 : lk 51 C_X10_capsule = some (.ireturn, (0, 0, 0, 0)) := by decide +kernel
theorem s_X10_capsule_51 {ca : Nat → List Value → tM → tO} {M : tM} {L : tL} {x : Int32} : rn ca C_X10_capsule 51 L [.int x] M = some (some (.int x), M) := (rn_at k_X10_capsule_51).trans rfl
theorem k_X10_capsule_52 : lk 52 C_X10_capsule = some (.aload_n 0, (0, 0, 0, 0)) := by decide +kernel
theorem s_X10_capsule_52 {ca : Nat → List Value → tM → tO} {M : tM} {a1 a2 a3 a4 : Option Value} {x : Nat} {S : List Value} : rn ca C_X10_capsule 52 [some (.ref x), a1, a2, a3, a4] S M = rn ca C_X10_capsule 53 [some (.ref x), a1, a2, a3, a4] (.ref x :: S) M := (rn_at k_X10_capsule_52).trans rfl
theorem k_X10_capsule_53 : lk 53 C_X10_capsule = some (.getfield 10, (10, 0, 0, 16)) := by decide +kernel
theorem s_X10_capsule_53 {ca : Nat → List Value → tM → tO} {M : tM} {L : tL} {b : Nat} {S : List Value} : rn ca C_X10_capsule 53 L (.ref b :: S) M = if clsO b = some 10 then rn ca C_X10_capsule 56 L (fv M b 0 :: S) M else none := (rn_at k_X10_capsule_53).trans rnx_ite
theorem k_X10_capsule_56 : lk 56 C_X10_capsule = some (.invokevirtual 187, (23, 0, 4, 409)) := by decide +kernel
theorem s_X10_capsule_56 {ca : Nat → List Value → tM → tO} {M : tM} {L : tL} {b : Nat} : rn ca C_X10_capsule 56 L [.ref b] M = if clsO b = some 4 then rnk ca C_X10_capsule 59 L [] (ca m_X4_hasRoomForCapsule [.ref b] M) else none := (rn_at k_X10_capsule_56).trans rnx_ite
theorem k_X10_capsule_59 : lk 59 C_X10_capsule = some (.ifCond .ne 10, (69, 0, 0, 0)) := by decide +kernel
theorem s_X10_capsule_59 {ca : Nat → List Value → tM → tO} {M : tM} {L : tL} {x : Int32} {S : List Value} : rn ca C_X10_capsule 59 L (.int x :: S) M = if ¬ x = iI 0 then rn ca C_X10_capsule 69 L S M else rn ca C_X10_capsule 62 L S M := (rn_at k_X10_capsule_59).trans rnx_ite
theorem k_X10_capsule_62 : lk 62 C_X10_capsule = some (.aload_n 0, (0, 0, 0, 0)) := by decide +kernel
theorem s_X10_capsule_62 {ca : Nat → List Value → tM → tO} {M : tM} {a1 a2 a3 a4 : Option Value} {x : Nat} {S : List Value} : rn ca C_X10_capsule 62 [some (.ref x), a1, a2, a3, a4] S M = rn ca C_X10_capsule 63 [some (.ref x), a1, a2, a3, a4] (.ref x :: S) M := (rn_at k_X10_capsule_62).trans rfl
theorem k_X10_capsule_63 : lk 63 C_X10_capsule = some (.bipush (-7), (0, 0, 0, 0)) := by decide +kernel
theorem s_X10_capsule_63 {ca : Nat → List Value → tM → tO} {M : tM} {L : tL} {S : List Value} : rn ca C_X10_capsule 63 L S M = rn ca C_X10_capsule 65 L (.int (iI (-7)) :: S) M := (rn_at k_X10_capsule_63).trans rfl
theorem k_X10_capsule_65 : lk 65 C_X10_capsule = some (.invokevirtual 101, (134, 1, 10, 175)) := by decide +kernel
theorem s_X10_capsule_65 {ca : Nat → List Value → tM → tO} {M : tM} {L : tL} {v1 : Value} {b : Nat} : rn ca C_X10_capsule 65 L [v1, .ref b] M = if clsO b = some 10 then rnk ca C_X10_capsule 68 L [] (ca m_X10_refuse [.ref b, v1] M) else none := (rn_at k_X10_capsule_65).trans rnx_ite
theorem k_X10_capsule_68 : lk 68 C_X10_capsule = some (.ireturn, (0, 0, 0, 0)) := by decide +kernel
theorem s_X10_capsule_68 {ca : Nat → List Value → tM → tO} {M : tM} {L : tL} {x : Int32} : rn ca C_X10_capsule 68 L [.int x] M = some (some (.int x), M) := (rn_at k_X10_capsule_68).trans rfl
theorem k_X10_capsule_69 : lk 69 C_X10_capsule = some (.aload_n 0, (0, 0, 0, 0)) := by decide +kernel
theorem s_X10_capsule_69 {ca : Nat → List Value → tM → tO} {M : tM} {a1 a2 a3 a4 : Option Value} {x : Nat} {S : List Value} : rn ca C_X10_capsule 69 [some (.ref x), a1, a2, a3, a4] S M = rn ca C_X10_capsule 70 [some (.ref x), a1, a2, a3, a4] (.ref x :: S) M := (rn_at k_X10_capsule_69).trans rfl
theorem k_X10_capsule_70 : lk 70 C_X10_capsule = some (.getfield 10, (10, 0, 0, 16)) := by decide +kernel
theorem s_X10_capsule_70 {ca : Nat → List Value → tM → tO} {M : tM} {L : tL} {b : Nat} {S : List Value} : rn ca C_X10_capsule 70 L (.ref b :: S) M = if clsO b = some 10 then rn ca C_X10_capsule 73 L (fv M b 0 :: S) M else none := (rn_at k_X10_capsule_70).trans rnx_ite
theorem k_X10_capsule_73 : lk 73 C_X10_capsule = some (.iload_n 1, (0, 0, 0, 0)) := by decide +kernel
theorem s_X10_capsule_73 {ca : Nat → List Value → tM → tO} {M : tM} {a0 a2 a3 a4 : Option Value} {x : Int32} {S : List Value} : rn ca C_X10_capsule 73 [a0, some (.int x), a2, a3, a4] S M = rn ca C_X10_capsule 74 [a0, some (.int x), a2, a3, a4] (.int x :: S) M := (rn_at k_X10_capsule_73).trans rfl
theorem k_X10_capsule_74 : lk 74 C_X10_capsule = some (.iload_n 2, (0, 0, 0, 0)) := by decide +kernel
theorem s_X10_capsule_74 {ca : Nat → List Value → tM → tO} {M : tM} {a0 a1 a3 a4 : Option Value} {x : Int32} {S : List Value} : rn ca C_X10_capsule 74 [a0, a1, some (.int x), a3, a4] S M = rn ca C_X10_capsule 75 [a0, a1, some (.int x), a3, a4] (.int x :: S) M := (rn_at k_X10_capsule_74).trans rfl
theorem k_X10_capsule_75 : lk 75 C_X10_capsule = some (.iload_n 3, (0, 0, 0, 0)) := by decide +kernel
theorem s_X10_capsule_75 {ca : Nat → List Value → tM → tO} {M : tM} {a0 a1 a2 a4 : Option Value} {x : Int32} {S : List Value} : rn ca C_X10_capsule 75 [a0, a1, a2, some (.int x), a4] S M = rn ca C_X10_capsule 76 [a0, a1, a2, some (.int x), a4] (.int x :: S) M := (rn_at k_X10_capsule_75).trans rfl
theorem k_X10_capsule_76 : lk 76 C_X10_capsule = some (.iload 4, (0, 0, 0, 0)) := by decide +kernel
theorem s_X10_capsule_76 {ca : Nat → List Value → tM → tO} {M : tM} {a0 a1 a2 a3 : Option Value} {x : Int32} {S : List Value} : rn ca C_X10_capsule 76 [a0, a1, a2, a3, some (.int x)] S M = rn ca C_X10_capsule 78 [a0, a1, a2, a3, some (.int x)] (.int x :: S) M := (rn_at k_X10_capsule_76).trans rfl
theorem k_X10_capsule_78 : lk 78 C_X10_capsule = some (.invokevirtual 190, (26, 4, 4, 413)) := by decide +kernel
theorem s_X10_capsule_78 {ca : Nat → List Value → tM → tO} {M : tM} {L : tL} {v1 v2 v3 v4 : Value} {b : Nat} : rn ca C_X10_capsule 78 L [v4, v3, v2, v1, .ref b] M = if clsO b = some 4 then rnk ca C_X10_capsule 81 L [] (ca m_X4_addCapsule [.ref b, v1, v2, v3, v4] M) else none := (rn_at k_X10_capsule_78).trans rnx_ite
theorem k_X10_capsule_81 : lk 81 C_X10_capsule = some (.aload_n 0, (0, 0, 0, 0)) := by decide +kernel
theorem s_X10_capsule_81 {ca : Nat → List Value → tM → tO} {M : tM} {a1 a2 a3 a4 : Option Value} {x : Nat} {S : List Value} : rn ca C_X10_capsule 81 [some (.ref x), a1, a2, a3, a4] S M = rn ca C_X10_capsule 82 [some (.ref x), a1, a2, a3, a4] (.ref x :: S) M := (rn_at k_X10_capsule_81).trans rfl
theorem k_X10_capsule_82 : lk 82 C_X10_capsule = some (.getfield 10, (10, 0, 0, 16)) := by decide +kernel
theorem s_X10_capsule_82 {ca : Nat → List Value → tM → tO} {M : tM} {L : tL} {b : Nat} {S : List Value} : rn ca C_X10_capsule 82 L (.ref b :: S) M = if clsO b = some 10 then rn ca C_X10_capsule 85 L (fv M b 0 :: S) M else none := (rn_at k_X10_capsule_82).trans rnx_ite
theorem k_X10_capsule_85 : lk 85 C_X10_capsule = some (.getfield 193, (4, 8, 0, 100026)) := by decide +kernel
theorem s_X10_capsule_85 {ca : Nat → List Value → tM → tO} {M : tM} {L : tL} {b : Nat} {S : List Value} : rn ca C_X10_capsule 85 L (.ref b :: S) M = if clsO b = some 4 then rn ca C_X10_capsule 88 L (fv M b 8 :: S) M else none := (rn_at k_X10_capsule_85).trans rnx_ite
theorem k_X10_capsule_88 : lk 88 C_X10_capsule = some (.iconst 1, (0, 0, 0, 0)) := by decide +kernel
theorem s_X10_capsule_88 {ca : Nat → List Value → tM → tO} {M : tM} {L : tL} {S : List Value} : rn ca C_X10_capsule 88 L S M = rn ca C_X10_capsule 89 L (.int (iI 1) :: S) M := (rn_at k_X10_capsule_88).trans rfl
theorem k_X10_capsule_89 : lk 89 C_X10_capsule = some (.isub, (0, 0, 0, 0)) := by decide +kernel
theorem s_X10_capsule_89 {ca : Nat → List Value → tM → tO} {M : tM} {L : tL} {x y : Int32} {S : List Value} : rn ca C_X10_capsule 89 L (.int y :: .int x :: S) M = rn ca C_X10_capsule 90 L (.int (x - y) :: S) M := (rn_at k_X10_capsule_89).trans rfl
theorem k_X10_capsule_90 : lk 90 C_X10_capsule = some (.ireturn, (0, 0, 0, 0)) := by decide +kernel
theorem s_X10_capsule_90 {ca : Nat → List Value → tM → tO} {M : tM} {L : tL} {x : Int32} : rn ca C_X10_capsule 90 L [.int x] M = some (some (.int x), M) := (rn_at k_X10_capsule_90).trans rfl
theorem k_X10_shut_0 : lk 0 C_X10_shut = some (.aload_n 0, (0, 0, 0, 0)) := by decide +kernel
theorem s_X10_shut_0 {ca : Nat → List Value → tM → tO} {M : tM} {a1 a2 a3 : Option Value} {x : Nat} {S : List Value} : rn ca C_X10_shut 0 [some (.ref x), a1, a2, a3] S M = rn ca C_X10_shut 1 [some (.ref x), a1, a2, a3] (.ref x :: S) M := (rn_at k_X10_shut_0).trans rfl
theorem k_X10_shut_1 : lk 1 C_X10_shut = some (.getfield 10, (10, 0, 0, 16)) := by decide +kernel
theorem s_X10_shut_1 {ca : Nat → List Value → tM → tO} {M : tM} {L : tL} {b : Nat} {S : List Value} : rn ca C_X10_shut 1 L (.ref b :: S) M = if clsO b = some 10 then rn ca C_X10_shut 4 L (fv M b 0 :: S) M else none := (rn_at k_X10_shut_1).trans rnx_ite
theorem k_X10_shut_4 : lk 4 C_X10_shut = some (.iload_n 1, (0, 0, 0, 0)) := by decide +kernel
theorem s_X10_shut_4 {ca : Nat → List Value → tM → tO} {M : tM} {a0 a2 a3 : Option Value} {x : Int32} {S : List Value} : rn ca C_X10_shut 4 [a0, some (.int x), a2, a3] S M = rn ca C_X10_shut 5 [a0, some (.int x), a2, a3] (.int x :: S) M := (rn_at k_X10_shut_4).trans rfl
theorem k_X10_shut_5 : lk 5 C_X10_shut = some (.invokevirtual 196, (19, 1, 4, 430)) := by decide +kernel
theorem s_X10_shut_5 {ca : Nat → List Value → tM → tO} {M : tM} {L : tL} {v1 : Value} {b : Nat} : rn ca C_X10_shut 5 L [v1, .ref b] M = if clsO b = some 4 then rnk ca C_X10_shut 8 L [] (ca m_X4_hasTube [.ref b, v1] M) else none := (rn_at k_X10_shut_5).trans rnx_ite
theorem k_X10_shut_8 : lk 8 C_X10_shut = some (.ifCond .ne 9, (17, 0, 0, 0)) := by decide +kernel
theorem s_X10_shut_8 {ca : Nat → List Value → tM → tO} {M : tM} {L : tL} {x : Int32} {S : List Value} : rn ca C_X10_shut 8 L (.int x :: S) M = if ¬ x = iI 0 then rn ca C_X10_shut 17 L S M else rn ca C_X10_shut 11 L S M := (rn_at k_X10_shut_8).trans rnx_ite
theorem k_X10_shut_11 : lk 11 C_X10_shut = some (.aload_n 0, (0, 0, 0, 0)) := by decide +kernel
theorem s_X10_shut_11 {ca : Nat → List Value → tM → tO} {M : tM} {a1 a2 a3 : Option Value} {x : Nat} {S : List Value} : rn ca C_X10_shut 11 [some (.ref x), a1, a2, a3] S M = rn ca C_X10_shut 12 [some (.ref x), a1, a2, a3] (.ref x :: S) M := (rn_at k_X10_shut_11).trans rfl
theorem k_X10_shut_12 : lk 12 C_X10_shut = some (.iconst (-1), (0, 0, 0, 0)) := by decide +kernel
theorem s_X10_shut_12 {ca : Nat → List Value → tM → tO} {M : tM} {L : tL} {S : List Value} : rn ca C_X10_shut 12 L S M = rn ca C_X10_shut 13 L (.int (iI (-1)) :: S) M := (rn_at k_X10_shut_12).trans rfl
theorem k_X10_shut_13 : lk 13 C_X10_shut = some (.invokevirtual 101, (134, 1, 10, 175)) := by decide +kernel
theorem s_X10_shut_13 {ca : Nat → List Value → tM → tO} {M : tM} {L : tL} {v1 : Value} {b : Nat} : rn ca C_X10_shut 13 L [v1, .ref b] M = if clsO b = some 10 then rnk ca C_X10_shut 16 L [] (ca m_X10_refuse [.ref b, v1] M) else none := (rn_at k_X10_shut_13).trans rnx_ite
theorem k_X10_shut_16 : lk 16 C_X10_shut = some (.ireturn, (0, 0, 0, 0)) := by decide +kernel
theorem s_X10_shut_16 {ca : Nat → List Value → tM → tO} {M : tM} {L : tL} {x : Int32} : rn ca C_X10_shut 16 L [.int x] M = some (some (.int x), M) := (rn_at k_X10_shut_16).trans rfl
theorem k_X10_shut_17 : lk 17 C_X10_shut = some (.aload_n 0, (0, 0, 0, 0)) := by decide +kernel
theorem s_X10_shut_17 {ca : Nat → List Value → tM → tO} {M : tM} {a1 a2 a3 : Option Value} {x : Nat} {S : List Value} : rn ca C_X10_shut 17 [some (.ref x), a1, a2, a3] S M = rn ca C_X10_shut 18 [some (.ref x), a1, a2, a3] (.ref x :: S) M := (rn_at k_X10_shut_17).trans rfl
theorem k_X10_shut_18 : lk 18 C_X10_shut = some (.getfield 10, (10, 0, 0, 16)) := by decide +kernel
theorem s_X10_shut_18 {ca : Nat → List Value → tM → tO} {M : tM} {L : tL} {b : Nat} {S : List Value} : rn ca C_X10_shut 18 L (.ref b :: S) M = if clsO b = some 10 then rn ca C_X10_shut 21 L (fv M b 0 :: S) M else none := (rn_at k_X10_shut_18).trans rnx_ite
theorem k_X10_shut_21 : lk 21 C_X10_shut = some (.iload_n 1, (0, 0, 0, 0)) := by decide +kernel
theorem s_X10_shut_21 {ca : Nat → List Value → tM → tO} {M : tM} {a0 a2 a3 : Option Value} {x : Int32} {S : List Value} : rn ca C_X10_shut 21 [a0, some (.int x), a2, a3] S M = rn ca C_X10_shut 22 [a0, some (.int x), a2, a3] (.int x :: S) M := (rn_at k_X10_shut_21).trans rfl
theorem k_X10_shut_22 : lk 22 C_X10_shut = some (.invokevirtual 199, (27, 1, 4, 431)) := by decide +kernel
theorem s_X10_shut_22 {ca : Nat → List Value → tM → tO} {M : tM} {L : tL} {v1 : Value} {b : Nat} : rn ca C_X10_shut 22 L [v1, .ref b] M = if clsO b = some 4 then rnk ca C_X10_shut 25 L [] (ca m_X4_isShut [.ref b, v1] M) else none := (rn_at k_X10_shut_22).trans rnx_ite
theorem k_X10_shut_25 : lk 25 C_X10_shut = some (.istore_n 3, (0, 0, 0, 0)) := by decide +kernel
theorem s_X10_shut_25 {ca : Nat → List Value → tM → tO} {M : tM} {a0 a1 a2 a3 : Option Value} {x : Int32} {S : List Value} : rn ca C_X10_shut 25 [a0, a1, a2, a3] (.int x :: S) M = rn ca C_X10_shut 26 [a0, a1, a2, some (.int x)] S M := (rn_at k_X10_shut_25).trans rfl
theorem k_X10_shut_26 : lk 26 C_X10_shut = some (.aload_n 0, (0, 0, 0, 0)) := by decide +kernel
theorem s_X10_shut_26 {ca : Nat → List Value → tM → tO} {M : tM} {a1 a2 a3 : Option Value} {x : Nat} {S : List Value} : rn ca C_X10_shut 26 [some (.ref x), a1, a2, a3] S M = rn ca C_X10_shut 27 [some (.ref x), a1, a2, a3] (.ref x :: S) M := (rn_at k_X10_shut_26).trans rfl
theorem k_X10_shut_27 : lk 27 C_X10_shut = some (.getfield 10, (10, 0, 0, 16)) := by decide +kernel
theorem s_X10_shut_27 {ca : Nat → List Value → tM → tO} {M : tM} {L : tL} {b : Nat} {S : List Value} : rn ca C_X10_shut 27 L (.ref b :: S) M = if clsO b = some 10 then rn ca C_X10_shut 30 L (fv M b 0 :: S) M else none := (rn_at k_X10_shut_27).trans rnx_ite
theorem k_X10_shut_30 : lk 30 C_X10_shut = some (.iload_n 1, (0, 0, 0, 0)) := by decide +kernel
theorem s_X10_shut_30 {ca : Nat → List Value → tM → tO} {M : tM} {a0 a2 a3 : Option Value} {x : Int32} {S : List Value} : rn ca C_X10_shut 30 [a0, some (.int x), a2, a3] S M = rn ca C_X10_shut 31 [a0, some (.int x), a2, a3] (.int x :: S) M := (rn_at k_X10_shut_30).trans rfl
theorem k_X10_shut_31 : lk 31 C_X10_shut = some (.iload_n 2, (0, 0, 0, 0)) := by decide +kernel
theorem s_X10_shut_31 {ca : Nat → List Value → tM → tO} {M : tM} {a0 a1 a3 : Option Value} {x : Int32} {S : List Value} : rn ca C_X10_shut 31 [a0, a1, some (.int x), a3] S M = rn ca C_X10_shut 32 [a0, a1, some (.int x), a3] (.int x :: S) M := (rn_at k_X10_shut_31).trans rfl
theorem k_X10_shut_32 : lk 32 C_X10_shut = some (.invokevirtual 202, (28, 2, 4, 435)) := by decide +kernel
theorem s_X10_shut_32 {ca : Nat → List Value → tM → tO} {M : tM} {L : tL} {v1 v2 : Value} {b : Nat} : rn ca C_X10_shut 32 L [v2, v1, .ref b] M = if clsO b = some 4 then rnk ca C_X10_shut 35 L [] (ca m_X4_putShut [.ref b, v1, v2] M) else none := (rn_at k_X10_shut_32).trans rnx_ite
theorem k_X10_shut_35 : lk 35 C_X10_shut = some (.iload_n 3, (0, 0, 0, 0)) := by decide +kernel
theorem s_X10_shut_35 {ca : Nat → List Value → tM → tO} {M : tM} {a0 a1 a2 : Option Value} {x : Int32} {S : List Value} : rn ca C_X10_shut 35 [a0, a1, a2, some (.int x)] S M = rn ca C_X10_shut 36 [a0, a1, a2, some (.int x)] (.int x :: S) M := (rn_at k_X10_shut_35).trans rfl
theorem k_X10_shut_36 : lk 36 C_X10_shut = some (.ifCond .eq 7, (43, 0, 0, 0)) := by decide +kernel
theorem s_X10_shut_36 {ca : Nat → List Value → tM → tO} {M : tM} {L : tL} {x : Int32} {S : List Value} : rn ca C_X10_shut 36 L (.int x :: S) M = if x = iI 0 then rn ca C_X10_shut 43 L S M else rn ca C_X10_shut 39 L S M := (rn_at k_X10_shut_36).trans rnx_ite
theorem k_X10_shut_39 : lk 39 C_X10_shut = some (.iconst 1, (0, 0, 0, 0)) := by decide +kernel
theorem s_X10_shut_39 {ca : Nat → List Value → tM → tO} {M : tM} {L : tL} {S : List Value} : rn ca C_X10_shut 39 L S M = rn ca C_X10_shut 40 L (.int (iI 1) :: S) M := (rn_at k_X10_shut_39).trans rfl
theorem k_X10_shut_40 : lk 40 C_X10_shut = some (.goto 4, (44, 0, 0, 0)) := by decide +kernel
theorem s_X10_shut_40 {ca : Nat → List Value → tM → tO} {M : tM} {L : tL} {S : List Value} : rn ca C_X10_shut 40 L S M = rn ca C_X10_shut 44 L S M := (rn_at k_X10_shut_40).trans rfl
theorem k_X10_shut_43 : lk 43 C_X10_shut = some (.iconst 0, (0, 0, 0, 0)) := by decide +kernel
theorem s_X10_shut_43 {ca : Nat → List Value → tM → tO} {M : tM} {L : tL} {S : List Value} : rn ca C_X10_shut 43 L S M = rn ca C_X10_shut 44 L (.int (iI 0) :: S) M := (rn_at k_X10_shut_43).trans rfl
theorem k_X10_shut_44 : lk 44 C_X10_shut = some (.ireturn, (0, 0, 0, 0)) := by decide +kernel
theorem s_X10_shut_44 {ca : Nat → List Value → tM → tO} {M : tM} {L : tL} {x : Int32} : rn ca C_X10_shut 44 L [.int x] M = some (some (.int x), M) := (rn_at k_X10_shut_44).trans rfl
theorem k_X10_ask_0 : lk 0 C_X10_ask = some (.iload_n 1, (0, 0, 0, 0)) := by decide +kernel
theorem s_X10_ask_0 {ca : Nat → List Value → tM → tO} {M : tM} {a0 a2 : Option Value} {x : Int32} {S : List Value} : rn ca C_X10_ask 0 [a0, some (.int x), a2] S M = rn ca C_X10_ask 1 [a0, some (.int x), a2] (.int x :: S) M := (rn_at k_X10_ask_0).trans rfl
theorem k_X10_ask_1 : lk 1 C_X10_ask = some (.invokestatic 177, (140, 1, 0, 372)) := by decide +kernel
theorem s_X10_ask_1 {ca : Nat → List Value → tM → tO} {M : tM} {L : tL} {v1 : Value} : rn ca C_X10_ask 1 L [v1] M = rnk ca C_X10_ask 4 L [] (ca m_X10_isOneToNine [v1] M) := (rn_at k_X10_ask_1).trans rfl
theorem k_X10_ask_4 : lk 4 C_X10_ask = some (.ifCond .ne 10, (14, 0, 0, 0)) := by decide +kernel
theorem s_X10_ask_4 {ca : Nat → List Value → tM → tO} {M : tM} {L : tL} {x : Int32} {S : List Value} : rn ca C_X10_ask 4 L (.int x :: S) M = if ¬ x = iI 0 then rn ca C_X10_ask 14 L S M else rn ca C_X10_ask 7 L S M := (rn_at k_X10_ask_4).trans rnx_ite
theorem k_X10_ask_7 : lk 7 C_X10_ask = some (.aload_n 0, (0, 0, 0, 0)) := by decide +kernel
theorem s_X10_ask_7 {ca : Nat → List Value → tM → tO} {M : tM} {a1 a2 : Option Value} {x : Nat} {S : List Value} : rn ca C_X10_ask 7 [some (.ref x), a1, a2] S M = rn ca C_X10_ask 8 [some (.ref x), a1, a2] (.ref x :: S) M := (rn_at k_X10_ask_7).trans rfl
theorem k_X10_ask_8 : lk 8 C_X10_ask = some (.bipush (-6), (0, 0, 0, 0)) := by decide +kernel
theorem s_X10_ask_8 {ca : Nat → List Value → tM → tO} {M : tM} {L : tL} {S : List Value} : rn ca C_X10_ask 8 L S M = rn ca C_X10_ask 10 L (.int (iI (-6)) :: S) M := (rn_at k_X10_ask_8).trans rfl
theorem k_X10_ask_10 : lk 10 C_X10_ask = some (.invokevirtual 101, (134, 1, 10, 175)) := by decide +kernel
theorem s_X10_ask_10 {ca : Nat → List Value → tM → tO} {M : tM} {L : tL} {v1 : Value} {b : Nat} : rn ca C_X10_ask 10 L [v1, .ref b] M = if clsO b = some 10 then rnk ca C_X10_ask 13 L [] (ca m_X10_refuse [.ref b, v1] M) else none := (rn_at k_X10_ask_10).trans rnx_ite
theorem k_X10_ask_13 : lk 13 C_X10_ask = some (.ireturn, (0, 0, 0, 0)) := by decide +kernel
theorem s_X10_ask_13 {ca : Nat → List Value → tM → tO} {M : tM} {L : tL} {x : Int32} : rn ca C_X10_ask 13 L [.int x] M = some (some (.int x), M) := (rn_at k_X10_ask_13).trans rfl
theorem k_X10_ask_14 : lk 14 C_X10_ask = some (.aload_n 0, (0, 0, 0, 0)) := by decide +kernel
theorem s_X10_ask_14 {ca : Nat → List Value → tM → tO} {M : tM} {a1 a2 : Option Value} {x : Nat} {S : List Value} : rn ca C_X10_ask 14 [some (.ref x), a1, a2] S M = rn ca C_X10_ask 15 [some (.ref x), a1, a2] (.ref x :: S) M := (rn_at k_X10_ask_14).trans rfl
theorem k_X10_ask_15 : lk 15 C_X10_ask = some (.getfield 10, (10, 0, 0, 16)) := by decide +kernel
theorem s_X10_ask_15 {ca : Nat → List Value → tM → tO} {M : tM} {L : tL} {b : Nat} {S : List Value} : rn ca C_X10_ask 15 L (.ref b :: S) M = if clsO b = some 10 then rn ca C_X10_ask 18 L (fv M b 0 :: S) M else none := (rn_at k_X10_ask_15).trans rnx_ite
theorem k_X10_ask_18 : lk 18 C_X10_ask = some (.getfield 206, (4, 13, 0, 100034)) := by decide +kernel
theorem s_X10_ask_18 {ca : Nat → List Value → tM → tO} {M : tM} {L : tL} {b : Nat} {S : List Value} : rn ca C_X10_ask 18 L (.ref b :: S) M = if clsO b = some 4 then rn ca C_X10_ask 21 L (fv M b 13 :: S) M else none := (rn_at k_X10_ask_18).trans rnx_ite
theorem k_X10_ask_21 : lk 21 C_X10_ask = some (.istore_n 2, (0, 0, 0, 0)) := by decide +kernel
theorem s_X10_ask_21 {ca : Nat → List Value → tM → tO} {M : tM} {a0 a1 a2 : Option Value} {x : Int32} {S : List Value} : rn ca C_X10_ask 21 [a0, a1, a2] (.int x :: S) M = rn ca C_X10_ask 22 [a0, a1, some (.int x)] S M := (rn_at k_X10_ask_21).trans rfl
theorem k_X10_ask_22 : lk 22 C_X10_ask = some (.aload_n 0, (0, 0, 0, 0)) := by decide +kernel
theorem s_X10_ask_22 {ca : Nat → List Value → tM → tO} {M : tM} {a1 a2 : Option Value} {x : Nat} {S : List Value} : rn ca C_X10_ask 22 [some (.ref x), a1, a2] S M = rn ca C_X10_ask 23 [some (.ref x), a1, a2] (.ref x :: S) M := (rn_at k_X10_ask_22).trans rfl
theorem k_X10_ask_23 : lk 23 C_X10_ask = some (.getfield 10, (10, 0, 0, 16)) := by decide +kernel
theorem s_X10_ask_23 {ca : Nat → List Value → tM → tO} {M : tM} {L : tL} {b : Nat} {S : List Value} : rn ca C_X10_ask 23 L (.ref b :: S) M = if clsO b = some 10 then rn ca C_X10_ask 26 L (fv M b 0 :: S) M else none := (rn_at k_X10_ask_23).trans rnx_ite
theorem k_X10_ask_26 : lk 26 C_X10_ask = some (.iload_n 1, (0, 0, 0, 0)) := by decide +kernel
theorem s_X10_ask_26 {ca : Nat → List Value → tM → tO} {M : tM} {a0 a2 : Option Value} {x : Int32} {S : List Value} : rn ca C_X10_ask 26 [a0, some (.int x), a2] S M = rn ca C_X10_ask 27 [a0, some (.int x), a2] (.int x :: S) M := (rn_at k_X10_ask_26).trans rfl
theorem k_X10_ask_27 : lk 27 C_X10_ask = some (.putfield 206, (4, 13, 0, 100034)) := by decide +kernel
theorem s_X10_ask_27 {ca : Nat → List Value → tM → tO} {M : tM} {L : tL} {b : Nat} {v : Int32} {S : List Value} : rn ca C_X10_ask 27 L (.int v :: .ref b :: S) M = if clsO b = some 4 then rn ca C_X10_ask 30 L S (sI M b 13 v) else none := (rn_at k_X10_ask_27).trans rnx_ite
theorem k_X10_ask_30 : lk 30 C_X10_ask = some (.iload_n 2, (0, 0, 0, 0)) := by decide +kernel
theorem s_X10_ask_30 {ca : Nat → List Value → tM → tO} {M : tM} {a0 a1 : Option Value} {x : Int32} {S : List Value} : rn ca C_X10_ask 30 [a0, a1, some (.int x)] S M = rn ca C_X10_ask 31 [a0, a1, some (.int x)] (.int x :: S) M := (rn_at k_X10_ask_30).trans rfl
theorem k_X10_ask_31 : lk 31 C_X10_ask = some (.ireturn, (0, 0, 0, 0)) := by decide +kernel
theorem s_X10_ask_31 {ca : Nat → List Value → tM → tO} {M : tM} {L : tL} {x : Int32} : rn ca C_X10_ask 31 L [.int x] M = some (some (.int x), M) := (rn_at k_X10_ask_31).trans rfl
theorem k_X10_capsuleOf_0 : lk 0 C_X10_capsuleOf = some (.aload_n 0, (0, 0, 0, 0)) := by decide +kernel
theorem s_X10_capsuleOf_0 {ca : Nat → List Value → tM → tO} {M : tM} {a1 a2 : Option Value} {x : Nat} {S : List Value} : rn ca C_X10_capsuleOf 0 [some (.ref x), a1, a2] S M = rn ca C_X10_capsuleOf 1 [some (.ref x), a1, a2] (.ref x :: S) M := (rn_at k_X10_capsuleOf_0).trans rfl
theorem k_X10_capsuleOf_1 : lk 1 C_X10_capsuleOf = some (.getfield 10, (10, 0, 0, 16)) := by decide +kernel
theorem s_X10_capsuleOf_1 {ca : Nat → List Value → tM → tO} {M : tM} {L : tL} {b : Nat} {S : List Value} : rn ca C_X10_capsuleOf 1 L (.ref b :: S) M = if clsO b = some 10 then rn ca C_X10_capsuleOf 4 L (fv M b 0 :: S) M else none := (rn_at k_X10_capsuleOf_1).trans rnx_ite
theorem k_X10_capsuleOf_4 : lk 4 C_X10_capsuleOf = some (.iload_n 1, (0, 0, 0, 0)) := by decide +kernel
theorem s_X10_capsuleOf_4 {ca : Nat → List Value → tM → tO} {M : tM} {a0 a2 : Option Value} {x : Int32} {S : List Value} : rn ca C_X10_capsuleOf 4 [a0, some (.int x), a2] S M = rn ca C_X10_capsuleOf 5 [a0, some (.int x), a2] (.int x :: S) M := (rn_at k_X10_capsuleOf_4).trans rfl
theorem k_X10_capsuleOf_5 : lk 5 C_X10_capsuleOf = some (.invokevirtual 135, (20, 1, 4, 290)) := by decide +kernel
theorem s_X10_capsuleOf_5 {ca : Nat → List Value → tM → tO} {M : tM} {L : tL} {v1 : Value} {b : Nat} : rn ca C_X10_capsuleOf 5 L [v1, .ref b] M = if clsO b = some 4 then rnk ca C_X10_capsuleOf 8 L [] (ca m_X4_hasCapsule [.ref b, v1] M) else none := (rn_at k_X10_capsuleOf_5).trans rnx_ite
theorem k_X10_capsuleOf_8 : lk 8 C_X10_capsuleOf = some (.ifCond .ne 10, (18, 0, 0, 0)) := by decide +kernel
theorem s_X10_capsuleOf_8 {ca : Nat → List Value → tM → tO} {M : tM} {L : tL} {x : Int32} {S : List Value} : rn ca C_X10_capsuleOf 8 L (.int x :: S) M = if ¬ x = iI 0 then rn ca C_X10_capsuleOf 18 L S M else rn ca C_X10_capsuleOf 11 L S M := (rn_at k_X10_capsuleOf_8).trans rnx_ite
theorem k_X10_capsuleOf_11 : lk 11 C_X10_capsuleOf = some (.aload_n 0, (0, 0, 0, 0)) := by decide +kernel
theorem s_X10_capsuleOf_11 {ca : Nat → List Value → tM → tO} {M : tM} {a1 a2 : Option Value} {x : Nat} {S : List Value} : rn ca C_X10_capsuleOf 11 [some (.ref x), a1, a2] S M = rn ca C_X10_capsuleOf 12 [some (.ref x), a1, a2] (.ref x :: S) M := (rn_at k_X10_capsuleOf_11).trans rfl
theorem k_X10_capsuleOf_12 : lk 12 C_X10_capsuleOf = some (.bipush (-5), (0, 0, 0, 0)) := by decide +kernel
theorem s_X10_capsuleOf_12 {ca : Nat → List Value → tM → tO} {M : tM} {L : tL} {S : List Value} : rn ca C_X10_capsuleOf 12 L S M = rn ca C_X10_capsuleOf 14 L (.int (iI (-5)) :: S) M := (rn_at k_X10_capsuleOf_12).trans rfl
theorem k_X10_capsuleOf_14 : lk 14 C_X10_capsuleOf = some (.invokevirtual 101, (134, 1, 10, 175)) := by decide +kernel
theorem s_X10_capsuleOf_14 {ca : Nat → List Value → tM → tO} {M : tM} {L : tL} {v1 : Value} {b : Nat} : rn ca C_X10_capsuleOf 14 L [v1, .ref b] M = if clsO b = some 10 then rnk ca C_X10_capsuleOf 17 L [] (ca m_X10_refuse [.ref b, v1] M) else none := (rn_at k_X10_capsuleOf_14).trans rnx_ite
theorem k_X10_capsuleOf_17 : lk 17 C_X10_capsuleOf = some (.ireturn, (0, 0, 0, 0)) := by decide +kernel
theorem s_X10_capsuleOf_17 {ca : Nat → List Value → tM → tO} {M : tM} {L : tL} {x : Int32} : rn ca C_X10_capsuleOf 17 L [.int x] M = some (some (.int x), M) := (rn_at k_X10_capsuleOf_17).trans rfl
theorem k_X10_capsuleOf_18 : lk 18 C_X10_capsuleOf = some (.iload_n 2, (0, 0, 0, 0)) := by decide +kernel
theorem s_X10_capsuleOf_18 {ca : Nat → List Value → tM → tO} {M : tM} {a0 a1 : Option Value} {x : Int32} {S : List Value} : rn ca C_X10_capsuleOf 18 [a0, a1, some (.int x)] S M = rn ca C_X10_capsuleOf 19 [a0, a1, some (.int x)] (.int x :: S) M := (rn_at k_X10_capsuleOf_18).trans rfl
theorem k_X10_capsuleOf_19 : lk 19 C_X10_capsuleOf = some (.tableswitch 69 0 3 #[29, 39, 49, 59], (0, 0, 0, 0)) := by decide +kernel
theorem s_X10_capsuleOf_19 {ca : Nat → List Value → tM → tO} {M : tM} {L : tL} {x : Int32} {S : List Value} : rn ca C_X10_capsuleOf 19 L (.int x :: S) M = if x = iI 0 then rn ca C_X10_capsuleOf 48 L S M else if x = iI 1 then rn ca C_X10_capsuleOf 58 L S M else if x = iI 2 then rn ca C_X10_capsuleOf 68 L S M else if x = iI 3 then rn ca C_X10_capsuleOf 78 L S M else rn ca C_X10_capsuleOf 88 L S M := by rw [rn_at k_X10_capsuleOf_19]; simp only [ta, tsw, lsw, rnx_ite]; rfl
theorem k_X10_capsuleOf_48 : lk 48 C_X10_capsuleOf = some (.aload_n 0, (0, 0, 0, 0)) := by decide +kernel
theorem s_X10_capsuleOf_48 {ca : Nat → List Value → tM → tO} {M : tM} {a1 a2 : Option Value} {x : Nat} {S : List Value} : rn ca C_X10_capsuleOf 48 [some (.ref x), a1, a2] S M = rn ca C_X10_capsuleOf 49 [some (.ref x), a1, a2] (.ref x :: S) M := (rn_at k_X10_capsuleOf_48).trans rfl
theorem k_X10_capsuleOf_49 : lk 49 C_X10_capsuleOf = some (.getfield 10, (10, 0, 0, 16)) := by decide +kernel
theorem s_X10_capsuleOf_49 {ca : Nat → List Value → tM → tO} {M : tM} {L : tL} {b : Nat} {S : List Value} : rn ca C_X10_capsuleOf 49 L (.ref b :: S) M = if clsO b = some 10 then rn ca C_X10_capsuleOf 52 L (fv M b 0 :: S) M else none := (rn_at k_X10_capsuleOf_49).trans rnx_ite
theorem k_X10_capsuleOf_52 : lk 52 C_X10_capsuleOf = some (.getfield 145, (4, 9, 0, 100027)) := by decide +kernel
theorem s_X10_capsuleOf_52 {ca : Nat → List Value → tM → tO} {M : tM} {L : tL} {b : Nat} {S : List Value} : rn ca C_X10_capsuleOf 52 L (.ref b :: S) M = if clsO b = some 4 then rn ca C_X10_capsuleOf 55 L (fv M b 9 :: S) M else none := (rn_at k_X10_capsuleOf_52).trans rnx_ite
theorem k_X10_capsuleOf_55 : lk 55 C_X10_capsuleOf = some (.iload_n 1, (0, 0, 0, 0)) := by decide +kernel
theorem s_X10_capsuleOf_55 {ca : Nat → List Value → tM → tO} {M : tM} {a0 a2 : Option Value} {x : Int32} {S : List Value} : rn ca C_X10_capsuleOf 55 [a0, some (.int x), a2] S M = rn ca C_X10_capsuleOf 56 [a0, some (.int x), a2] (.int x :: S) M := (rn_at k_X10_capsuleOf_55).trans rfl
theorem k_X10_capsuleOf_56 : lk 56 C_X10_capsuleOf = some (.iaload, (0, 0, 0, 0)) := by decide +kernel
theorem s_X10_capsuleOf_56 {ca : Nat → List Value → tM → tO} {M : tM} {L : tL} {a : Nat} {i : Int32} {S : List Value} : rn ca C_X10_capsuleOf 56 L (.int i :: .ref a :: S) M = if (akind a = 0 ∨ akind a = 6 ∨ akind a = 7) ∧ inb i (alen M a) then rn ca C_X10_capsuleOf 57 L (.int (M.1 a i.toInt.toNat) :: S) M else none := (rn_at k_X10_capsuleOf_56).trans rnx_ite
theorem k_X10_capsuleOf_57 : lk 57 C_X10_capsuleOf = some (.ireturn, (0, 0, 0, 0)) := by decide +kernel
theorem s_X10_capsuleOf_57 {ca : Nat → List Value → tM → tO} {M : tM} {L : tL} {x : Int32} : rn ca C_X10_capsuleOf 57 L [.int x] M = some (some (.int x), M) := (rn_at k_X10_capsuleOf_57).trans rfl
theorem k_X10_capsuleOf_58 : lk 58 C_X10_capsuleOf = some (.aload_n 0, (0, 0, 0, 0)) := by decide +kernel
theorem s_X10_capsuleOf_58 {ca : Nat → List Value → tM → tO} {M : tM} {a1 a2 : Option Value} {x : Nat} {S : List Value} : rn ca C_X10_capsuleOf 58 [some (.ref x), a1, a2] S M = rn ca C_X10_capsuleOf 59 [some (.ref x), a1, a2] (.ref x :: S) M := (rn_at k_X10_capsuleOf_58).trans rfl
theorem k_X10_capsuleOf_59 : lk 59 C_X10_capsuleOf = some (.getfield 10, (10, 0, 0, 16)) := by decide +kernel
theorem s_X10_capsuleOf_59 {ca : Nat → List Value → tM → tO} {M : tM} {L : tL} {b : Nat} {S : List Value} : rn ca C_X10_capsuleOf 59 L (.ref b :: S) M = if clsO b = some 10 then rn ca C_X10_capsuleOf 62 L (fv M b 0 :: S) M else none := (rn_at k_X10_capsuleOf_59).trans rnx_ite
theorem k_X10_capsuleOf_62 : lk 62 C_X10_capsuleOf = some (.getfield 155, (4, 10, 0, 100028)) := by decide +kernel
theorem s_X10_capsuleOf_62 {ca : Nat → List Value → tM → tO} {M : tM} {L : tL} {b : Nat} {S : List Value} : rn ca C_X10_capsuleOf 62 L (.ref b :: S) M = if clsO b = some 4 then rn ca C_X10_capsuleOf 65 L (fv M b 10 :: S) M else none := (rn_at k_X10_capsuleOf_62).trans rnx_ite
theorem k_X10_capsuleOf_65 : lk 65 C_X10_capsuleOf = some (.iload_n 1, (0, 0, 0, 0)) := by decide +kernel
theorem s_X10_capsuleOf_65 {ca : Nat → List Value → tM → tO} {M : tM} {a0 a2 : Option Value} {x : Int32} {S : List Value} : rn ca C_X10_capsuleOf 65 [a0, some (.int x), a2] S M = rn ca C_X10_capsuleOf 66 [a0, some (.int x), a2] (.int x :: S) M := (rn_at k_X10_capsuleOf_65).trans rfl
theorem k_X10_capsuleOf_66 : lk 66 C_X10_capsuleOf = some (.iaload, (0, 0, 0, 0)) := by decide +kernel
theorem s_X10_capsuleOf_66 {ca : Nat → List Value → tM → tO} {M : tM} {L : tL} {a : Nat} {i : Int32} {S : List Value} : rn ca C_X10_capsuleOf 66 L (.int i :: .ref a :: S) M = if (akind a = 0 ∨ akind a = 6 ∨ akind a = 7) ∧ inb i (alen M a) then rn ca C_X10_capsuleOf 67 L (.int (M.1 a i.toInt.toNat) :: S) M else none := (rn_at k_X10_capsuleOf_66).trans rnx_ite
theorem k_X10_capsuleOf_67 : lk 67 C_X10_capsuleOf = some (.ireturn, (0, 0, 0, 0)) := by decide +kernel
theorem s_X10_capsuleOf_67 {ca : Nat → List Value → tM → tO} {M : tM} {L : tL} {x : Int32} : rn ca C_X10_capsuleOf 67 L [.int x] M = some (some (.int x), M) := (rn_at k_X10_capsuleOf_67).trans rfl
theorem k_X10_capsuleOf_68 : lk 68 C_X10_capsuleOf = some (.aload_n 0, (0, 0, 0, 0)) := by decide +kernel
theorem s_X10_capsuleOf_68 {ca : Nat → List Value → tM → tO} {M : tM} {a1 a2 : Option Value} {x : Nat} {S : List Value} : rn ca C_X10_capsuleOf 68 [some (.ref x), a1, a2] S M = rn ca C_X10_capsuleOf 69 [some (.ref x), a1, a2] (.ref x :: S) M := (rn_at k_X10_capsuleOf_68).trans rfl
theorem k_X10_capsuleOf_69 : lk 69 C_X10_capsuleOf = some (.getfield 10, (10, 0, 0, 16)) := by decide +kernel
theorem s_X10_capsuleOf_69 {ca : Nat → List Value → tM → tO} {M : tM} {L : tL} {b : Nat} {S : List Value} : rn ca C_X10_capsuleOf 69 L (.ref b :: S) M = if clsO b = some 10 then rn ca C_X10_capsuleOf 72 L (fv M b 0 :: S) M else none := (rn_at k_X10_capsuleOf_69).trans rnx_ite
theorem k_X10_capsuleOf_72 : lk 72 C_X10_capsuleOf = some (.getfield 152, (4, 11, 0, 100029)) := by decide +kernel
theorem s_X10_capsuleOf_72 {ca : Nat → List Value → tM → tO} {M : tM} {L : tL} {b : Nat} {S : List Value} : rn ca C_X10_capsuleOf 72 L (.ref b :: S) M = if clsO b = some 4 then rn ca C_X10_capsuleOf 75 L (fv M b 11 :: S) M else none := (rn_at k_X10_capsuleOf_72).trans rnx_ite
theorem k_X10_capsuleOf_75 : lk 75 C_X10_capsuleOf = some (.iload_n 1, (0, 0, 0, 0)) := by decide +kernel
theorem s_X10_capsuleOf_75 {ca : Nat → List Value → tM → tO} {M : tM} {a0 a2 : Option Value} {x : Int32} {S : List Value} : rn ca C_X10_capsuleOf 75 [a0, some (.int x), a2] S M = rn ca C_X10_capsuleOf 76 [a0, some (.int x), a2] (.int x :: S) M := (rn_at k_X10_capsuleOf_75).trans rfl
theorem k_X10_capsuleOf_76 : lk 76 C_X10_capsuleOf = some (.iaload, (0, 0, 0, 0)) := by decide +kernel
theorem s_X10_capsuleOf_76 {ca : Nat → List Value → tM → tO} {M : tM} {L : tL} {a : Nat} {i : Int32} {S : List Value} : rn ca C_X10_capsuleOf 76 L (.int i :: .ref a :: S) M = if (akind a = 0 ∨ akind a = 6 ∨ akind a = 7) ∧ inb i (alen M a) then rn ca C_X10_capsuleOf 77 L (.int (M.1 a i.toInt.toNat) :: S) M else none := (rn_at k_X10_capsuleOf_76).trans rnx_ite
theorem k_X10_capsuleOf_77 : lk 77 C_X10_capsuleOf = some (.ireturn, (0, 0, 0, 0)) := by decide +kernel
theorem s_X10_capsuleOf_77 {ca : Nat → List Value → tM → tO} {M : tM} {L : tL} {x : Int32} : rn ca C_X10_capsuleOf 77 L [.int x] M = some (some (.int x), M) := (rn_at k_X10_capsuleOf_77).trans rfl
theorem k_X10_capsuleOf_78 : lk 78 C_X10_capsuleOf = some (.aload_n 0, (0, 0, 0, 0)) := by decide +kernel
theorem s_X10_capsuleOf_78 {ca : Nat → List Value → tM → tO} {M : tM} {a1 a2 : Option Value} {x : Nat} {S : List Value} : rn ca C_X10_capsuleOf 78 [some (.ref x), a1, a2] S M = rn ca C_X10_capsuleOf 79 [some (.ref x), a1, a2] (.ref x :: S) M := (rn_at k_X10_capsuleOf_78).trans rfl
theorem k_X10_capsuleOf_79 : lk 79 C_X10_capsuleOf = some (.getfield 10, (10, 0, 0, 16)) := by decide +kernel
theorem s_X10_capsuleOf_79 {ca : Nat → List Value → tM → tO} {M : tM} {L : tL} {b : Nat} {S : List Value} : rn ca C_X10_capsuleOf 79 L (.ref b :: S) M = if clsO b = some 10 then rn ca C_X10_capsuleOf 82 L (fv M b 0 :: S) M else none := (rn_at k_X10_capsuleOf_79).trans rnx_ite
theorem k_X10_capsuleOf_82 : lk 82 C_X10_capsuleOf = some (.getfield 161, (4, 12, 0, 100030)) := by decide +kernel
theorem s_X10_capsuleOf_82 {ca : Nat → List Value → tM → tO} {M : tM} {L : tL} {b : Nat} {S : List Value} : rn ca C_X10_capsuleOf 82 L (.ref b :: S) M = if clsO b = some 4 then rn ca C_X10_capsuleOf 85 L (fv M b 12 :: S) M else none := (rn_at k_X10_capsuleOf_82).trans rnx_ite
theorem k_X10_capsuleOf_85 : lk 85 C_X10_capsuleOf = some (.iload_n 1, (0, 0, 0, 0)) := by decide +kernel
theorem s_X10_capsuleOf_85 {ca : Nat → List Value → tM → tO} {M : tM} {a0 a2 : Option Value} {x : Int32} {S : List Value} : rn ca C_X10_capsuleOf 85 [a0, some (.int x), a2] S M = rn ca C_X10_capsuleOf 86 [a0, some (.int x), a2] (.int x :: S) M := (rn_at k_X10_capsuleOf_85).trans rfl
theorem k_X10_capsuleOf_86 : lk 86 C_X10_capsuleOf = some (.iaload, (0, 0, 0, 0)) := by decide +kernel
theorem s_X10_capsuleOf_86 {ca : Nat → List Value → tM → tO} {M : tM} {L : tL} {a : Nat} {i : Int32} {S : List Value} : rn ca C_X10_capsuleOf 86 L (.int i :: .ref a :: S) M = if (akind a = 0 ∨ akind a = 6 ∨ akind a = 7) ∧ inb i (alen M a) then rn ca C_X10_capsuleOf 87 L (.int (M.1 a i.toInt.toNat) :: S) M else none := (rn_at k_X10_capsuleOf_86).trans rnx_ite
theorem k_X10_capsuleOf_87 : lk 87 C_X10_capsuleOf = some (.ireturn, (0, 0, 0, 0)) := by decide +kernel
theorem s_X10_capsuleOf_87 {ca : Nat → List Value → tM → tO} {M : tM} {L : tL} {x : Int32} : rn ca C_X10_capsuleOf 87 L [.int x] M = some (some (.int x), M) := (rn_at k_X10_capsuleOf_87).trans rfl
theorem k_X10_capsuleOf_88 : lk 88 C_X10_capsuleOf = some (.aload_n 0, (0, 0, 0, 0)) := by decide +kernel
theorem s_X10_capsuleOf_88 {ca : Nat → List Value → tM → tO} {M : tM} {a1 a2 : Option Value} {x : Nat} {S : List Value} : rn ca C_X10_capsuleOf 88 [some (.ref x), a1, a2] S M = rn ca C_X10_capsuleOf 89 [some (.ref x), a1, a2] (.ref x :: S) M := (rn_at k_X10_capsuleOf_88).trans rfl
theorem k_X10_capsuleOf_89 : lk 89 C_X10_capsuleOf = some (.bipush (-5), (0, 0, 0, 0)) := by decide +kernel
theorem s_X10_capsuleOf_89 {ca : Nat → List Value → tM → tO} {M : tM} {L : tL} {S : List Value} : rn ca C_X10_capsuleOf 89 L S M = rn ca C_X10_capsuleOf 91 L (.int (iI (-5)) :: S) M := (rn_at k_X10_capsuleOf_89).trans rfl
theorem k_X10_capsuleOf_91 : lk 91 C_X10_capsuleOf = some (.invokevirtual 101, (134, 1, 10, 175)) := by decide +kernel
theorem s_X10_capsuleOf_91 {ca : Nat → List Value → tM → tO} {M : tM} {L : tL} {v1 : Value} {b : Nat} : rn ca C_X10_capsuleOf 91 L [v1, .ref b] M = if clsO b = some 10 then rnk ca C_X10_capsuleOf 94 L [] (ca m_X10_refuse [.ref b, v1] M) else none := (rn_at k_X10_capsuleOf_91).trans rnx_ite
theorem k_X10_capsuleOf_94 : lk 94 C_X10_capsuleOf = some (.ireturn, (0, 0, 0, 0)) := by decide +kernel
theorem s_X10_capsuleOf_94 {ca : Nat → List Value → tM → tO} {M : tM} {L : tL} {x : Int32} : rn ca C_X10_capsuleOf 94 L [.int x] M = some (some (.int x), M) := (rn_at k_X10_capsuleOf_94).trans rfl
theorem k_X10_tubeOf_0 : lk 0 C_X10_tubeOf = some (.aload_n 0, (0, 0, 0, 0)) := by decide +kernel
theorem s_X10_tubeOf_0 {ca : Nat → List Value → tM → tO} {M : tM} {a1 a2 : Option Value} {x : Nat} {S : List Value} : rn ca C_X10_tubeOf 0 [some (.ref x), a1, a2] S M = rn ca C_X10_tubeOf 1 [some (.ref x), a1, a2] (.ref x :: S) M := (rn_at k_X10_tubeOf_0).trans rfl
theorem k_X10_tubeOf_1 : lk 1 C_X10_tubeOf = some (.getfield 10, (10, 0, 0, 16)) := by decide +kernel
theorem s_X10_tubeOf_1 {ca : Nat → List Value → tM → tO} {M : tM} {L : tL} {b : Nat} {S : List Value} : rn ca C_X10_tubeOf 1 L (.ref b :: S) M = if clsO b = some 10 then rn ca C_X10_tubeOf 4 L (fv M b 0 :: S) M else none := (rn_at k_X10_tubeOf_1).trans rnx_ite
theorem k_X10_tubeOf_4 : lk 4 C_X10_tubeOf = some (.iload_n 1, (0, 0, 0, 0)) := by decide +kernel
theorem s_X10_tubeOf_4 {ca : Nat → List Value → tM → tO} {M : tM} {a0 a2 : Option Value} {x : Int32} {S : List Value} : rn ca C_X10_tubeOf 4 [a0, some (.int x), a2] S M = rn ca C_X10_tubeOf 5 [a0, some (.int x), a2] (.int x :: S) M := (rn_at k_X10_tubeOf_4).trans rfl
theorem k_X10_tubeOf_5 : lk 5 C_X10_tubeOf = some (.invokevirtual 196, (19, 1, 4, 430)) := by decide +kernel
theorem s_X10_tubeOf_5 {ca : Nat → List Value → tM → tO} {M : tM} {L : tL} {v1 : Value} {b : Nat} : rn ca C_X10_tubeOf 5 L [v1, .ref b] M = if clsO b = some 4 then rnk ca C_X10_tubeOf 8 L [] (ca m_X4_hasTube [.ref b, v1] M) else none := (rn_at k_X10_tubeOf_5).trans rnx_ite
theorem k_X10_tubeOf_8 : lk 8 C_X10_tubeOf = some (.ifCond .ne 10, (18, 0, 0, 0)) := by decide +kernel
theorem s_X10_tubeOf_8 {ca : Nat → List Value → tM → tO} {M : tM} {L : tL} {x : Int32} {S : List Value} : rn ca C_X10_tubeOf 8 L (.int x :: S) M = if ¬ x = iI 0 then rn ca C_X10_tubeOf 18 L S M else rn ca C_X10_tubeOf 11 L S M := (rn_at k_X10_tubeOf_8).trans rnx_ite
theorem k_X10_tubeOf_11 : lk 11 C_X10_tubeOf = some (.aload_n 0, (0, 0, 0, 0)) := by decide +kernel
theorem s_X10_tubeOf_11 {ca : Nat → List Value → tM → tO} {M : tM} {a1 a2 : Option Value} {x : Nat} {S : List Value} : rn ca C_X10_tubeOf 11 [some (.ref x), a1, a2] S M = rn ca C_X10_tubeOf 12 [some (.ref x), a1, a2] (.ref x :: S) M := (rn_at k_X10_tubeOf_11).trans rfl
theorem k_X10_tubeOf_12 : lk 12 C_X10_tubeOf = some (.bipush (-5), (0, 0, 0, 0)) := by decide +kernel
theorem s_X10_tubeOf_12 {ca : Nat → List Value → tM → tO} {M : tM} {L : tL} {S : List Value} : rn ca C_X10_tubeOf 12 L S M = rn ca C_X10_tubeOf 14 L (.int (iI (-5)) :: S) M := (rn_at k_X10_tubeOf_12).trans rfl
theorem k_X10_tubeOf_14 : lk 14 C_X10_tubeOf = some (.invokevirtual 101, (134, 1, 10, 175)) := by decide +kernel
theorem s_X10_tubeOf_14 {ca : Nat → List Value → tM → tO} {M : tM} {L : tL} {v1 : Value} {b : Nat} : rn ca C_X10_tubeOf 14 L [v1, .ref b] M = if clsO b = some 10 then rnk ca C_X10_tubeOf 17 L [] (ca m_X10_refuse [.ref b, v1] M) else none := (rn_at k_X10_tubeOf_14).trans rnx_ite
theorem k_X10_tubeOf_17 : lk 17 C_X10_tubeOf = some (.ireturn, (0, 0, 0, 0)) := by decide +kernel
theorem s_X10_tubeOf_17 {ca : Nat → List Value → tM → tO} {M : tM} {L : tL} {x : Int32} : rn ca C_X10_tubeOf 17 L [.int x] M = some (some (.int x), M) := (rn_at k_X10_tubeOf_17).trans rfl
theorem k_X10_tubeOf_18 : lk 18 C_X10_tubeOf = some (.iload_n 2, (0, 0, 0, 0)) := by decide +kernel
theorem s_X10_tubeOf_18 {ca : Nat → List Value → tM → tO} {M : tM} {a0 a1 : Option Value} {x : Int32} {S : List Value} : rn ca C_X10_tubeOf 18 [a0, a1, some (.int x)] S M = rn ca C_X10_tubeOf 19 [a0, a1, some (.int x)] (.int x :: S) M := (rn_at k_X10_tubeOf_18).trans rfl
theorem k_X10_tubeOf_19 : lk 19 C_X10_tubeOf = some (.tableswitch 90 0 4 #[33, 43, 53, 63, 73], (0, 0, 0, 0)) := by decide +kernel
theorem s_X10_tubeOf_19 {ca : Nat → List Value → tM → tO} {M : tM} {L : tL} {x : Int32} {S : List Value} : rn ca C_X10_tubeOf 19 L (.int x :: S) M = if x = iI 0 then rn ca C_X10_tubeOf 52 L S M else if x = iI 1 then rn ca C_X10_tubeOf 62 L S M else if x = iI 2 then rn ca C_X10_tubeOf 72 L S M else if x = iI 3 then rn ca C_X10_tubeOf 82 L S M else if x = iI 4 then rn ca C_X10_tubeOf 92 L S M else rn ca C_X10_tubeOf 109 L S M := by rw [rn_at k_X10_tubeOf_19]; simp only [ta, tsw, lsw, rnx_ite]; rfl
theorem k_X10_tubeOf_52 : lk 52 C_X10_tubeOf = some (.aload_n 0, (0, 0, 0, 0)) := by decide +kernel
theorem s_X10_tubeOf_52 {ca : Nat → List Value → tM → tO} {M : tM} {a1 a2 : Option Value} {x : Nat} {S : List Value} : rn ca C_X10_tubeOf 52 [some (.ref x), a1, a2] S M = rn ca C_X10_tubeOf 53 [some (.ref x), a1, a2] (.ref x :: S) M := (rn_at k_X10_tubeOf_52).trans rfl
theorem k_X10_tubeOf_53 : lk 53 C_X10_tubeOf = some (.getfield 10, (10, 0, 0, 16)) := by decide +kernel
theorem s_X10_tubeOf_53 {ca : Nat → List Value → tM → tO} {M : tM} {L : tL} {b : Nat} {S : List Value} : rn ca C_X10_tubeOf 53 L (.ref b :: S) M = if clsO b = some 10 then rn ca C_X10_tubeOf 56 L (fv M b 0 :: S) M else none := (rn_at k_X10_tubeOf_53).trans rnx_ite
theorem k_X10_tubeOf_56 : lk 56 C_X10_tubeOf = some (.getfield 209, (4, 3, 0, 100015)) := by decide +kernel
theorem s_X10_tubeOf_56 {ca : Nat → List Value → tM → tO} {M : tM} {L : tL} {b : Nat} {S : List Value} : rn ca C_X10_tubeOf 56 L (.ref b :: S) M = if clsO b = some 4 then rn ca C_X10_tubeOf 59 L (fv M b 3 :: S) M else none := (rn_at k_X10_tubeOf_56).trans rnx_ite
theorem k_X10_tubeOf_59 : lk 59 C_X10_tubeOf = some (.iload_n 1, (0, 0, 0, 0)) := by decide +kernel
theorem s_X10_tubeOf_59 {ca : Nat → List Value → tM → tO} {M : tM} {a0 a2 : Option Value} {x : Int32} {S : List Value} : rn ca C_X10_tubeOf 59 [a0, some (.int x), a2] S M = rn ca C_X10_tubeOf 60 [a0, some (.int x), a2] (.int x :: S) M := (rn_at k_X10_tubeOf_59).trans rfl
theorem k_X10_tubeOf_60 : lk 60 C_X10_tubeOf = some (.iaload, (0, 0, 0, 0)) := by decide +kernel
theorem s_X10_tubeOf_60 {ca : Nat → List Value → tM → tO} {M : tM} {L : tL} {a : Nat} {i : Int32} {S : List Value} : rn ca C_X10_tubeOf 60 L (.int i :: .ref a :: S) M = if (akind a = 0 ∨ akind a = 6 ∨ akind a = 7) ∧ inb i (alen M a) then rn ca C_X10_tubeOf 61 L (.int (M.1 a i.toInt.toNat) :: S) M else none := (rn_at k_X10_tubeOf_60).trans rnx_ite
theorem k_X10_tubeOf_61 : lk 61 C_X10_tubeOf = some (.ireturn, (0, 0, 0, 0)) := by decide +kernel
theorem s_X10_tubeOf_61 {ca : Nat → List Value → tM → tO} {M : tM} {L : tL} {x : Int32} : rn ca C_X10_tubeOf 61 L [.int x] M = some (some (.int x), M) := (rn_at k_X10_tubeOf_61).trans rfl
theorem k_X10_tubeOf_62 : lk 62 C_X10_tubeOf = some (.aload_n 0, (0, 0, 0, 0)) := by decide +kernel
theorem s_X10_tubeOf_62 {ca : Nat → List Value → tM → tO} {M : tM} {a1 a2 : Option Value} {x : Nat} {S : List Value} : rn ca C_X10_tubeOf 62 [some (.ref x), a1, a2] S M = rn ca C_X10_tubeOf 63 [some (.ref x), a1, a2] (.ref x :: S) M := (rn_at k_X10_tubeOf_62).trans rfl
theorem k_X10_tubeOf_63 : lk 63 C_X10_tubeOf = some (.getfield 10, (10, 0, 0, 16)) := by decide +kernel
theorem s_X10_tubeOf_63 {ca : Nat → List Value → tM → tO} {M : tM} {L : tL} {b : Nat} {S : List Value} : rn ca C_X10_tubeOf 63 L (.ref b :: S) M = if clsO b = some 10 then rn ca C_X10_tubeOf 66 L (fv M b 0 :: S) M else none := (rn_at k_X10_tubeOf_63).trans rnx_ite
theorem k_X10_tubeOf_66 : lk 66 C_X10_tubeOf = some (.getfield 212, (4, 4, 0, 100020)) := by decide +kernel
theorem s_X10_tubeOf_66 {ca : Nat → List Value → tM → tO} {M : tM} {L : tL} {b : Nat} {S : List Value} : rn ca C_X10_tubeOf 66 L (.ref b :: S) M = if clsO b = some 4 then rn ca C_X10_tubeOf 69 L (fv M b 4 :: S) M else none := (rn_at k_X10_tubeOf_66).trans rnx_ite
theorem k_X10_tubeOf_69 : lk 69 C_X10_tubeOf = some (.iload_n 1, (0, 0, 0, 0)) := by decide +kernel
theorem s_X10_tubeOf_69 {ca : Nat → List Value → tM → tO} {M : tM} {a0 a2 : Option Value} {x : Int32} {S : List Value} : rn ca C_X10_tubeOf 69 [a0, some (.int x), a2] S M = rn ca C_X10_tubeOf 70 [a0, some (.int x), a2] (.int x :: S) M := (rn_at k_X10_tubeOf_69).trans rfl
theorem k_X10_tubeOf_70 : lk 70 C_X10_tubeOf = some (.iaload, (0, 0, 0, 0)) := by decide +kernel
theorem s_X10_tubeOf_70 {ca : Nat → List Value → tM → tO} {M : tM} {L : tL} {a : Nat} {i : Int32} {S : List Value} : rn ca C_X10_tubeOf 70 L (.int i :: .ref a :: S) M = if (akind a = 0 ∨ akind a = 6 ∨ akind a = 7) ∧ inb i (alen M a) then rn ca C_X10_tubeOf 71 L (.int (M.1 a i.toInt.toNat) :: S) M else none := (rn_at k_X10_tubeOf_70).trans rnx_ite
theorem k_X10_tubeOf_71 : lk 71 C_X10_tubeOf = some (.ireturn, (0, 0, 0, 0)) := by decide +kernel
theorem s_X10_tubeOf_71 {ca : Nat → List Value → tM → tO} {M : tM} {L : tL} {x : Int32} : rn ca C_X10_tubeOf 71 L [.int x] M = some (some (.int x), M) := (rn_at k_X10_tubeOf_71).trans rfl
theorem k_X10_tubeOf_72 : lk 72 C_X10_tubeOf = some (.aload_n 0, (0, 0, 0, 0)) := by decide +kernel
theorem s_X10_tubeOf_72 {ca : Nat → List Value → tM → tO} {M : tM} {a1 a2 : Option Value} {x : Nat} {S : List Value} : rn ca C_X10_tubeOf 72 [some (.ref x), a1, a2] S M = rn ca C_X10_tubeOf 73 [some (.ref x), a1, a2] (.ref x :: S) M := (rn_at k_X10_tubeOf_72).trans rfl
theorem k_X10_tubeOf_73 : lk 73 C_X10_tubeOf = some (.getfield 10, (10, 0, 0, 16)) := by decide +kernel
theorem s_X10_tubeOf_73 {ca : Nat → List Value → tM → tO} {M : tM} {L : tL} {b : Nat} {S : List Value} : rn ca C_X10_tubeOf 73 L (.ref b :: S) M = if clsO b = some 10 then rn ca C_X10_tubeOf 76 L (fv M b 0 :: S) M else none := (rn_at k_X10_tubeOf_73).trans rnx_ite
theorem k_X10_tubeOf_76 : lk 76 C_X10_tubeOf = some (.getfield 215, (4, 5, 0, 100023)) := by decide +kernel
theorem s_X10_tubeOf_76 {ca : Nat → List Value → tM → tO} {M : tM} {L : tL} {b : Nat} {S : List Value} : rn ca C_X10_tubeOf 76 L (.ref b :: S) M = if clsO b = some 4 then rn ca C_X10_tubeOf 79 L (fv M b 5 :: S) M else none := (rn_at k_X10_tubeOf_76).trans rnx_ite
theorem k_X10_tubeOf_79 : lk 79 C_X10_tubeOf = some (.iload_n 1, (0, 0, 0, 0)) := by decide +kernel
theorem s_X10_tubeOf_79 {ca : Nat → List Value → tM → tO} {M : tM} {a0 a2 : Option Value} {x : Int32} {S : List Value} : rn ca C_X10_tubeOf 79 [a0, some (.int x), a2] S M = rn ca C_X10_tubeOf 80 [a0, some (.int x), a2] (.int x :: S) M := (rn_at k_X10_tubeOf_79).trans rfl
theorem k_X10_tubeOf_80 : lk 80 C_X10_tubeOf = some (.iaload, (0, 0, 0, 0)) := by decide +kernel
theorem s_X10_tubeOf_80 {ca : Nat → List Value → tM → tO} {M : tM} {L : tL} {a : Nat} {i : Int32} {S : List Value} : rn ca C_X10_tubeOf 80 L (.int i :: .ref a :: S) M = if (akind a = 0 ∨ akind a = 6 ∨ akind a = 7) ∧ inb i (alen M a) then rn ca C_X10_tubeOf 81 L (.int (M.1 a i.toInt.toNat) :: S) M else none := (rn_at k_X10_tubeOf_80).trans rnx_ite
theorem k_X10_tubeOf_81 : lk 81 C_X10_tubeOf = some (.ireturn, (0, 0, 0, 0)) := by decide +kernel
theorem s_X10_tubeOf_81 {ca : Nat → List Value → tM → tO} {M : tM} {L : tL} {x : Int32} : rn ca C_X10_tubeOf 81 L [.int x] M = some (some (.int x), M) := (rn_at k_X10_tubeOf_81).trans rfl
theorem k_X10_tubeOf_82 : lk 82 C_X10_tubeOf = some (.aload_n 0, (0, 0, 0, 0)) := by decide +kernel
theorem s_X10_tubeOf_82 {ca : Nat → List Value → tM → tO} {M : tM} {a1 a2 : Option Value} {x : Nat} {S : List Value} : rn ca C_X10_tubeOf 82 [some (.ref x), a1, a2] S M = rn ca C_X10_tubeOf 83 [some (.ref x), a1, a2] (.ref x :: S) M := (rn_at k_X10_tubeOf_82).trans rfl
theorem k_X10_tubeOf_83 : lk 83 C_X10_tubeOf = some (.getfield 10, (10, 0, 0, 16)) := by decide +kernel
theorem s_X10_tubeOf_83 {ca : Nat → List Value → tM → tO} {M : tM} {L : tL} {b : Nat} {S : List Value} : rn ca C_X10_tubeOf 83 L (.ref b :: S) M = if clsO b = some 10 then rn ca C_X10_tubeOf 86 L (fv M b 0 :: S) M else none := (rn_at k_X10_tubeOf_83).trans rnx_ite
theorem k_X10_tubeOf_86 : lk 86 C_X10_tubeOf = some (.getfield 218, (4, 6, 0, 100024)) := by decide +kernel
theorem s_X10_tubeOf_86 {ca : Nat → List Value → tM → tO} {M : tM} {L : tL} {b : Nat} {S : List Value} : rn ca C_X10_tubeOf 86 L (.ref b :: S) M = if clsO b = some 4 then rn ca C_X10_tubeOf 89 L (fv M b 6 :: S) M else none := (rn_at k_X10_tubeOf_86).trans rnx_ite
theorem k_X10_tubeOf_89 : lk 89 C_X10_tubeOf = some (.iload_n 1, (0, 0, 0, 0)) := by decide +kernel
theorem s_X10_tubeOf_89 {ca : Nat → List Value → tM → tO} {M : tM} {a0 a2 : Option Value} {x : Int32} {S : List Value} : rn ca C_X10_tubeOf 89 [a0, some (.int x), a2] S M = rn ca C_X10_tubeOf 90 [a0, some (.int x), a2] (.int x :: S) M := (rn_at k_X10_tubeOf_89).trans rfl
theorem k_X10_tubeOf_90 : lk 90 C_X10_tubeOf = some (.iaload, (0, 0, 0, 0)) := by decide +kernel
theorem s_X10_tubeOf_90 {ca : Nat → List Value → tM → tO} {M : tM} {L : tL} {a : Nat} {i : Int32} {S : List Value} : rn ca C_X10_tubeOf 90 L (.int i :: .ref a :: S) M = if (akind a = 0 ∨ akind a = 6 ∨ akind a = 7) ∧ inb i (alen M a) then rn ca C_X10_tubeOf 91 L (.int (M.1 a i.toInt.toNat) :: S) M else none := (rn_at k_X10_tubeOf_90).trans rnx_ite
theorem k_X10_tubeOf_91 : lk 91 C_X10_tubeOf = some (.ireturn, (0, 0, 0, 0)) := by decide +kernel
theorem s_X10_tubeOf_91 {ca : Nat → List Value → tM → tO} {M : tM} {L : tL} {x : Int32} : rn ca C_X10_tubeOf 91 L [.int x] M = some (some (.int x), M) := (rn_at k_X10_tubeOf_91).trans rfl
theorem k_X10_tubeOf_92 : lk 92 C_X10_tubeOf = some (.aload_n 0, (0, 0, 0, 0)) := by decide +kernel
theorem s_X10_tubeOf_92 {ca : Nat → List Value → tM → tO} {M : tM} {a1 a2 : Option Value} {x : Nat} {S : List Value} : rn ca C_X10_tubeOf 92 [some (.ref x), a1, a2] S M = rn ca C_X10_tubeOf 93 [some (.ref x), a1, a2] (.ref x :: S) M := (rn_at k_X10_tubeOf_92).trans rfl
theorem k_X10_tubeOf_93 : lk 93 C_X10_tubeOf = some (.getfield 10, (10, 0, 0, 16)) := by decide +kernel
theorem s_X10_tubeOf_93 {ca : Nat → List Value → tM → tO} {M : tM} {L : tL} {b : Nat} {S : List Value} : rn ca C_X10_tubeOf 93 L (.ref b :: S) M = if clsO b = some 10 then rn ca C_X10_tubeOf 96 L (fv M b 0 :: S) M else none := (rn_at k_X10_tubeOf_93).trans rnx_ite
theorem k_X10_tubeOf_96 : lk 96 C_X10_tubeOf = some (.iload_n 1, (0, 0, 0, 0)) := by decide +kernel
theorem s_X10_tubeOf_96 {ca : Nat → List Value → tM → tO} {M : tM} {a0 a2 : Option Value} {x : Int32} {S : List Value} : rn ca C_X10_tubeOf 96 [a0, some (.int x), a2] S M = rn ca C_X10_tubeOf 97 [a0, some (.int x), a2] (.int x :: S) M := (rn_at k_X10_tubeOf_96).trans rfl
theorem k_X10_tubeOf_97 : lk 97 C_X10_tubeOf = some (.invokevirtual 199, (27, 1, 4, 431)) := by decide +kernel
theorem s_X10_tubeOf_97 {ca : Nat → List Value → tM → tO} {M : tM} {L : tL} {v1 : Value} {b : Nat} : rn ca C_X10_tubeOf 97 L [v1, .ref b] M = if clsO b = some 4 then rnk ca C_X10_tubeOf 100 L [] (ca m_X4_isShut [.ref b, v1] M) else none := (rn_at k_X10_tubeOf_97).trans rnx_ite
theorem k_X10_tubeOf_100 : lk 100 C_X10_tubeOf = some (.ifCond .eq 7, (107, 0, 0, 0)) := by decide +kernel
theorem s_X10_tubeOf_100 {ca : Nat → List Value → tM → tO} {M : tM} {L : tL} {x : Int32} {S : List Value} : rn ca C_X10_tubeOf 100 L (.int x :: S) M = if x = iI 0 then rn ca C_X10_tubeOf 107 L S M else rn ca C_X10_tubeOf 103 L S M := (rn_at k_X10_tubeOf_100).trans rnx_ite
theorem k_X10_tubeOf_103 : lk 103 C_X10_tubeOf = some (.iconst 1, (0, 0, 0, 0)) := by decide +kernel
theorem s_X10_tubeOf_103 {ca : Nat → List Value → tM → tO} {M : tM} {L : tL} {S : List Value} : rn ca C_X10_tubeOf 103 L S M = rn ca C_X10_tubeOf 104 L (.int (iI 1) :: S) M := (rn_at k_X10_tubeOf_103).trans rfl
theorem k_X10_tubeOf_104 : lk 104 C_X10_tubeOf = some (.goto 4, (108, 0, 0, 0)) := by decide +kernel
theorem s_X10_tubeOf_104 {ca : Nat → List Value → tM → tO} {M : tM} {L : tL} {S : List Value} : rn ca C_X10_tubeOf 104 L S M = rn ca C_X10_tubeOf 108 L S M := (rn_at k_X10_tubeOf_104).trans rfl
theorem k_X10_tubeOf_107 : lk 107 C_X10_tubeOf = some (.iconst 0, (0, 0, 0, 0)) := by decide +kernel
theorem s_X10_tubeOf_107 {ca : Nat → List Value → tM → tO} {M : tM} {L : tL} {S : List Value} : rn ca C_X10_tubeOf 107 L S M = rn ca C_X10_tubeOf 108 L (.int (iI 0) :: S) M := (rn_at k_X10_tubeOf_107).trans rfl
theorem k_X10_tubeOf_108 : lk 108 C_X10_tubeOf = some (.ireturn, (0, 0, 0, 0)) := by decide +kernel
theorem s_X10_tubeOf_108 {ca : Nat → List Value → tM → tO} {M : tM} {L : tL} {x : Int32} : rn ca C_X10_tubeOf 108 L [.int x] M = some (some (.int x), M) := (rn_at k_X10_tubeOf_108).trans rfl
theorem k_X10_tubeOf_109 : lk 109 C_X10_tubeOf = some (.aload_n 0, (0, 0, 0, 0)) := by decide +kernel
theorem s_X10_tubeOf_109 {ca : Nat → List Value → tM → tO} {M : tM} {a1 a2 : Option Value} {x : Nat} {S : List Value} : rn ca C_X10_tubeOf 109 [some (.ref x), a1, a2] S M = rn ca C_X10_tubeOf 110 [some (.ref x), a1, a2] (.ref x :: S) M := (rn_at k_X10_tubeOf_109).trans rfl
theorem k_X10_tubeOf_110 : lk 110 C_X10_tubeOf = some (.bipush (-5), (0, 0, 0, 0)) := by decide +kernel
theorem s_X10_tubeOf_110 {ca : Nat → List Value → tM → tO} {M : tM} {L : tL} {S : List Value} : rn ca C_X10_tubeOf 110 L S M = rn ca C_X10_tubeOf 112 L (.int (iI (-5)) :: S) M := (rn_at k_X10_tubeOf_110).trans rfl
theorem k_X10_tubeOf_112 : lk 112 C_X10_tubeOf = some (.invokevirtual 101, (134, 1, 10, 175)) := by decide +kernel
theorem s_X10_tubeOf_112 {ca : Nat → List Value → tM → tO} {M : tM} {L : tL} {v1 : Value} {b : Nat} : rn ca C_X10_tubeOf 112 L [v1, .ref b] M = if clsO b = some 10 then rnk ca C_X10_tubeOf 115 L [] (ca m_X10_refuse [.ref b, v1] M) else none := (rn_at k_X10_tubeOf_112).trans rnx_ite
theorem k_X10_tubeOf_115 : lk 115 C_X10_tubeOf = some (.ireturn, (0, 0, 0, 0)) := by decide +kernel
theorem s_X10_tubeOf_115 {ca : Nat → List Value → tM → tO} {M : tM} {L : tL} {x : Int32} : rn ca C_X10_tubeOf 115 L [.int x] M = some (some (.int x), M) := (rn_at k_X10_tubeOf_115).trans rfl
theorem k_X10_signed_0 : lk 0 C_X10_signed = some (.aload_n 0, (0, 0, 0, 0)) := by decide +kernel
theorem s_X10_signed_0 {ca : Nat → List Value → tM → tO} {M : tM} {a1 : Option Value} {x : Nat} {S : List Value} : rn ca C_X10_signed 0 [some (.ref x), a1] S M = rn ca C_X10_signed 1 [some (.ref x), a1] (.ref x :: S) M := (rn_at k_X10_signed_0).trans rfl
theorem k_X10_signed_1 : lk 1 C_X10_signed = some (.getfield 10, (10, 0, 0, 16)) := by decide +kernel
theorem s_X10_signed_1 {ca : Nat → List Value → tM → tO} {M : tM} {L : tL} {b : Nat} {S : List Value} : rn ca C_X10_signed 1 L (.ref b :: S) M = if clsO b = some 10 then rn ca C_X10_signed 4 L (fv M b 0 :: S) M else none := (rn_at k_X10_signed_1).trans rnx_ite
theorem k_X10_signed_4 : lk 4 C_X10_signed = some (.iload_n 1, (0, 0, 0, 0)) := by decide +kernel
theorem s_X10_signed_4 {ca : Nat → List Value → tM → tO} {M : tM} {a0 : Option Value} {x : Int32} {S : List Value} : rn ca C_X10_signed 4 [a0, some (.int x)] S M = rn ca C_X10_signed 5 [a0, some (.int x)] (.int x :: S) M := (rn_at k_X10_signed_4).trans rfl
theorem k_X10_signed_5 : lk 5 C_X10_signed = some (.invokevirtual 174, (18, 1, 4, 368)) := by decide +kernel
theorem s_X10_signed_5 {ca : Nat → List Value → tM → tO} {M : tM} {L : tL} {v1 : Value} {b : Nat} : rn ca C_X10_signed 5 L [v1, .ref b] M = if clsO b = some 4 then rnk ca C_X10_signed 8 L [] (ca m_X4_hasDesk [.ref b, v1] M) else none := (rn_at k_X10_signed_5).trans rnx_ite
theorem k_X10_signed_8 : lk 8 C_X10_signed = some (.ifCond .ne 10, (18, 0, 0, 0)) := by decide +kernel
theorem s_X10_signed_8 {ca : Nat → List Value → tM → tO} {M : tM} {L : tL} {x : Int32} {S : List Value} : rn ca C_X10_signed 8 L (.int x :: S) M = if ¬ x = iI 0 then rn ca C_X10_signed 18 L S M else rn ca C_X10_signed 11 L S M := (rn_at k_X10_signed_8).trans rnx_ite
theorem k_X10_signed_11 : lk 11 C_X10_signed = some (.aload_n 0, (0, 0, 0, 0)) := by decide +kernel
theorem s_X10_signed_11 {ca : Nat → List Value → tM → tO} {M : tM} {a1 : Option Value} {x : Nat} {S : List Value} : rn ca C_X10_signed 11 [some (.ref x), a1] S M = rn ca C_X10_signed 12 [some (.ref x), a1] (.ref x :: S) M := (rn_at k_X10_signed_11).trans rfl
theorem k_X10_signed_12 : lk 12 C_X10_signed = some (.bipush (-5), (0, 0, 0, 0)) := by decide +kernel
theorem s_X10_signed_12 {ca : Nat → List Value → tM → tO} {M : tM} {L : tL} {S : List Value} : rn ca C_X10_signed 12 L S M = rn ca C_X10_signed 14 L (.int (iI (-5)) :: S) M := (rn_at k_X10_signed_12).trans rfl
theorem k_X10_signed_14 : lk 14 C_X10_signed = some (.invokevirtual 101, (134, 1, 10, 175)) := by decide +kernel
theorem s_X10_signed_14 {ca : Nat → List Value → tM → tO} {M : tM} {L : tL} {v1 : Value} {b : Nat} : rn ca C_X10_signed 14 L [v1, .ref b] M = if clsO b = some 10 then rnk ca C_X10_signed 17 L [] (ca m_X10_refuse [.ref b, v1] M) else none := (rn_at k_X10_signed_14).trans rnx_ite
theorem k_X10_signed_17 : lk 17 C_X10_signed = some (.ireturn, (0, 0, 0, 0)) := by decide +kernel
theorem s_X10_signed_17 {ca : Nat → List Value → tM → tO} {M : tM} {L : tL} {x : Int32} : rn ca C_X10_signed 17 L [.int x] M = some (some (.int x), M) := (rn_at k_X10_signed_17).trans rfl
theorem k_X10_signed_18 : lk 18 C_X10_signed = some (.aload_n 0, (0, 0, 0, 0)) := by decide +kernel
theorem s_X10_signed_18 {ca : Nat → List Value → tM → tO} {M : tM} {a1 : Option Value} {x : Nat} {S : List Value} : rn ca C_X10_signed 18 [some (.ref x), a1] S M = rn ca C_X10_signed 19 [some (.ref x), a1] (.ref x :: S) M := (rn_at k_X10_signed_18).trans rfl
theorem k_X10_signed_19 : lk 19 C_X10_signed = some (.getfield 10, (10, 0, 0, 16)) := by decide +kernel
theorem s_X10_signed_19 {ca : Nat → List Value → tM → tO} {M : tM} {L : tL} {b : Nat} {S : List Value} : rn ca C_X10_signed 19 L (.ref b :: S) M = if clsO b = some 10 then rn ca C_X10_signed 22 L (fv M b 0 :: S) M else none := (rn_at k_X10_signed_19).trans rnx_ite
theorem k_X10_signed_22 : lk 22 C_X10_signed = some (.getfield 221, (4, 1, 0, 100005)) := by decide +kernel
theorem s_X10_signed_22 {ca : Nat → List Value → tM → tO} {M : tM} {L : tL} {b : Nat} {S : List Value} : rn ca C_X10_signed 22 L (.ref b :: S) M = if clsO b = some 4 then rn ca C_X10_signed 25 L (fv M b 1 :: S) M else none := (rn_at k_X10_signed_22).trans rnx_ite
theorem k_X10_signed_25 : lk 25 C_X10_signed = some (.iload_n 1, (0, 0, 0, 0)) := by decide +kernel
theorem s_X10_signed_25 {ca : Nat → List Value → tM → tO} {M : tM} {a0 : Option Value} {x : Int32} {S : List Value} : rn ca C_X10_signed 25 [a0, some (.int x)] S M = rn ca C_X10_signed 26 [a0, some (.int x)] (.int x :: S) M := (rn_at k_X10_signed_25).trans rfl
theorem k_X10_signed_26 : lk 26 C_X10_signed = some (.iaload, (0, 0, 0, 0)) := by decide +kernel
theorem s_X10_signed_26 {ca : Nat → List Value → tM → tO} {M : tM} {L : tL} {a : Nat} {i : Int32} {S : List Value} : rn ca C_X10_signed 26 L (.int i :: .ref a :: S) M = if (akind a = 0 ∨ akind a = 6 ∨ akind a = 7) ∧ inb i (alen M a) then rn ca C_X10_signed 27 L (.int (M.1 a i.toInt.toNat) :: S) M else none := (rn_at k_X10_signed_26).trans rnx_ite
theorem k_X10_signed_27 : lk 27 C_X10_signed = some (.ireturn, (0, 0, 0, 0)) := by decide +kernel
theorem s_X10_signed_27 {ca : Nat → List Value → tM → tO} {M : tM} {L : tL} {x : Int32} : rn ca C_X10_signed 27 L [.int x] M = some (some (.int x), M) := (rn_at k_X10_signed_27).trans rfl
theorem k_X10_plan_0 : lk 0 C_X10_plan = some (.aload_n 0, (0, 0, 0, 0)) := by decide +kernel
theorem s_X10_plan_0 {ca : Nat → List Value → tM → tO} {M : tM} {a1 a2 : Option Value} {x : Nat} {S : List Value} : rn ca C_X10_plan 0 [some (.ref x), a1, a2] S M = rn ca C_X10_plan 1 [some (.ref x), a1, a2] (.ref x :: S) M := (rn_at k_X10_plan_0).trans rfl
theorem k_X10_plan_1 : lk 1 C_X10_plan = some (.iload_n 1, (0, 0, 0, 0)) := by decide +kernel
theorem s_X10_plan_1 {ca : Nat → List Value → tM → tO} {M : tM} {a0 a2 : Option Value} {x : Int32} {S : List Value} : rn ca C_X10_plan 1 [a0, some (.int x), a2] S M = rn ca C_X10_plan 2 [a0, some (.int x), a2] (.int x :: S) M := (rn_at k_X10_plan_1).trans rfl
theorem k_X10_plan_2 : lk 2 C_X10_plan = some (.invokevirtual 109, (135, 1, 10, 208)) := by decide +kernel
theorem s_X10_plan_2 {ca : Nat → List Value → tM → tO} {M : tM} {L : tL} {v1 : Value} {b : Nat} : rn ca C_X10_plan 2 L [v1, .ref b] M = if clsO b = some 10 then rnk ca C_X10_plan 5 L [] (ca m_X10_rowRefusal [.ref b, v1] M) else none := (rn_at k_X10_plan_2).trans rnx_ite
theorem k_X10_plan_5 : lk 5 C_X10_plan = some (.istore_n 2, (0, 0, 0, 0)) := by decide +kernel
theorem s_X10_plan_5 {ca : Nat → List Value → tM → tO} {M : tM} {a0 a1 a2 : Option Value} {x : Int32} {S : List Value} : rn ca C_X10_plan 5 [a0, a1, a2] (.int x :: S) M = rn ca C_X10_plan 6 [a0, a1, some (.int x)] S M := (rn_at k_X10_plan_5).trans rfl
theorem k_X10_plan_6 : lk 6 C_X10_plan = some (.iload_n 2, (0, 0, 0, 0)) := by decide +kernel
theorem s_X10_plan_6 {ca : Nat → List Value → tM → tO} {M : tM} {a0 a1 : Option Value} {x : Int32} {S : List Value} : rn ca C_X10_plan 6 [a0, a1, some (.int x)] S M = rn ca C_X10_plan 7 [a0, a1, some (.int x)] (.int x :: S) M := (rn_at k_X10_plan_6).trans rfl
theorem k_X10_plan_7 : lk 7 C_X10_plan = some (.ifCond .ge 9, (16, 0, 0, 0)) := by decide +kernel
theorem s_X10_plan_7 {ca : Nat → List Value → tM → tO} {M : tM} {L : tL} {x : Int32} {S : List Value} : rn ca C_X10_plan 7 L (.int x :: S) M = if iI 0 ≤ x then rn ca C_X10_plan 16 L S M else rn ca C_X10_plan 10 L S M := (rn_at k_X10_plan_7).trans rnx_ite
theorem k_X10_plan_10 : lk 10 C_X10_plan = some (.aload_n 0, (0, 0, 0, 0)) := by decide +kernel
theorem s_X10_plan_10 {ca : Nat → List Value → tM → tO} {M : tM} {a1 a2 : Option Value} {x : Nat} {S : List Value} : rn ca C_X10_plan 10 [some (.ref x), a1, a2] S M = rn ca C_X10_plan 11 [some (.ref x), a1, a2] (.ref x :: S) M := (rn_at k_X10_plan_10).trans rfl
theorem k_X10_plan_11 : lk 11 C_X10_plan = some (.iload_n 2, (0, 0, 0, 0)) := by decide +kernel
theorem s_X10_plan_11 {ca : Nat → List Value → tM → tO} {M : tM} {a0 a1 : Option Value} {x : Int32} {S : List Value} : rn ca C_X10_plan 11 [a0, a1, some (.int x)] S M = rn ca C_X10_plan 12 [a0, a1, some (.int x)] (.int x :: S) M := (rn_at k_X10_plan_11).trans rfl
theorem k_X10_plan_12 : lk 12 C_X10_plan = some (.invokevirtual 101, (134, 1, 10, 175)) := by decide +kernel
theorem s_X10_plan_12 {ca : Nat → List Value → tM → tO} {M : tM} {L : tL} {v1 : Value} {b : Nat} : rn ca C_X10_plan 12 L [v1, .ref b] M = if clsO b = some 10 then rnk ca C_X10_plan 15 L [] (ca m_X10_refuse [.ref b, v1] M) else none := (rn_at k_X10_plan_12).trans rnx_ite
theorem k_X10_plan_15 : lk 15 C_X10_plan = some (.ireturn, (0, 0, 0, 0)) := by decide +kernel
theorem s_X10_plan_15 {ca : Nat → List Value → tM → tO} {M : tM} {L : tL} {x : Int32} : rn ca C_X10_plan 15 L [.int x] M = some (some (.int x), M) := (rn_at k_X10_plan_15).trans rfl
theorem k_X10_plan_16 : lk 16 C_X10_plan = some (.aload_n 0, (0, 0, 0, 0)) := by decide +kernel
theorem s_X10_plan_16 {ca : Nat → List Value → tM → tO} {M : tM} {a1 a2 : Option Value} {x : Nat} {S : List Value} : rn ca C_X10_plan 16 [some (.ref x), a1, a2] S M = rn ca C_X10_plan 17 [some (.ref x), a1, a2] (.ref x :: S) M := (rn_at k_X10_plan_16).trans rfl
theorem k_X10_plan_17 : lk 17 C_X10_plan = some (.getfield 19, (10, 2, 0, 18)) := by decide +kernel
theorem s_X10_plan_17 {ca : Nat → List Value → tM → tO} {M : tM} {L : tL} {b : Nat} {S : List Value} : rn ca C_X10_plan 17 L (.ref b :: S) M = if clsO b = some 10 then rn ca C_X10_plan 20 L (fv M b 2 :: S) M else none := (rn_at k_X10_plan_17).trans rnx_ite
theorem k_X10_plan_20 : lk 20 C_X10_plan = some (.aload_n 0, (0, 0, 0, 0)) := by decide +kernel
theorem s_X10_plan_20 {ca : Nat → List Value → tM → tO} {M : tM} {a1 a2 : Option Value} {x : Nat} {S : List Value} : rn ca C_X10_plan 20 [some (.ref x), a1, a2] S M = rn ca C_X10_plan 21 [some (.ref x), a1, a2] (.ref x :: S) M := (rn_at k_X10_plan_20).trans rfl
theorem k_X10_plan_21 : lk 21 C_X10_plan = some (.getfield 10, (10, 0, 0, 16)) := by decide +kernel
theorem s_X10_plan_21 {ca : Nat → List Value → tM → tO} {M : tM} {L : tL} {b : Nat} {S : List Value} : rn ca C_X10_plan 21 L (.ref b :: S) M = if clsO b = some 10 then rn ca C_X10_plan 24 L (fv M b 0 :: S) M else none := (rn_at k_X10_plan_21).trans rnx_ite
theorem k_X10_plan_24 : lk 24 C_X10_plan = some (.invokevirtual 224, (29, 1, 4, 481)) := by decide +kernel
theorem s_X10_plan_24 {ca : Nat → List Value → tM → tO} {M : tM} {L : tL} {v1 : Value} {b : Nat} : rn ca C_X10_plan 24 L [v1, .ref b] M = if clsO b = some 4 then rnk ca C_X10_plan 27 L [] (ca m_X4_takeOver [.ref b, v1] M) else none := (rn_at k_X10_plan_24).trans rnx_ite
theorem k_X10_plan_27 : lk 27 C_X10_plan = some (.aload_n 0, (0, 0, 0, 0)) := by decide +kernel
theorem s_X10_plan_27 {ca : Nat → List Value → tM → tO} {M : tM} {a1 a2 : Option Value} {x : Nat} {S : List Value} : rn ca C_X10_plan 27 [some (.ref x), a1, a2] S M = rn ca C_X10_plan 28 [some (.ref x), a1, a2] (.ref x :: S) M := (rn_at k_X10_plan_27).trans rfl
theorem k_X10_plan_28 : lk 28 C_X10_plan = some (.aload_n 0, (0, 0, 0, 0)) := by decide +kernel
theorem s_X10_plan_28 {ca : Nat → List Value → tM → tO} {M : tM} {a1 a2 : Option Value} {x : Nat} {S : List Value} : rn ca C_X10_plan 28 [some (.ref x), a1, a2] S M = rn ca C_X10_plan 29 [some (.ref x), a1, a2] (.ref x :: S) M := (rn_at k_X10_plan_28).trans rfl
theorem k_X10_plan_29 : lk 29 C_X10_plan = some (.getfield 67, (10, 9, 0, 46)) := by decide +kernel
theorem s_X10_plan_29 {ca : Nat → List Value → tM → tO} {M : tM} {L : tL} {b : Nat} {S : List Value} : rn ca C_X10_plan 29 L (.ref b :: S) M = if clsO b = some 10 then rn ca C_X10_plan 32 L (fv M b 9 :: S) M else none := (rn_at k_X10_plan_29).trans rnx_ite
theorem k_X10_plan_32 : lk 32 C_X10_plan = some (.aload_n 0, (0, 0, 0, 0)) := by decide +kernel
theorem s_X10_plan_32 {ca : Nat → List Value → tM → tO} {M : tM} {a1 a2 : Option Value} {x : Nat} {S : List Value} : rn ca C_X10_plan 32 [some (.ref x), a1, a2] S M = rn ca C_X10_plan 33 [some (.ref x), a1, a2] (.ref x :: S) M := (rn_at k_X10_plan_32).trans rfl
theorem k_X10_plan_33 : lk 33 C_X10_plan = some (.getfield 25, (10, 3, 0, 22)) := by decide +kernel
theorem s_X10_plan_33 {ca : Nat → List Value → tM → tO} {M : tM} {L : tL} {b : Nat} {S : List Value} : rn ca C_X10_plan 33 L (.ref b :: S) M = if clsO b = some 10 then rn ca C_X10_plan 36 L (fv M b 3 :: S) M else none := (rn_at k_X10_plan_33).trans rnx_ite
theorem k_X10_plan_36 : lk 36 C_X10_plan = some (.iload_n 1, (0, 0, 0, 0)) := by decide +kernel
theorem s_X10_plan_36 {ca : Nat → List Value → tM → tO} {M : tM} {a0 a2 : Option Value} {x : Int32} {S : List Value} : rn ca C_X10_plan 36 [a0, some (.int x), a2] S M = rn ca C_X10_plan 37 [a0, some (.int x), a2] (.int x :: S) M := (rn_at k_X10_plan_36).trans rfl
theorem k_X10_plan_37 : lk 37 C_X10_plan = some (.aload_n 0, (0, 0, 0, 0)) := by decide +kernel
theorem s_X10_plan_37 {ca : Nat → List Value → tM → tO} {M : tM} {a1 a2 : Option Value} {x : Nat} {S : List Value} : rn ca C_X10_plan 37 [some (.ref x), a1, a2] S M = rn ca C_X10_plan 38 [some (.ref x), a1, a2] (.ref x :: S) M := (rn_at k_X10_plan_37).trans rfl
theorem k_X10_plan_38 : lk 38 C_X10_plan = some (.getfield 19, (10, 2, 0, 18)) := by decide +kernel
theorem s_X10_plan_38 {ca : Nat → List Value → tM → tO} {M : tM} {L : tL} {b : Nat} {S : List Value} : rn ca C_X10_plan 38 L (.ref b :: S) M = if clsO b = some 10 then rn ca C_X10_plan 41 L (fv M b 2 :: S) M else none := (rn_at k_X10_plan_38).trans rnx_ite
theorem k_X10_plan_41 : lk 41 C_X10_plan = some (.invokevirtual 228, (44, 3, 6, 486)) := by decide +kernel
theorem s_X10_plan_41 {ca : Nat → List Value → tM → tO} {M : tM} {L : tL} {v1 v2 v3 : Value} {r0 : Nat} {b : Nat} : rn ca C_X10_plan 41 L [v3, v2, v1, .ref b, .ref r0] M = if clsO b = some 6 then rnk ca C_X10_plan 44 L [.ref r0] (ca m_X6_findFault [.ref b, v1, v2, v3] M) else none := (rn_at k_X10_plan_41).trans rnx_ite
theorem k_X10_plan_44 : lk 44 C_X10_plan = some (.putfield 93, (10, 14, 0, 58)) := by decide +kernel
theorem s_X10_plan_44 {ca : Nat → List Value → tM → tO} {M : tM} {L : tL} {b : Nat} {v : Int32} {S : List Value} : rn ca C_X10_plan 44 L (.int v :: .ref b :: S) M = if clsO b = some 10 then rn ca C_X10_plan 47 L S (sI M b 14 v) else none := (rn_at k_X10_plan_44).trans rnx_ite
theorem k_X10_plan_47 : lk 47 C_X10_plan = some (.aload_n 0, (0, 0, 0, 0)) := by decide +kernel
theorem s_X10_plan_47 {ca : Nat → List Value → tM → tO} {M : tM} {a1 a2 : Option Value} {x : Nat} {S : List Value} : rn ca C_X10_plan 47 [some (.ref x), a1, a2] S M = rn ca C_X10_plan 48 [some (.ref x), a1, a2] (.ref x :: S) M := (rn_at k_X10_plan_47).trans rfl
theorem k_X10_plan_48 : lk 48 C_X10_plan = some (.getfield 93, (10, 14, 0, 58)) := by decide +kernel
theorem s_X10_plan_48 {ca : Nat → List Value → tM → tO} {M : tM} {L : tL} {b : Nat} {S : List Value} : rn ca C_X10_plan 48 L (.ref b :: S) M = if clsO b = some 10 then rn ca C_X10_plan 51 L (fv M b 14 :: S) M else none := (rn_at k_X10_plan_48).trans rnx_ite
theorem k_X10_plan_51 : lk 51 C_X10_plan = some (.iconst (-1), (0, 0, 0, 0)) := by decide +kernel
theorem s_X10_plan_51 {ca : Nat → List Value → tM → tO} {M : tM} {L : tL} {S : List Value} : rn ca C_X10_plan 51 L S M = rn ca C_X10_plan 52 L (.int (iI (-1)) :: S) M := (rn_at k_X10_plan_51).trans rfl
theorem k_X10_plan_52 : lk 52 C_X10_plan = some (.if_icmp .eq 10, (62, 0, 0, 0)) := by decide +kernel
theorem s_X10_plan_52 {ca : Nat → List Value → tM → tO} {M : tM} {L : tL} {x y : Int32} {S : List Value} : rn ca C_X10_plan 52 L (.int y :: .int x :: S) M = if x = y then rn ca C_X10_plan 62 L S M else rn ca C_X10_plan 55 L S M := (rn_at k_X10_plan_52).trans rnx_ite
theorem k_X10_plan_55 : lk 55 C_X10_plan = some (.aload_n 0, (0, 0, 0, 0)) := by decide +kernel
theorem s_X10_plan_55 {ca : Nat → List Value → tM → tO} {M : tM} {a1 a2 : Option Value} {x : Nat} {S : List Value} : rn ca C_X10_plan 55 [some (.ref x), a1, a2] S M = rn ca C_X10_plan 56 [some (.ref x), a1, a2] (.ref x :: S) M := (rn_at k_X10_plan_55).trans rfl
theorem k_X10_plan_56 : lk 56 C_X10_plan = some (.bipush (-6), (0, 0, 0, 0)) := by decide +kernel
theorem s_X10_plan_56 {ca : Nat → List Value → tM → tO} {M : tM} {L : tL} {S : List Value} : rn ca C_X10_plan 56 L S M = rn ca C_X10_plan 58 L (.int (iI (-6)) :: S) M := (rn_at k_X10_plan_56).trans rfl
theorem k_X10_plan_58 : lk 58 C_X10_plan = some (.invokevirtual 101, (134, 1, 10, 175)) := by decide +kernel
theorem s_X10_plan_58 {ca : Nat → List Value → tM → tO} {M : tM} {L : tL} {v1 : Value} {b : Nat} : rn ca C_X10_plan 58 L [v1, .ref b] M = if clsO b = some 10 then rnk ca C_X10_plan 61 L [] (ca m_X10_refuse [.ref b, v1] M) else none := (rn_at k_X10_plan_58).trans rnx_ite
theorem k_X10_plan_61 : lk 61 C_X10_plan = some (.ireturn, (0, 0, 0, 0)) := by decide +kernel
theorem s_X10_plan_61 {ca : Nat → List Value → tM → tO} {M : tM} {L : tL} {x : Int32} : rn ca C_X10_plan 61 L [.int x] M = some (some (.int x), M) := (rn_at k_X10_plan_61).trans rfl
theorem k_X10_plan_62 : lk 62 C_X10_plan = some (.aload_n 0, (0, 0, 0, 0)) := by decide +kernel
theorem s_X10_plan_62 {ca : Nat → List Value → tM → tO} {M : tM} {a1 a2 : Option Value} {x : Nat} {S : List Value} : rn ca C_X10_plan 62 [some (.ref x), a1, a2] S M = rn ca C_X10_plan 63 [some (.ref x), a1, a2] (.ref x :: S) M := (rn_at k_X10_plan_62).trans rfl
theorem k_X10_plan_63 : lk 63 C_X10_plan = some (.getfield 10, (10, 0, 0, 16)) := by decide +kernel
theorem s_X10_plan_63 {ca : Nat → List Value → tM → tO} {M : tM} {L : tL} {b : Nat} {S : List Value} : rn ca C_X10_plan 63 L (.ref b :: S) M = if clsO b = some 10 then rn ca C_X10_plan 66 L (fv M b 0 :: S) M else none := (rn_at k_X10_plan_63).trans rnx_ite
theorem k_X10_plan_66 : lk 66 C_X10_plan = some (.aload_n 0, (0, 0, 0, 0)) := by decide +kernel
theorem s_X10_plan_66 {ca : Nat → List Value → tM → tO} {M : tM} {a1 a2 : Option Value} {x : Nat} {S : List Value} : rn ca C_X10_plan 66 [some (.ref x), a1, a2] S M = rn ca C_X10_plan 67 [some (.ref x), a1, a2] (.ref x :: S) M := (rn_at k_X10_plan_66).trans rfl
theorem k_X10_plan_67 : lk 67 C_X10_plan = some (.getfield 19, (10, 2, 0, 18)) := by decide +kernel
theorem s_X10_plan_67 {ca : Nat → List Value → tM → tO} {M : tM} {L : tL} {b : Nat} {S : List Value} : rn ca C_X10_plan 67 L (.ref b :: S) M = if clsO b = some 10 then rn ca C_X10_plan 70 L (fv M b 2 :: S) M else none := (rn_at k_X10_plan_67).trans rnx_ite
theorem k_X10_plan_70 : lk 70 C_X10_plan = some (.invokevirtual 224, (29, 1, 4, 481)) := by decide +kernel
theorem s_X10_plan_70 {ca : Nat → List Value → tM → tO} {M : tM} {L : tL} {v1 : Value} {b : Nat} : rn ca C_X10_plan 70 L [v1, .ref b] M = if clsO b = some 4 then rnk ca C_X10_plan 73 L [] (ca m_X4_takeOver [.ref b, v1] M) else none := (rn_at k_X10_plan_70).trans rnx_ite
theorem k_X10_plan_73 : lk 73 C_X10_plan = some (.aload_n 0, (0, 0, 0, 0)) := by decide +kernel
theorem s_X10_plan_73 {ca : Nat → List Value → tM → tO} {M : tM} {a1 a2 : Option Value} {x : Nat} {S : List Value} : rn ca C_X10_plan 73 [some (.ref x), a1, a2] S M = rn ca C_X10_plan 74 [some (.ref x), a1, a2] (.ref x :: S) M := (rn_at k_X10_plan_73).trans rfl
theorem k_X10_plan_74 : lk 74 C_X10_plan = some (.getfield 67, (10, 9, 0, 46)) := by decide +kernel
theorem s_X10_plan_74 {ca : Nat → List Value → tM → tO} {M : tM} {L : tL} {b : Nat} {S : List Value} : rn ca C_X10_plan 74 L (.ref b :: S) M = if clsO b = some 10 then rn ca C_X10_plan 77 L (fv M b 9 :: S) M else none := (rn_at k_X10_plan_74).trans rnx_ite
theorem k_X10_plan_77 : lk 77 C_X10_plan = some (.getfield 232, (6, 5, 0, 100042)) := by decide +kernel
theorem s_X10_plan_77 {ca : Nat → List Value → tM → tO} {M : tM} {L : tL} {b : Nat} {S : List Value} : rn ca C_X10_plan 77 L (.ref b :: S) M = if clsO b = some 6 then rn ca C_X10_plan 80 L (fv M b 5 :: S) M else none := (rn_at k_X10_plan_77).trans rnx_ite
theorem k_X10_plan_80 : lk 80 C_X10_plan = some (.ireturn, (0, 0, 0, 0)) := by decide +kernel
theorem s_X10_plan_80 {ca : Nat → List Value → tM → tO} {M : tM} {L : tL} {x : Int32} : rn ca C_X10_plan 80 L [.int x] M = some (some (.int x), M) := (rn_at k_X10_plan_80).trans rfl
theorem k_X10_fault_0 : lk 0 C_X10_fault = some (.aload_n 0, (0, 0, 0, 0)) := by decide +kernel
theorem s_X10_fault_0 {ca : Nat → List Value → tM → tO} {M : tM} {x : Nat} {S : List Value} : rn ca C_X10_fault 0 [some (.ref x)] S M = rn ca C_X10_fault 1 [some (.ref x)] (.ref x :: S) M := (rn_at k_X10_fault_0).trans rfl
theorem k_X10_fault_1 : lk 1 C_X10_fault = some (.getfield 93, (10, 14, 0, 58)) := by decide +kernel
theorem s_X10_fault_1 {ca : Nat → List Value → tM → tO} {M : tM} {L : tL} {b : Nat} {S : List Value} : rn ca C_X10_fault 1 L (.ref b :: S) M = if clsO b = some 10 then rn ca C_X10_fault 4 L (fv M b 14 :: S) M else none := (rn_at k_X10_fault_1).trans rnx_ite
theorem k_X10_fault_4 : lk 4 C_X10_fault = some (.ireturn, (0, 0, 0, 0)) := by decide +kernel
theorem s_X10_fault_4 {ca : Nat → List Value → tM → tO} {M : tM} {L : tL} {x : Int32} : rn ca C_X10_fault 4 L [.int x] M = some (some (.int x), M) := (rn_at k_X10_fault_4).trans rfl
theorem k_X10_time_0 : lk 0 C_X10_time = some (.aload_n 0, (0, 0, 0, 0)) := by decide +kernel
theorem s_X10_time_0 {ca : Nat → List Value → tM → tO} {M : tM} {a1 a2 : Option Value} {x : Nat} {S : List Value} : rn ca C_X10_time 0 [some (.ref x), a1, a2] S M = rn ca C_X10_time 1 [some (.ref x), a1, a2] (.ref x :: S) M := (rn_at k_X10_time_0).trans rfl
theorem k_X10_time_1 : lk 1 C_X10_time = some (.getfield 10, (10, 0, 0, 16)) := by decide +kernel
theorem s_X10_time_1 {ca : Nat → List Value → tM → tO} {M : tM} {L : tL} {b : Nat} {S : List Value} : rn ca C_X10_time 1 L (.ref b :: S) M = if clsO b = some 10 then rn ca C_X10_time 4 L (fv M b 0 :: S) M else none := (rn_at k_X10_time_1).trans rnx_ite
theorem k_X10_time_4 : lk 4 C_X10_time = some (.iload_n 1, (0, 0, 0, 0)) := by decide +kernel
theorem s_X10_time_4 {ca : Nat → List Value → tM → tO} {M : tM} {a0 a2 : Option Value} {x : Int32} {S : List Value} : rn ca C_X10_time 4 [a0, some (.int x), a2] S M = rn ca C_X10_time 5 [a0, some (.int x), a2] (.int x :: S) M := (rn_at k_X10_time_4).trans rfl
theorem k_X10_time_5 : lk 5 C_X10_time = some (.invokevirtual 135, (20, 1, 4, 290)) := by decide +kernel
theorem s_X10_time_5 {ca : Nat → List Value → tM → tO} {M : tM} {L : tL} {v1 : Value} {b : Nat} : rn ca C_X10_time 5 L [v1, .ref b] M = if clsO b = some 4 then rnk ca C_X10_time 8 L [] (ca m_X4_hasCapsule [.ref b, v1] M) else none := (rn_at k_X10_time_5).trans rnx_ite
theorem k_X10_time_8 : lk 8 C_X10_time = some (.ifCond .eq 14, (22, 0, 0, 0)) := by decide +kernel
theorem s_X10_time_8 {ca : Nat → List Value → tM → tO} {M : tM} {L : tL} {x : Int32} {S : List Value} : rn ca C_X10_time 8 L (.int x :: S) M = if x = iI 0 then rn ca C_X10_time 22 L S M else rn ca C_X10_time 11 L S M := (rn_at k_X10_time_8).trans rnx_ite
theorem k_X10_time_11 : lk 11 C_X10_time = some (.aload_n 0, (0, 0, 0, 0)) := by decide +kernel
theorem s_X10_time_11 {ca : Nat → List Value → tM → tO} {M : tM} {a1 a2 : Option Value} {x : Nat} {S : List Value} : rn ca C_X10_time 11 [some (.ref x), a1, a2] S M = rn ca C_X10_time 12 [some (.ref x), a1, a2] (.ref x :: S) M := (rn_at k_X10_time_11).trans rfl
theorem k_X10_time_12 : lk 12 C_X10_time = some (.getfield 10, (10, 0, 0, 16)) := by decide +kernel
theorem s_X10_time_12 {ca : Nat → List Value → tM → tO} {M : tM} {L : tL} {b : Nat} {S : List Value} : rn ca C_X10_time 12 L (.ref b :: S) M = if clsO b = some 10 then rn ca C_X10_time 15 L (fv M b 0 :: S) M else none := (rn_at k_X10_time_12).trans rnx_ite
theorem k_X10_time_15 : lk 15 C_X10_time = some (.iload_n 2, (0, 0, 0, 0)) := by decide +kernel
theorem s_X10_time_15 {ca : Nat → List Value → tM → tO} {M : tM} {a0 a1 : Option Value} {x : Int32} {S : List Value} : rn ca C_X10_time 15 [a0, a1, some (.int x)] S M = rn ca C_X10_time 16 [a0, a1, some (.int x)] (.int x :: S) M := (rn_at k_X10_time_15).trans rfl
theorem k_X10_time_16 : lk 16 C_X10_time = some (.invokevirtual 196, (19, 1, 4, 430)) := by decide +kernel
theorem s_X10_time_16 {ca : Nat → List Value → tM → tO} {M : tM} {L : tL} {v1 : Value} {b : Nat} : rn ca C_X10_time 16 L [v1, .ref b] M = if clsO b = some 4 then rnk ca C_X10_time 19 L [] (ca m_X4_hasTube [.ref b, v1] M) else none := (rn_at k_X10_time_16).trans rnx_ite
theorem k_X10_time_19 : lk 19 C_X10_time = some (.ifCond .ne 9, (28, 0, 0, 0)) := by decide +kernel
theorem s_X10_time_19 {ca : Nat → List Value → tM → tO} {M : tM} {L : tL} {x : Int32} {S : List Value} : rn ca C_X10_time 19 L (.int x :: S) M = if ¬ x = iI 0 then rn ca C_X10_time 28 L S M else rn ca C_X10_time 22 L S M := (rn_at k_X10_time_19).trans rnx_ite
theorem k_X10_time_22 : lk 22 C_X10_time = some (.aload_n 0, (0, 0, 0, 0)) := by decide +kernel
theorem s_X10_time_22 {ca : Nat → List Value → tM → tO} {M : tM} {a1 a2 : Option Value} {x : Nat} {S : List Value} : rn ca C_X10_time 22 [some (.ref x), a1, a2] S M = rn ca C_X10_time 23 [some (.ref x), a1, a2] (.ref x :: S) M := (rn_at k_X10_time_22).trans rfl
theorem k_X10_time_23 : lk 23 C_X10_time = some (.iconst (-1), (0, 0, 0, 0)) := by decide +kernel
theorem s_X10_time_23 {ca : Nat → List Value → tM → tO} {M : tM} {L : tL} {S : List Value} : rn ca C_X10_time 23 L S M = rn ca C_X10_time 24 L (.int (iI (-1)) :: S) M := (rn_at k_X10_time_23).trans rfl
theorem k_X10_time_24 : lk 24 C_X10_time = some (.invokevirtual 101, (134, 1, 10, 175)) := by decide +kernel
theorem s_X10_time_24 {ca : Nat → List Value → tM → tO} {M : tM} {L : tL} {v1 : Value} {b : Nat} : rn ca C_X10_time 24 L [v1, .ref b] M = if clsO b = some 10 then rnk ca C_X10_time 27 L [] (ca m_X10_refuse [.ref b, v1] M) else none := (rn_at k_X10_time_24).trans rnx_ite
theorem k_X10_time_27 : lk 27 C_X10_time = some (.ireturn, (0, 0, 0, 0)) := by decide +kernel
theorem s_X10_time_27 {ca : Nat → List Value → tM → tO} {M : tM} {L : tL} {x : Int32} : rn ca C_X10_time 27 L [.int x] M = some (some (.int x), M) := (rn_at k_X10_time_27).trans rfl
theorem k_X10_time_28 : lk 28 C_X10_time = some (.aload_n 0, (0, 0, 0, 0)) := by decide +kernel
theorem s_X10_time_28 {ca : Nat → List Value → tM → tO} {M : tM} {a1 a2 : Option Value} {x : Nat} {S : List Value} : rn ca C_X10_time 28 [some (.ref x), a1, a2] S M = rn ca C_X10_time 29 [some (.ref x), a1, a2] (.ref x :: S) M := (rn_at k_X10_time_28).trans rfl
theorem k_X10_time_29 : lk 29 C_X10_time = some (.getfield 10, (10, 0, 0, 16)) := by decide +kernel
theorem s_X10_time_29 {ca : Nat → List Value → tM → tO} {M : tM} {L : tL} {b : Nat} {S : List Value} : rn ca C_X10_time 29 L (.ref b :: S) M = if clsO b = some 10 then rn ca C_X10_time 32 L (fv M b 0 :: S) M else none := (rn_at k_X10_time_29).trans rnx_ite
theorem k_X10_time_32 : lk 32 C_X10_time = some (.iload_n 1, (0, 0, 0, 0)) := by decide +kernel
theorem s_X10_time_32 {ca : Nat → List Value → tM → tO} {M : tM} {a0 a2 : Option Value} {x : Int32} {S : List Value} : rn ca C_X10_time 32 [a0, some (.int x), a2] S M = rn ca C_X10_time 33 [a0, some (.int x), a2] (.int x :: S) M := (rn_at k_X10_time_32).trans rfl
theorem k_X10_time_33 : lk 33 C_X10_time = some (.iload_n 2, (0, 0, 0, 0)) := by decide +kernel
theorem s_X10_time_33 {ca : Nat → List Value → tM → tO} {M : tM} {a0 a1 : Option Value} {x : Int32} {S : List Value} : rn ca C_X10_time 33 [a0, a1, some (.int x)] S M = rn ca C_X10_time 34 [a0, a1, some (.int x)] (.int x :: S) M := (rn_at k_X10_time_33).trans rfl
theorem k_X10_time_34 : lk 34 C_X10_time = some (.aload_n 0, (0, 0, 0, 0)) := by decide +kernel
theorem s_X10_time_34 {ca : Nat → List Value → tM → tO} {M : tM} {a1 a2 : Option Value} {x : Nat} {S : List Value} : rn ca C_X10_time 34 [some (.ref x), a1, a2] S M = rn ca C_X10_time 35 [some (.ref x), a1, a2] (.ref x :: S) M := (rn_at k_X10_time_34).trans rfl
theorem k_X10_time_35 : lk 35 C_X10_time = some (.getfield 10, (10, 0, 0, 16)) := by decide +kernel
theorem s_X10_time_35 {ca : Nat → List Value → tM → tO} {M : tM} {L : tL} {b : Nat} {S : List Value} : rn ca C_X10_time 35 L (.ref b :: S) M = if clsO b = some 10 then rn ca C_X10_time 38 L (fv M b 0 :: S) M else none := (rn_at k_X10_time_35).trans rnx_ite
theorem k_X10_time_38 : lk 38 C_X10_time = some (.getfield 206, (4, 13, 0, 100034)) := by decide +kernel
theorem s_X10_time_38 {ca : Nat → List Value → tM → tO} {M : tM} {L : tL} {b : Nat} {S : List Value} : rn ca C_X10_time 38 L (.ref b :: S) M = if clsO b = some 4 then rn ca C_X10_time 41 L (fv M b 13 :: S) M else none := (rn_at k_X10_time_38).trans rnx_ite
theorem k_X10_time_41 : lk 41 C_X10_time = some (.invokevirtual 235, (30, 3, 4, 663)) := by decide +kernel
theorem s_X10_time_41 {ca : Nat → List Value → tM → tO} {M : tM} {L : tL} {v1 v2 v3 : Value} {b : Nat} : rn ca C_X10_time 41 L [v3, v2, v1, .ref b] M = if clsO b = some 4 then rnk ca C_X10_time 44 L [] (ca m_X4_minutesThrough [.ref b, v1, v2, v3] M) else none := (rn_at k_X10_time_41).trans rnx_ite
theorem k_X10_time_44 : lk 44 C_X10_time = some (.ireturn, (0, 0, 0, 0)) := by decide +kernel
theorem s_X10_time_44 {ca : Nat → List Value → tM → tO} {M : tM} {L : tL} {x : Int32} : rn ca C_X10_time 44 L [.int x] M = some (some (.int x), M) := (rn_at k_X10_time_44).trans rfl
theorem k_X10_way_0 : lk 0 C_X10_way = some (.aload_n 0, (0, 0, 0, 0)) := by decide +kernel
theorem s_X10_way_0 {ca : Nat → List Value → tM → tO} {M : tM} {a1 a2 a3 : Option Value} {x : Nat} {S : List Value} : rn ca C_X10_way 0 [some (.ref x), a1, a2, a3] S M = rn ca C_X10_way 1 [some (.ref x), a1, a2, a3] (.ref x :: S) M := (rn_at k_X10_way_0).trans rfl
theorem k_X10_way_1 : lk 1 C_X10_way = some (.getfield 10, (10, 0, 0, 16)) := by decide +kernel
theorem s_X10_way_1 {ca : Nat → List Value → tM → tO} {M : tM} {L : tL} {b : Nat} {S : List Value} : rn ca C_X10_way 1 L (.ref b :: S) M = if clsO b = some 10 then rn ca C_X10_way 4 L (fv M b 0 :: S) M else none := (rn_at k_X10_way_1).trans rnx_ite
theorem k_X10_way_4 : lk 4 C_X10_way = some (.iload_n 1, (0, 0, 0, 0)) := by decide +kernel
theorem s_X10_way_4 {ca : Nat → List Value → tM → tO} {M : tM} {a0 a2 a3 : Option Value} {x : Int32} {S : List Value} : rn ca C_X10_way 4 [a0, some (.int x), a2, a3] S M = rn ca C_X10_way 5 [a0, some (.int x), a2, a3] (.int x :: S) M := (rn_at k_X10_way_4).trans rfl
theorem k_X10_way_5 : lk 5 C_X10_way = some (.invokevirtual 135, (20, 1, 4, 290)) := by decide +kernel
theorem s_X10_way_5 {ca : Nat → List Value → tM → tO} {M : tM} {L : tL} {v1 : Value} {b : Nat} : rn ca C_X10_way 5 L [v1, .ref b] M = if clsO b = some 4 then rnk ca C_X10_way 8 L [] (ca m_X4_hasCapsule [.ref b, v1] M) else none := (rn_at k_X10_way_5).trans rnx_ite
theorem k_X10_way_8 : lk 8 C_X10_way = some (.ifCond .eq 14, (22, 0, 0, 0)) := by decide +kernel
theorem s_X10_way_8 {ca : Nat → List Value → tM → tO} {M : tM} {L : tL} {x : Int32} {S : List Value} : rn ca C_X10_way 8 L (.int x :: S) M = if x = iI 0 then rn ca C_X10_way 22 L S M else rn ca C_X10_way 11 L S M := (rn_at k_X10_way_8).trans rnx_ite
theorem k_X10_way_11 : lk 11 C_X10_way = some (.aload_n 0, (0, 0, 0, 0)) := by decide +kernel
theorem s_X10_way_11 {ca : Nat → List Value → tM → tO} {M : tM} {a1 a2 a3 : Option Value} {x : Nat} {S : List Value} : rn ca C_X10_way 11 [some (.ref x), a1, a2, a3] S M = rn ca C_X10_way 12 [some (.ref x), a1, a2, a3] (.ref x :: S) M := (rn_at k_X10_way_11).trans rfl
theorem k_X10_way_12 : lk 12 C_X10_way = some (.getfield 10, (10, 0, 0, 16)) := by decide +kernel
theorem s_X10_way_12 {ca : Nat → List Value → tM → tO} {M : tM} {L : tL} {b : Nat} {S : List Value} : rn ca C_X10_way 12 L (.ref b :: S) M = if clsO b = some 10 then rn ca C_X10_way 15 L (fv M b 0 :: S) M else none := (rn_at k_X10_way_12).trans rnx_ite
theorem k_X10_way_15 : lk 15 C_X10_way = some (.iload_n 2, (0, 0, 0, 0)) := by decide +kernel
theorem s_X10_way_15 {ca : Nat → List Value → tM → tO} {M : tM} {a0 a1 a3 : Option Value} {x : Int32} {S : List Value} : rn ca C_X10_way 15 [a0, a1, some (.int x), a3] S M = rn ca C_X10_way 16 [a0, a1, some (.int x), a3] (.int x :: S) M := (rn_at k_X10_way_15).trans rfl
theorem k_X10_way_16 : lk 16 C_X10_way = some (.invokevirtual 174, (18, 1, 4, 368)) := by decide +kernel
theorem s_X10_way_16 {ca : Nat → List Value → tM → tO} {M : tM} {L : tL} {v1 : Value} {b : Nat} : rn ca C_X10_way 16 L [v1, .ref b] M = if clsO b = some 4 then rnk ca C_X10_way 19 L [] (ca m_X4_hasDesk [.ref b, v1] M) else none := (rn_at k_X10_way_16).trans rnx_ite
theorem k_X10_way_19 : lk 19 C_X10_way = some (.ifCond .ne 10, (29, 0, 0, 0)) := by decide +kernel
theorem s_X10_way_19 {ca : Nat → List Value → tM → tO} {M : tM} {L : tL} {x : Int32} {S : List Value} : rn ca C_X10_way 19 L (.int x :: S) M = if ¬ x = iI 0 then rn ca C_X10_way 29 L S M else rn ca C_X10_way 22 L S M := (rn_at k_X10_way_19).trans rnx_ite
theorem k_X10_way_22 : lk 22 C_X10_way = some (.aload_n 0, (0, 0, 0, 0)) := by decide +kernel
theorem s_X10_way_22 {ca : Nat → List Value → tM → tO} {M : tM} {a1 a2 a3 : Option Value} {x : Nat} {S : List Value} : rn ca C_X10_way 22 [some (.ref x), a1, a2, a3] S M = rn ca C_X10_way 23 [some (.ref x), a1, a2, a3] (.ref x :: S) M := (rn_at k_X10_way_22).trans rfl
theorem k_X10_way_23 : lk 23 C_X10_way = some (.bipush (-11), (0, 0, 0, 0)) := by decide +kernel
theorem s_X10_way_23 {ca : Nat → List Value → tM → tO} {M : tM} {L : tL} {S : List Value} : rn ca C_X10_way 23 L S M = rn ca C_X10_way 25 L (.int (iI (-11)) :: S) M := (rn_at k_X10_way_23).trans rfl
theorem k_X10_way_25 : lk 25 C_X10_way = some (.invokevirtual 101, (134, 1, 10, 175)) := by decide +kernel
theorem s_X10_way_25 {ca : Nat → List Value → tM → tO} {M : tM} {L : tL} {v1 : Value} {b : Nat} : rn ca C_X10_way 25 L [v1, .ref b] M = if clsO b = some 10 then rnk ca C_X10_way 28 L [] (ca m_X10_refuse [.ref b, v1] M) else none := (rn_at k_X10_way_25).trans rnx_ite
theorem k_X10_way_28 : lk 28 C_X10_way = some (.ireturn, (0, 0, 0, 0)) := by decide +kernel
theorem s_X10_way_28 {ca : Nat → List Value → tM → tO} {M : tM} {L : tL} {x : Int32} : rn ca C_X10_way 28 L [.int x] M = some (some (.int x), M) := (rn_at k_X10_way_28).trans rfl
theorem k_X10_way_29 : lk 29 C_X10_way = some (.iload_n 3, (0, 0, 0, 0)) := by decide +kernel
theorem s_X10_way_29 {ca : Nat → List Value → tM → tO} {M : tM} {a0 a1 a2 : Option Value} {x : Int32} {S : List Value} : rn ca C_X10_way 29 [a0, a1, a2, some (.int x)] S M = rn ca C_X10_way 30 [a0, a1, a2, some (.int x)] (.int x :: S) M := (rn_at k_X10_way_29).trans rfl
theorem k_X10_way_30 : lk 30 C_X10_way = some (.tableswitch 75 0 2 #[26, 47, 61], (0, 0, 0, 0)) := by decide +kernel
theorem s_X10_way_30 {ca : Nat → List Value → tM → tO} {M : tM} {L : tL} {x : Int32} {S : List Value} : rn ca C_X10_way 30 L (.int x :: S) M = if x = iI 0 then rn ca C_X10_way 56 L S M else if x = iI 1 then rn ca C_X10_way 77 L S M else if x = iI 2 then rn ca C_X10_way 91 L S M else rn ca C_X10_way 105 L S M := by rw [rn_at k_X10_way_30]; simp only [ta, tsw, lsw, rnx_ite]; rfl
theorem k_X10_way_56 : lk 56 C_X10_way = some (.aload_n 0, (0, 0, 0, 0)) := by decide +kernel
theorem s_X10_way_56 {ca : Nat → List Value → tM → tO} {M : tM} {a1 a2 a3 : Option Value} {x : Nat} {S : List Value} : rn ca C_X10_way 56 [some (.ref x), a1, a2, a3] S M = rn ca C_X10_way 57 [some (.ref x), a1, a2, a3] (.ref x :: S) M := (rn_at k_X10_way_56).trans rfl
theorem k_X10_way_57 : lk 57 C_X10_way = some (.getfield 32, (10, 4, 0, 26)) := by decide +kernel
theorem s_X10_way_57 {ca : Nat → List Value → tM → tO} {M : tM} {L : tL} {b : Nat} {S : List Value} : rn ca C_X10_way 57 L (.ref b :: S) M = if clsO b = some 10 then rn ca C_X10_way 60 L (fv M b 4 :: S) M else none := (rn_at k_X10_way_57).trans rnx_ite
theorem k_X10_way_60 : lk 60 C_X10_way = some (.aload_n 0, (0, 0, 0, 0)) := by decide +kernel
theorem s_X10_way_60 {ca : Nat → List Value → tM → tO} {M : tM} {a1 a2 a3 : Option Value} {x : Nat} {S : List Value} : rn ca C_X10_way 60 [some (.ref x), a1, a2, a3] S M = rn ca C_X10_way 61 [some (.ref x), a1, a2, a3] (.ref x :: S) M := (rn_at k_X10_way_60).trans rfl
theorem k_X10_way_61 : lk 61 C_X10_way = some (.getfield 10, (10, 0, 0, 16)) := by decide +kernel
theorem s_X10_way_61 {ca : Nat → List Value → tM → tO} {M : tM} {L : tL} {b : Nat} {S : List Value} : rn ca C_X10_way 61 L (.ref b :: S) M = if clsO b = some 10 then rn ca C_X10_way 64 L (fv M b 0 :: S) M else none := (rn_at k_X10_way_61).trans rnx_ite
theorem k_X10_way_64 : lk 64 C_X10_way = some (.iload_n 1, (0, 0, 0, 0)) := by decide +kernel
theorem s_X10_way_64 {ca : Nat → List Value → tM → tO} {M : tM} {a0 a2 a3 : Option Value} {x : Int32} {S : List Value} : rn ca C_X10_way 64 [a0, some (.int x), a2, a3] S M = rn ca C_X10_way 65 [a0, some (.int x), a2, a3] (.int x :: S) M := (rn_at k_X10_way_64).trans rfl
theorem k_X10_way_65 : lk 65 C_X10_way = some (.iload_n 2, (0, 0, 0, 0)) := by decide +kernel
theorem s_X10_way_65 {ca : Nat → List Value → tM → tO} {M : tM} {a0 a1 a3 : Option Value} {x : Int32} {S : List Value} : rn ca C_X10_way 65 [a0, a1, some (.int x), a3] S M = rn ca C_X10_way 66 [a0, a1, some (.int x), a3] (.int x :: S) M := (rn_at k_X10_way_65).trans rfl
theorem k_X10_way_66 : lk 66 C_X10_way = some (.aload_n 0, (0, 0, 0, 0)) := by decide +kernel
theorem s_X10_way_66 {ca : Nat → List Value → tM → tO} {M : tM} {a1 a2 a3 : Option Value} {x : Nat} {S : List Value} : rn ca C_X10_way 66 [some (.ref x), a1, a2, a3] S M = rn ca C_X10_way 67 [some (.ref x), a1, a2, a3] (.ref x :: S) M := (rn_at k_X10_way_66).trans rfl
theorem k_X10_way_67 : lk 67 C_X10_way = some (.getfield 10, (10, 0, 0, 16)) := by decide +kernel
theorem s_X10_way_67 {ca : Nat → List Value → tM → tO} {M : tM} {L : tL} {b : Nat} {S : List Value} : rn ca C_X10_way 67 L (.ref b :: S) M = if clsO b = some 10 then rn ca C_X10_way 70 L (fv M b 0 :: S) M else none := (rn_at k_X10_way_67).trans rnx_ite
theorem k_X10_way_70 : lk 70 C_X10_way = some (.getfield 206, (4, 13, 0, 100034)) := by decide +kernel
theorem s_X10_way_70 {ca : Nat → List Value → tM → tO} {M : tM} {L : tL} {b : Nat} {S : List Value} : rn ca C_X10_way 70 L (.ref b :: S) M = if clsO b = some 4 then rn ca C_X10_way 73 L (fv M b 13 :: S) M else none := (rn_at k_X10_way_70).trans rnx_ite
theorem k_X10_way_73 : lk 73 C_X10_way = some (.invokevirtual 239, (86, 4, 9, 695)) := by decide +kernel
theorem s_X10_way_73 {ca : Nat → List Value → tM → tO} {M : tM} {L : tL} {v1 v2 v3 v4 : Value} {b : Nat} : rn ca C_X10_way 73 L [v4, v3, v2, v1, .ref b] M = if clsO b = some 9 then rnk ca C_X10_way 76 L [] (ca m_X9_minutesTo [.ref b, v1, v2, v3, v4] M) else none := (rn_at k_X10_way_73).trans rnx_ite
theorem k_X10_way_76 : lk 76 C_X10_way = some (.ireturn, (0, 0, 0, 0)) := by decide +kernel
theorem s_X10_way_76 {ca : Nat → List Value → tM → tO} {M : tM} {L : tL} {x : Int32} : rn ca C_X10_way 76 L [.int x] M = some (some (.int x), M) := (rn_at k_X10_way_76).trans rfl
theorem k_X10_way_77 : lk 77 C_X10_way = some (.aload_n 0, (0, 0, 0, 0)) := by decide +kernel
theorem s_X10_way_77 {ca : Nat → List Value → tM → tO} {M : tM} {a1 a2 a3 : Option Value} {x : Nat} {S : List Value} : rn ca C_X10_way 77 [some (.ref x), a1, a2, a3] S M = rn ca C_X10_way 78 [some (.ref x), a1, a2, a3] (.ref x :: S) M := (rn_at k_X10_way_77).trans rfl
theorem k_X10_way_78 : lk 78 C_X10_way = some (.getfield 32, (10, 4, 0, 26)) := by decide +kernel
theorem s_X10_way_78 {ca : Nat → List Value → tM → tO} {M : tM} {L : tL} {b : Nat} {S : List Value} : rn ca C_X10_way 78 L (.ref b :: S) M = if clsO b = some 10 then rn ca C_X10_way 81 L (fv M b 4 :: S) M else none := (rn_at k_X10_way_78).trans rnx_ite
theorem k_X10_way_81 : lk 81 C_X10_way = some (.aload_n 0, (0, 0, 0, 0)) := by decide +kernel
theorem s_X10_way_81 {ca : Nat → List Value → tM → tO} {M : tM} {a1 a2 a3 : Option Value} {x : Nat} {S : List Value} : rn ca C_X10_way 81 [some (.ref x), a1, a2, a3] S M = rn ca C_X10_way 82 [some (.ref x), a1, a2, a3] (.ref x :: S) M := (rn_at k_X10_way_81).trans rfl
theorem k_X10_way_82 : lk 82 C_X10_way = some (.getfield 10, (10, 0, 0, 16)) := by decide +kernel
theorem s_X10_way_82 {ca : Nat → List Value → tM → tO} {M : tM} {L : tL} {b : Nat} {S : List Value} : rn ca C_X10_way 82 L (.ref b :: S) M = if clsO b = some 10 then rn ca C_X10_way 85 L (fv M b 0 :: S) M else none := (rn_at k_X10_way_82).trans rnx_ite
theorem k_X10_way_85 : lk 85 C_X10_way = some (.iload_n 1, (0, 0, 0, 0)) := by decide +kernel
theorem s_X10_way_85 {ca : Nat → List Value → tM → tO} {M : tM} {a0 a2 a3 : Option Value} {x : Int32} {S : List Value} : rn ca C_X10_way 85 [a0, some (.int x), a2, a3] S M = rn ca C_X10_way 86 [a0, some (.int x), a2, a3] (.int x :: S) M := (rn_at k_X10_way_85).trans rfl
theorem k_X10_way_86 : lk 86 C_X10_way = some (.iload_n 2, (0, 0, 0, 0)) := by decide +kernel
theorem s_X10_way_86 {ca : Nat → List Value → tM → tO} {M : tM} {a0 a1 a3 : Option Value} {x : Int32} {S : List Value} : rn ca C_X10_way 86 [a0, a1, some (.int x), a3] S M = rn ca C_X10_way 87 [a0, a1, some (.int x), a3] (.int x :: S) M := (rn_at k_X10_way_86).trans rfl
theorem k_X10_way_87 : lk 87 C_X10_way = some (.invokevirtual 243, (89, 3, 9, 727)) := by decide +kernel
theorem s_X10_way_87 {ca : Nat → List Value → tM → tO} {M : tM} {L : tL} {v1 v2 v3 : Value} {b : Nat} : rn ca C_X10_way 87 L [v3, v2, v1, .ref b] M = if clsO b = some 9 then rnk ca C_X10_way 90 L [] (ca m_X9_firstTubeTo [.ref b, v1, v2, v3] M) else none := (rn_at k_X10_way_87).trans rnx_ite
theorem k_X10_way_90 : lk 90 C_X10_way = some (.ireturn, (0, 0, 0, 0)) := by decide +kernel
theorem s_X10_way_90 {ca : Nat → List Value → tM → tO} {M : tM} {L : tL} {x : Int32} : rn ca C_X10_way 90 L [.int x] M = some (some (.int x), M) := (rn_at k_X10_way_90).trans rfl
theorem k_X10_way_91 : lk 91 C_X10_way = some (.aload_n 0, (0, 0, 0, 0)) := by decide +kernel
theorem s_X10_way_91 {ca : Nat → List Value → tM → tO} {M : tM} {a1 a2 a3 : Option Value} {x : Nat} {S : List Value} : rn ca C_X10_way 91 [some (.ref x), a1, a2, a3] S M = rn ca C_X10_way 92 [some (.ref x), a1, a2, a3] (.ref x :: S) M := (rn_at k_X10_way_91).trans rfl
theorem k_X10_way_92 : lk 92 C_X10_way = some (.getfield 32, (10, 4, 0, 26)) := by decide +kernel
theorem s_X10_way_92 {ca : Nat → List Value → tM → tO} {M : tM} {L : tL} {b : Nat} {S : List Value} : rn ca C_X10_way 92 L (.ref b :: S) M = if clsO b = some 10 then rn ca C_X10_way 95 L (fv M b 4 :: S) M else none := (rn_at k_X10_way_92).trans rnx_ite
theorem k_X10_way_95 : lk 95 C_X10_way = some (.aload_n 0, (0, 0, 0, 0)) := by decide +kernel
theorem s_X10_way_95 {ca : Nat → List Value → tM → tO} {M : tM} {a1 a2 a3 : Option Value} {x : Nat} {S : List Value} : rn ca C_X10_way 95 [some (.ref x), a1, a2, a3] S M = rn ca C_X10_way 96 [some (.ref x), a1, a2, a3] (.ref x :: S) M := (rn_at k_X10_way_95).trans rfl
theorem k_X10_way_96 : lk 96 C_X10_way = some (.getfield 10, (10, 0, 0, 16)) := by decide +kernel
theorem s_X10_way_96 {ca : Nat → List Value → tM → tO} {M : tM} {L : tL} {b : Nat} {S : List Value} : rn ca C_X10_way 96 L (.ref b :: S) M = if clsO b = some 10 then rn ca C_X10_way 99 L (fv M b 0 :: S) M else none := (rn_at k_X10_way_96).trans rnx_ite
theorem k_X10_way_99 : lk 99 C_X10_way = some (.iload_n 1, (0, 0, 0, 0)) := by decide +kernel
theorem s_X10_way_99 {ca : Nat → List Value → tM → tO} {M : tM} {a0 a2 a3 : Option Value} {x : Int32} {S : List Value} : rn ca C_X10_way 99 [a0, some (.int x), a2, a3] S M = rn ca C_X10_way 100 [a0, some (.int x), a2, a3] (.int x :: S) M := (rn_at k_X10_way_99).trans rfl
theorem k_X10_way_100 : lk 100 C_X10_way = some (.iload_n 2, (0, 0, 0, 0)) := by decide +kernel
theorem s_X10_way_100 {ca : Nat → List Value → tM → tO} {M : tM} {a0 a1 a3 : Option Value} {x : Int32} {S : List Value} : rn ca C_X10_way 100 [a0, a1, some (.int x), a3] S M = rn ca C_X10_way 101 [a0, a1, some (.int x), a3] (.int x :: S) M := (rn_at k_X10_way_100).trans rfl
theorem k_X10_way_101 : lk 101 C_X10_way = some (.invokevirtual 247, (87, 3, 9, 740)) := by decide +kernel
theorem s_X10_way_101 {ca : Nat → List Value → tM → tO} {M : tM} {L : tL} {v1 v2 v3 : Value} {b : Nat} : rn ca C_X10_way 101 L [v3, v2, v1, .ref b] M = if clsO b = some 9 then rnk ca C_X10_way 104 L [] (ca m_X9_stepsTo [.ref b, v1, v2, v3] M) else none := (rn_at k_X10_way_101).trans rnx_ite
theorem k_X10_way_104 : lk 104 C_X10_way = some (.ireturn, (0, 0, 0, 0)) := by decide +kernel
theorem s_X10_way_104 {ca : Nat → List Value → tM → tO} {M : tM} {L : tL} {x : Int32} : rn ca C_X10_way 104 L [.int x] M = some (some (.int x), M) := (rn_at k_X10_way_104).trans rfl
theorem k_X10_way_105 : lk 105 C_X10_way = some (.aload_n 0, (0, 0, 0, 0)) := by decide +kernel
theorem s_X10_way_105 {ca : Nat → List Value → tM → tO} {M : tM} {a1 a2 a3 : Option Value} {x : Nat} {S : List Value} : rn ca C_X10_way 105 [some (.ref x), a1, a2, a3] S M = rn ca C_X10_way 106 [some (.ref x), a1, a2, a3] (.ref x :: S) M := (rn_at k_X10_way_105).trans rfl
theorem k_X10_way_106 : lk 106 C_X10_way = some (.bipush (-15), (0, 0, 0, 0)) := by decide +kernel
theorem s_X10_way_106 {ca : Nat → List Value → tM → tO} {M : tM} {L : tL} {S : List Value} : rn ca C_X10_way 106 L S M = rn ca C_X10_way 108 L (.int (iI (-15)) :: S) M := (rn_at k_X10_way_106).trans rfl
theorem k_X10_way_108 : lk 108 C_X10_way = some (.invokevirtual 101, (134, 1, 10, 175)) := by decide +kernel
theorem s_X10_way_108 {ca : Nat → List Value → tM → tO} {M : tM} {L : tL} {v1 : Value} {b : Nat} : rn ca C_X10_way 108 L [v1, .ref b] M = if clsO b = some 10 then rnk ca C_X10_way 111 L [] (ca m_X10_refuse [.ref b, v1] M) else none := (rn_at k_X10_way_108).trans rnx_ite
theorem k_X10_way_111 : lk 111 C_X10_way = some (.ireturn, (0, 0, 0, 0)) := by decide +kernel
theorem s_X10_way_111 {ca : Nat → List Value → tM → tO} {M : tM} {L : tL} {x : Int32} : rn ca C_X10_way 111 L [.int x] M = some (some (.int x), M) := (rn_at k_X10_way_111).trans rfl
theorem k_X10_within_0 : lk 0 C_X10_within = some (.aload_n 0, (0, 0, 0, 0)) := by decide +kernel
theorem s_X10_within_0 {ca : Nat → List Value → tM → tO} {M : tM} {a1 a2 : Option Value} {x : Nat} {S : List Value} : rn ca C_X10_within 0 [some (.ref x), a1, a2] S M = rn ca C_X10_within 1 [some (.ref x), a1, a2] (.ref x :: S) M := (rn_at k_X10_within_0).trans rfl
theorem k_X10_within_1 : lk 1 C_X10_within = some (.getfield 10, (10, 0, 0, 16)) := by decide +kernel
theorem s_X10_within_1 {ca : Nat → List Value → tM → tO} {M : tM} {L : tL} {b : Nat} {S : List Value} : rn ca C_X10_within 1 L (.ref b :: S) M = if clsO b = some 10 then rn ca C_X10_within 4 L (fv M b 0 :: S) M else none := (rn_at k_X10_within_1).trans rnx_ite
theorem k_X10_within_4 : lk 4 C_X10_within = some (.iload_n 1, (0, 0, 0, 0)) := by decide +kernel
theorem s_X10_within_4 {ca : Nat → List Value → tM → tO} {M : tM} {a0 a2 : Option Value} {x : Int32} {S : List Value} : rn ca C_X10_within 4 [a0, some (.int x), a2] S M = rn ca C_X10_within 5 [a0, some (.int x), a2] (.int x :: S) M := (rn_at k_X10_within_4).trans rfl
theorem k_X10_within_5 : lk 5 C_X10_within = some (.invokevirtual 135, (20, 1, 4, 290)) := by decide +kernel
theorem s_X10_within_5 {ca : Nat → List Value → tM → tO} {M : tM} {L : tL} {v1 : Value} {b : Nat} : rn ca C_X10_within 5 L [v1, .ref b] M = if clsO b = some 4 then rnk ca C_X10_within 8 L [] (ca m_X4_hasCapsule [.ref b, v1] M) else none := (rn_at k_X10_within_5).trans rnx_ite
theorem k_X10_within_8 : lk 8 C_X10_within = some (.ifCond .ne 9, (17, 0, 0, 0)) := by decide +kernel
theorem s_X10_within_8 {ca : Nat → List Value → tM → tO} {M : tM} {L : tL} {x : Int32} {S : List Value} : rn ca C_X10_within 8 L (.int x :: S) M = if ¬ x = iI 0 then rn ca C_X10_within 17 L S M else rn ca C_X10_within 11 L S M := (rn_at k_X10_within_8).trans rnx_ite
theorem k_X10_within_11 : lk 11 C_X10_within = some (.aload_n 0, (0, 0, 0, 0)) := by decide +kernel
theorem s_X10_within_11 {ca : Nat → List Value → tM → tO} {M : tM} {a1 a2 : Option Value} {x : Nat} {S : List Value} : rn ca C_X10_within 11 [some (.ref x), a1, a2] S M = rn ca C_X10_within 12 [some (.ref x), a1, a2] (.ref x :: S) M := (rn_at k_X10_within_11).trans rfl
theorem k_X10_within_12 : lk 12 C_X10_within = some (.iconst (-1), (0, 0, 0, 0)) := by decide +kernel
theorem s_X10_within_12 {ca : Nat → List Value → tM → tO} {M : tM} {L : tL} {S : List Value} : rn ca C_X10_within 12 L S M = rn ca C_X10_within 13 L (.int (iI (-1)) :: S) M := (rn_at k_X10_within_12).trans rfl
theorem k_X10_within_13 : lk 13 C_X10_within = some (.invokevirtual 101, (134, 1, 10, 175)) := by decide +kernel
theorem s_X10_within_13 {ca : Nat → List Value → tM → tO} {M : tM} {L : tL} {v1 : Value} {b : Nat} : rn ca C_X10_within 13 L [v1, .ref b] M = if clsO b = some 10 then rnk ca C_X10_within 16 L [] (ca m_X10_refuse [.ref b, v1] M) else none := (rn_at k_X10_within_13).trans rnx_ite
theorem k_X10_within_16 : lk 16 C_X10_within = some (.ireturn, (0, 0, 0, 0)) := by decide +kernel
theorem s_X10_within_16 {ca : Nat → List Value → tM → tO} {M : tM} {L : tL} {x : Int32} : rn ca C_X10_within 16 L [.int x] M = some (some (.int x), M) := (rn_at k_X10_within_16).trans rfl
theorem k_X10_within_17 : lk 17 C_X10_within = some (.iload_n 2, (0, 0, 0, 0)) := by decide +kernel
theorem s_X10_within_17 {ca : Nat → List Value → tM → tO} {M : tM} {a0 a1 : Option Value} {x : Int32} {S : List Value} : rn ca C_X10_within 17 [a0, a1, some (.int x)] S M = rn ca C_X10_within 18 [a0, a1, some (.int x)] (.int x :: S) M := (rn_at k_X10_within_17).trans rfl
theorem k_X10_within_18 : lk 18 C_X10_within = some (.iconst (-1), (0, 0, 0, 0)) := by decide +kernel
theorem s_X10_within_18 {ca : Nat → List Value → tM → tO} {M : tM} {L : tL} {S : List Value} : rn ca C_X10_within 18 L S M = rn ca C_X10_within 19 L (.int (iI (-1)) :: S) M := (rn_at k_X10_within_18).trans rfl
theorem k_X10_within_19 : lk 19 C_X10_within = some (.if_icmp .lt 10, (29, 0, 0, 0)) := by decide +kernel
theorem s_X10_within_19 {ca : Nat → List Value → tM → tO} {M : tM} {L : tL} {x y : Int32} {S : List Value} : rn ca C_X10_within 19 L (.int y :: .int x :: S) M = if x < y then rn ca C_X10_within 29 L S M else rn ca C_X10_within 22 L S M := (rn_at k_X10_within_19).trans rnx_ite
theorem k_X10_within_22 : lk 22 C_X10_within = some (.iload_n 2, (0, 0, 0, 0)) := by decide +kernel
theorem s_X10_within_22 {ca : Nat → List Value → tM → tO} {M : tM} {a0 a1 : Option Value} {x : Int32} {S : List Value} : rn ca C_X10_within 22 [a0, a1, some (.int x)] S M = rn ca C_X10_within 23 [a0, a1, some (.int x)] (.int x :: S) M := (rn_at k_X10_within_22).trans rfl
theorem k_X10_within_23 : lk 23 C_X10_within = some (.sipush 500, (0, 0, 0, 0)) := by decide +kernel
theorem s_X10_within_23 {ca : Nat → List Value → tM → tO} {M : tM} {L : tL} {S : List Value} : rn ca C_X10_within 23 L S M = rn ca C_X10_within 26 L (.int (iI 500) :: S) M := (rn_at k_X10_within_23).trans rfl
theorem k_X10_within_26 : lk 26 C_X10_within = some (.if_icmp .le 10, (36, 0, 0, 0)) := by decide +kernel
theorem s_X10_within_26 {ca : Nat → List Value → tM → tO} {M : tM} {L : tL} {x y : Int32} {S : List Value} : rn ca C_X10_within 26 L (.int y :: .int x :: S) M = if x ≤ y then rn ca C_X10_within 36 L S M else rn ca C_X10_within 29 L S M := (rn_at k_X10_within_26).trans rnx_ite
theorem k_X10_within_29 : lk 29 C_X10_within = some (.aload_n 0, (0, 0, 0, 0)) := by decide +kernel
theorem s_X10_within_29 {ca : Nat → List Value → tM → tO} {M : tM} {a1 a2 : Option Value} {x : Nat} {S : List Value} : rn ca C_X10_within 29 [some (.ref x), a1, a2] S M = rn ca C_X10_within 30 [some (.ref x), a1, a2] (.ref x :: S) M := (rn_at k_X10_within_29).trans rfl
theorem k_X10_within_30 : lk 30 C_X10_within = some (.bipush (-6), (0, 0, 0, 0)) := by decide +kernel
theorem s_X10_within_30 {ca : Nat → List Value → tM → tO} {M : tM} {L : tL} {S : List Value} : rn ca C_X10_within 30 L S M = rn ca C_X10_within 32 L (.int (iI (-6)) :: S) M := (rn_at k_X10_within_30).trans rfl
theorem k_X10_within_32 : lk 32 C_X10_within = some (.invokevirtual 101, (134, 1, 10, 175)) := by decide +kernel
theorem s_X10_within_32 {ca : Nat → List Value → tM → tO} {M : tM} {L : tL} {v1 : Value} {b : Nat} : rn ca C_X10_within 32 L [v1, .ref b] M = if clsO b = some 10 then rnk ca C_X10_within 35 L [] (ca m_X10_refuse [.ref b, v1] M) else none := (rn_at k_X10_within_32).trans rnx_ite
theorem k_X10_within_35 : lk 35 C_X10_within = some (.ireturn, (0, 0, 0, 0)) := by decide +kernel
theorem s_X10_within_35 {ca : Nat → List Value → tM → tO} {M : tM} {L : tL} {x : Int32} : rn ca C_X10_within 35 L [.int x] M = some (some (.int x), M) := (rn_at k_X10_within_35).trans rfl
theorem k_X10_within_36 : lk 36 C_X10_within = some (.aload_n 0, (0, 0, 0, 0)) := by decide +kernel
theorem s_X10_within_36 {ca : Nat → List Value → tM → tO} {M : tM} {a1 a2 : Option Value} {x : Nat} {S : List Value} : rn ca C_X10_within 36 [some (.ref x), a1, a2] S M = rn ca C_X10_within 37 [some (.ref x), a1, a2] (.ref x :: S) M := (rn_at k_X10_within_36).trans rfl
theorem k_X10_within_37 : lk 37 C_X10_within = some (.getfield 32, (10, 4, 0, 26)) := by decide +kernel
theorem s_X10_within_37 {ca : Nat → List Value → tM → tO} {M : tM} {L : tL} {b : Nat} {S : List Value} : rn ca C_X10_within 37 L (.ref b :: S) M = if clsO b = some 10 then rn ca C_X10_within 40 L (fv M b 4 :: S) M else none := (rn_at k_X10_within_37).trans rnx_ite
theorem k_X10_within_40 : lk 40 C_X10_within = some (.aload_n 0, (0, 0, 0, 0)) := by decide +kernel
theorem s_X10_within_40 {ca : Nat → List Value → tM → tO} {M : tM} {a1 a2 : Option Value} {x : Nat} {S : List Value} : rn ca C_X10_within 40 [some (.ref x), a1, a2] S M = rn ca C_X10_within 41 [some (.ref x), a1, a2] (.ref x :: S) M := (rn_at k_X10_within_40).trans rfl
theorem k_X10_within_41 : lk 41 C_X10_within = some (.getfield 10, (10, 0, 0, 16)) := by decide +kernel
theorem s_X10_within_41 {ca : Nat → List Value → tM → tO} {M : tM} {L : tL} {b : Nat} {S : List Value} : rn ca C_X10_within 41 L (.ref b :: S) M = if clsO b = some 10 then rn ca C_X10_within 44 L (fv M b 0 :: S) M else none := (rn_at k_X10_within_41).trans rnx_ite
theorem k_X10_within_44 : lk 44 C_X10_within = some (.iload_n 1, (0, 0, 0, 0)) := by decide +kernel
theorem s_X10_within_44 {ca : Nat → List Value → tM → tO} {M : tM} {a0 a2 : Option Value} {x : Int32} {S : List Value} : rn ca C_X10_within 44 [a0, some (.int x), a2] S M = rn ca C_X10_within 45 [a0, some (.int x), a2] (.int x :: S) M := (rn_at k_X10_within_44).trans rfl
theorem k_X10_within_45 : lk 45 C_X10_within = some (.aload_n 0, (0, 0, 0, 0)) := by decide +kernel
theorem s_X10_within_45 {ca : Nat → List Value → tM → tO} {M : tM} {a1 a2 : Option Value} {x : Nat} {S : List Value} : rn ca C_X10_within 45 [some (.ref x), a1, a2] S M = rn ca C_X10_within 46 [some (.ref x), a1, a2] (.ref x :: S) M := (rn_at k_X10_within_45).trans rfl
theorem k_X10_within_46 : lk 46 C_X10_within = some (.getfield 10, (10, 0, 0, 16)) := by decide +kernel
theorem s_X10_within_46 {ca : Nat → List Value → tM → tO} {M : tM} {L : tL} {b : Nat} {S : List Value} : rn ca C_X10_within 46 L (.ref b :: S) M = if clsO b = some 10 then rn ca C_X10_within 49 L (fv M b 0 :: S) M else none := (rn_at k_X10_within_46).trans rnx_ite
theorem k_X10_within_49 : lk 49 C_X10_within = some (.getfield 206, (4, 13, 0, 100034)) := by decide +kernel
theorem s_X10_within_49 {ca : Nat → List Value → tM → tO} {M : tM} {L : tL} {b : Nat} {S : List Value} : rn ca C_X10_within 49 L (.ref b :: S) M = if clsO b = some 4 then rn ca C_X10_within 52 L (fv M b 13 :: S) M else none := (rn_at k_X10_within_49).trans rnx_ite
theorem k_X10_within_52 : lk 52 C_X10_within = some (.invokevirtual 250, (79, 3, 9, 801)) := by decide +kernel
theorem s_X10_within_52 {ca : Nat → List Value → tM → tO} {M : tM} {L : tL} {v1 v2 v3 : Value} {b : Nat} : rn ca C_X10_within 52 L [v3, v2, v1, .ref b] M = if clsO b = some 9 then rnk ca C_X10_within 55 L [] (ca m_X9_prepareFor [.ref b, v1, v2, v3] M) else none := (rn_at k_X10_within_52).trans rnx_ite
theorem k_X10_within_55 : lk 55 C_X10_within = some (.iload_n 2, (0, 0, 0, 0)) := by decide +kernel
theorem s_X10_within_55 {ca : Nat → List Value → tM → tO} {M : tM} {a0 a1 : Option Value} {x : Int32} {S : List Value} : rn ca C_X10_within 55 [a0, a1, some (.int x)] S M = rn ca C_X10_within 56 [a0, a1, some (.int x)] (.int x :: S) M := (rn_at k_X10_within_55).trans rfl
theorem k_X10_within_56 : lk 56 C_X10_within = some (.iconst (-1), (0, 0, 0, 0)) := by decide +kernel
theorem s_X10_within_56 {ca : Nat → List Value → tM → tO} {M : tM} {L : tL} {S : List Value} : rn ca C_X10_within 56 L S M = rn ca C_X10_within 57 L (.int (iI (-1)) :: S) M := (rn_at k_X10_within_56).trans rfl
theorem k_X10_within_57 : lk 57 C_X10_within = some (.if_icmp .ne 15, (72, 0, 0, 0)) := by decide +kernel
theorem s_X10_within_57 {ca : Nat → List Value → tM → tO} {M : tM} {L : tL} {x y : Int32} {S : List Value} : rn ca C_X10_within 57 L (.int y :: .int x :: S) M = if ¬ x = y then rn ca C_X10_within 72 L S M else rn ca C_X10_within 60 L S M := (rn_at k_X10_within_57).trans rnx_ite
theorem k_X10_within_60 : lk 60 C_X10_within = some (.aload_n 0, (0, 0, 0, 0)) := by decide +kernel
theorem s_X10_within_60 {ca : Nat → List Value → tM → tO} {M : tM} {a1 a2 : Option Value} {x : Nat} {S : List Value} : rn ca C_X10_within 60 [some (.ref x), a1, a2] S M = rn ca C_X10_within 61 [some (.ref x), a1, a2] (.ref x :: S) M := (rn_at k_X10_within_60).trans rfl
theorem k_X10_within_61 : lk 61 C_X10_within = some (.getfield 32, (10, 4, 0, 26)) := by decide +kernel
theorem s_X10_within_61 {ca : Nat → List Value → tM → tO} {M : tM} {L : tL} {b : Nat} {S : List Value} : rn ca C_X10_within 61 L (.ref b :: S) M = if clsO b = some 10 then rn ca C_X10_within 64 L (fv M b 4 :: S) M else none := (rn_at k_X10_within_61).trans rnx_ite
theorem k_X10_within_64 : lk 64 C_X10_within = some (.aload_n 0, (0, 0, 0, 0)) := by decide +kernel
theorem s_X10_within_64 {ca : Nat → List Value → tM → tO} {M : tM} {a1 a2 : Option Value} {x : Nat} {S : List Value} : rn ca C_X10_within 64 [some (.ref x), a1, a2] S M = rn ca C_X10_within 65 [some (.ref x), a1, a2] (.ref x :: S) M := (rn_at k_X10_within_64).trans rfl
theorem k_X10_within_65 : lk 65 C_X10_within = some (.getfield 10, (10, 0, 0, 16)) := by decide +kernel
theorem s_X10_within_65 {ca : Nat → List Value → tM → tO} {M : tM} {L : tL} {b : Nat} {S : List Value} : rn ca C_X10_within 65 L (.ref b :: S) M = if clsO b = some 10 then rn ca C_X10_within 68 L (fv M b 0 :: S) M else none := (rn_at k_X10_within_65).trans rnx_ite
theorem k_X10_within_68 : lk 68 C_X10_within = some (.invokevirtual 254, (81, 1, 9, 802)) := by decide +kernel
theorem s_X10_within_68 {ca : Nat → List Value → tM → tO} {M : tM} {L : tL} {v1 : Value} {b : Nat} : rn ca C_X10_within 68 L [v1, .ref b] M = if clsO b = some 9 then rnk ca C_X10_within 71 L [] (ca m_X9_passableTubes [.ref b, v1] M) else none := (rn_at k_X10_within_68).trans rnx_ite
theorem k_X10_within_71 : lk 71 C_X10_within = some (.ireturn, (0, 0, 0, 0)) := by decide +kernel
theorem s_X10_within_71 {ca : Nat → List Value → tM → tO} {M : tM} {L : tL} {x : Int32} : rn ca C_X10_within 71 L [.int x] M = some (some (.int x), M) := (rn_at k_X10_within_71).trans rfl
theorem k_X10_within_72 : lk 72 C_X10_within = some (.aload_n 0, (0, 0, 0, 0)) := by decide +kernel
theorem s_X10_within_72 {ca : Nat → List Value → tM → tO} {M : tM} {a1 a2 : Option Value} {x : Nat} {S : List Value} : rn ca C_X10_within 72 [some (.ref x), a1, a2] S M = rn ca C_X10_within 73 [some (.ref x), a1, a2] (.ref x :: S) M := (rn_at k_X10_within_72).trans rfl
theorem k_X10_within_73 : lk 73 C_X10_within = some (.getfield 32, (10, 4, 0, 26)) := by decide +kernel
theorem s_X10_within_73 {ca : Nat → List Value → tM → tO} {M : tM} {L : tL} {b : Nat} {S : List Value} : rn ca C_X10_within 73 L (.ref b :: S) M = if clsO b = some 10 then rn ca C_X10_within 76 L (fv M b 4 :: S) M else none := (rn_at k_X10_within_73).trans rnx_ite
theorem k_X10_within_76 : lk 76 C_X10_within = some (.aload_n 0, (0, 0, 0, 0)) := by decide +kernel
theorem s_X10_within_76 {ca : Nat → List Value → tM → tO} {M : tM} {a1 a2 : Option Value} {x : Nat} {S : List Value} : rn ca C_X10_within 76 [some (.ref x), a1, a2] S M = rn ca C_X10_within 77 [some (.ref x), a1, a2] (.ref x :: S) M := (rn_at k_X10_within_76).trans rfl
theorem k_X10_within_77 : lk 77 C_X10_within = some (.getfield 10, (10, 0, 0, 16)) := by decide +kernel
theorem s_X10_within_77 {ca : Nat → List Value → tM → tO} {M : tM} {L : tL} {b : Nat} {S : List Value} : rn ca C_X10_within 77 L (.ref b :: S) M = if clsO b = some 10 then rn ca C_X10_within 80 L (fv M b 0 :: S) M else none := (rn_at k_X10_within_77).trans rnx_ite
theorem k_X10_within_80 : lk 80 C_X10_within = some (.aload_n 0, (0, 0, 0, 0)) := by decide +kernel
theorem s_X10_within_80 {ca : Nat → List Value → tM → tO} {M : tM} {a1 a2 : Option Value} {x : Nat} {S : List Value} : rn ca C_X10_within 80 [some (.ref x), a1, a2] S M = rn ca C_X10_within 81 [some (.ref x), a1, a2] (.ref x :: S) M := (rn_at k_X10_within_80).trans rfl
theorem k_X10_within_81 : lk 81 C_X10_within = some (.getfield 10, (10, 0, 0, 16)) := by decide +kernel
theorem s_X10_within_81 {ca : Nat → List Value → tM → tO} {M : tM} {L : tL} {b : Nat} {S : List Value} : rn ca C_X10_within 81 L (.ref b :: S) M = if clsO b = some 10 then rn ca C_X10_within 84 L (fv M b 0 :: S) M else none := (rn_at k_X10_within_81).trans rnx_ite
theorem k_X10_within_84 : lk 84 C_X10_within = some (.getfield 161, (4, 12, 0, 100030)) := by decide +kernel
theorem s_X10_within_84 {ca : Nat → List Value → tM → tO} {M : tM} {L : tL} {b : Nat} {S : List Value} : rn ca C_X10_within 84 L (.ref b :: S) M = if clsO b = some 4 then rn ca C_X10_within 87 L (fv M b 12 :: S) M else none := (rn_at k_X10_within_84).trans rnx_ite
theorem k_X10_within_87 : lk 87 C_X10_within = some (.iload_n 1, (0, 0, 0, 0)) := by decide +kernel
theorem s_X10_within_87 {ca : Nat → List Value → tM → tO} {M : tM} {a0 a2 : Option Value} {x : Int32} {S : List Value} : rn ca C_X10_within 87 [a0, some (.int x), a2] S M = rn ca C_X10_within 88 [a0, some (.int x), a2] (.int x :: S) M := (rn_at k_X10_within_87).trans rfl
theorem k_X10_within_88 : lk 88 C_X10_within = some (.iaload, (0, 0, 0, 0)) := by decide +kernel
theorem s_X10_within_88 {ca : Nat → List Value → tM → tO} {M : tM} {L : tL} {a : Nat} {i : Int32} {S : List Value} : rn ca C_X10_within 88 L (.int i :: .ref a :: S) M = if (akind a = 0 ∨ akind a = 6 ∨ akind a = 7) ∧ inb i (alen M a) then rn ca C_X10_within 89 L (.int (M.1 a i.toInt.toNat) :: S) M else none := (rn_at k_X10_within_88).trans rnx_ite
theorem k_X10_within_89 : lk 89 C_X10_within = some (.invokevirtual 258, (82, 2, 9, 806)) := by decide +kernel
theorem s_X10_within_89 {ca : Nat → List Value → tM → tO} {M : tM} {L : tL} {v1 v2 : Value} {b : Nat} : rn ca C_X10_within 89 L [v2, v1, .ref b] M = if clsO b = some 9 then rnk ca C_X10_within 92 L [] (ca m_X9_spread [.ref b, v1, v2] M) else none := (rn_at k_X10_within_89).trans rnx_ite
theorem k_X10_within_92 : lk 92 C_X10_within = some (.aload_n 0, (0, 0, 0, 0)) := by decide +kernel
theorem s_X10_within_92 {ca : Nat → List Value → tM → tO} {M : tM} {a1 a2 : Option Value} {x : Nat} {S : List Value} : rn ca C_X10_within 92 [some (.ref x), a1, a2] S M = rn ca C_X10_within 93 [some (.ref x), a1, a2] (.ref x :: S) M := (rn_at k_X10_within_92).trans rfl
theorem k_X10_within_93 : lk 93 C_X10_within = some (.getfield 32, (10, 4, 0, 26)) := by decide +kernel
theorem s_X10_within_93 {ca : Nat → List Value → tM → tO} {M : tM} {L : tL} {b : Nat} {S : List Value} : rn ca C_X10_within 93 L (.ref b :: S) M = if clsO b = some 10 then rn ca C_X10_within 96 L (fv M b 4 :: S) M else none := (rn_at k_X10_within_93).trans rnx_ite
theorem k_X10_within_96 : lk 96 C_X10_within = some (.aload_n 0, (0, 0, 0, 0)) := by decide +kernel
theorem s_X10_within_96 {ca : Nat → List Value → tM → tO} {M : tM} {a1 a2 : Option Value} {x : Nat} {S : List Value} : rn ca C_X10_within 96 [some (.ref x), a1, a2] S M = rn ca C_X10_within 97 [some (.ref x), a1, a2] (.ref x :: S) M := (rn_at k_X10_within_96).trans rfl
theorem k_X10_within_97 : lk 97 C_X10_within = some (.getfield 10, (10, 0, 0, 16)) := by decide +kernel
theorem s_X10_within_97 {ca : Nat → List Value → tM → tO} {M : tM} {L : tL} {b : Nat} {S : List Value} : rn ca C_X10_within 97 L (.ref b :: S) M = if clsO b = some 10 then rn ca C_X10_within 100 L (fv M b 0 :: S) M else none := (rn_at k_X10_within_97).trans rnx_ite
theorem k_X10_within_100 : lk 100 C_X10_within = some (.iload_n 2, (0, 0, 0, 0)) := by decide +kernel
theorem s_X10_within_100 {ca : Nat → List Value → tM → tO} {M : tM} {a0 a1 : Option Value} {x : Int32} {S : List Value} : rn ca C_X10_within 100 [a0, a1, some (.int x)] S M = rn ca C_X10_within 101 [a0, a1, some (.int x)] (.int x :: S) M := (rn_at k_X10_within_100).trans rfl
theorem k_X10_within_101 : lk 101 C_X10_within = some (.invokevirtual 262, (90, 2, 9, 807)) := by decide +kernel
theorem s_X10_within_101 {ca : Nat → List Value → tM → tO} {M : tM} {L : tL} {v1 v2 : Value} {b : Nat} : rn ca C_X10_within 101 L [v2, v1, .ref b] M = if clsO b = some 9 then rnk ca C_X10_within 104 L [] (ca m_X9_desksWithin [.ref b, v1, v2] M) else none := (rn_at k_X10_within_101).trans rnx_ite
theorem k_X10_within_104 : lk 104 C_X10_within = some (.ireturn, (0, 0, 0, 0)) := by decide +kernel
theorem s_X10_within_104 {ca : Nat → List Value → tM → tO} {M : tM} {L : tL} {x : Int32} : rn ca C_X10_within 104 L [.int x] M = some (some (.int x), M) := (rn_at k_X10_within_104).trans rfl
theorem k_X10_round_0 : lk 0 C_X10_round = some (.aload_n 0, (0, 0, 0, 0)) := by decide +kernel
theorem s_X10_round_0 {ca : Nat → List Value → tM → tO} {M : tM} {a1 a2 a3 a4 a5 a6 a7 : Option Value} {x : Nat} {S : List Value} : rn ca C_X10_round 0 [some (.ref x), a1, a2, a3, a4, a5, a6, a7] S M = rn ca C_X10_round 1 [some (.ref x), a1, a2, a3, a4, a5, a6, a7] (.ref x :: S) M := (rn_at k_X10_round_0).trans rfl
theorem k_X10_round_1 : lk 1 C_X10_round = some (.getfield 10, (10, 0, 0, 16)) := by decide +kernel
theorem s_X10_round_1 {ca : Nat → List Value → tM → tO} {M : tM} {L : tL} {b : Nat} {S : List Value} : rn ca C_X10_round 1 L (.ref b :: S) M = if clsO b = some 10 then rn ca C_X10_round 4 L (fv M b 0 :: S) M else none := (rn_at k_X10_round_1).trans rnx_ite
theorem k_X10_round_4 : lk 4 C_X10_round = some (.iload_n 1, (0, 0, 0, 0)) := by decide +kernel
theorem s_X10_round_4 {ca : Nat → List Value → tM → tO} {M : tM} {a0 a2 a3 a4 a5 a6 a7 : Option Value} {x : Int32} {S : List Value} : rn ca C_X10_round 4 [a0, some (.int x), a2, a3, a4, a5, a6, a7] S M = rn ca C_X10_round 5 [a0, some (.int x), a2, a3, a4, a5, a6, a7] (.int x :: S) M := (rn_at k_X10_round_4).trans rfl
theorem k_X10_round_5 : lk 5 C_X10_round = some (.invokevirtual 135, (20, 1, 4, 290)) := by decide +kernel
theorem s_X10_round_5 {ca : Nat → List Value → tM → tO} {M : tM} {L : tL} {v1 : Value} {b : Nat} : rn ca C_X10_round 5 L [v1, .ref b] M = if clsO b = some 4 then rnk ca C_X10_round 8 L [] (ca m_X4_hasCapsule [.ref b, v1] M) else none := (rn_at k_X10_round_5).trans rnx_ite
theorem k_X10_round_8 : lk 8 C_X10_round = some (.ifCond .ne 10, (18, 0, 0, 0)) := by decide +kernel
theorem s_X10_round_8 {ca : Nat → List Value → tM → tO} {M : tM} {L : tL} {x : Int32} {S : List Value} : rn ca C_X10_round 8 L (.int x :: S) M = if ¬ x = iI 0 then rn ca C_X10_round 18 L S M else rn ca C_X10_round 11 L S M := (rn_at k_X10_round_8).trans rnx_ite
theorem k_X10_round_11 : lk 11 C_X10_round = some (.aload_n 0, (0, 0, 0, 0)) := by decide +kernel
theorem s_X10_round_11 {ca : Nat → List Value → tM → tO} {M : tM} {a1 a2 a3 a4 a5 a6 a7 : Option Value} {x : Nat} {S : List Value} : rn ca C_X10_round 11 [some (.ref x), a1, a2, a3, a4, a5, a6, a7] S M = rn ca C_X10_round 12 [some (.ref x), a1, a2, a3, a4, a5, a6, a7] (.ref x :: S) M := (rn_at k_X10_round_11).trans rfl
theorem k_X10_round_12 : lk 12 C_X10_round = some (.bipush (-11), (0, 0, 0, 0)) := by decide +kernel
theorem s_X10_round_12 {ca : Nat → List Value → tM → tO} {M : tM} {L : tL} {S : List Value} : rn ca C_X10_round 12 L S M = rn ca C_X10_round 14 L (.int (iI (-11)) :: S) M := (rn_at k_X10_round_12).trans rfl
theorem k_X10_round_14 : lk 14 C_X10_round = some (.invokevirtual 101, (134, 1, 10, 175)) := by decide +kernel
theorem s_X10_round_14 {ca : Nat → List Value → tM → tO} {M : tM} {L : tL} {v1 : Value} {b : Nat} : rn ca C_X10_round 14 L [v1, .ref b] M = if clsO b = some 10 then rnk ca C_X10_round 17 L [] (ca m_X10_refuse [.ref b, v1] M) else none := (rn_at k_X10_round_14).trans rnx_ite
theorem k_X10_round_17 : lk 17 C_X10_round = some (.ireturn, (0, 0, 0, 0)) := by decide +kernel
theorem s_X10_round_17 {ca : Nat → List Value → tM → tO} {M : tM} {L : tL} {x : Int32} : rn ca C_X10_round 17 L [.int x] M = some (some (.int x), M) := (rn_at k_X10_round_17).trans rfl
theorem k_X10_round_18 : lk 18 C_X10_round = some (.iload_n 2, (0, 0, 0, 0)) := by decide +kernel
theorem s_X10_round_18 {ca : Nat → List Value → tM → tO} {M : tM} {a0 a1 a3 a4 a5 a6 a7 : Option Value} {x : Int32} {S : List Value} : rn ca C_X10_round 18 [a0, a1, some (.int x), a3, a4, a5, a6, a7] S M = rn ca C_X10_round 19 [a0, a1, some (.int x), a3, a4, a5, a6, a7] (.int x :: S) M := (rn_at k_X10_round_18).trans rfl
theorem k_X10_round_19 : lk 19 C_X10_round = some (.ifCond .le 19, (38, 0, 0, 0)) := by decide +kernel
theorem s_X10_round_19 {ca : Nat → List Value → tM → tO} {M : tM} {L : tL} {x : Int32} {S : List Value} : rn ca C_X10_round 19 L (.int x :: S) M = if x ≤ iI 0 then rn ca C_X10_round 38 L S M else rn ca C_X10_round 22 L S M := (rn_at k_X10_round_19).trans rnx_ite
theorem k_X10_round_22 : lk 22 C_X10_round = some (.iload_n 2, (0, 0, 0, 0)) := by decide +kernel
theorem s_X10_round_22 {ca : Nat → List Value → tM → tO} {M : tM} {a0 a1 a3 a4 a5 a6 a7 : Option Value} {x : Int32} {S : List Value} : rn ca C_X10_round 22 [a0, a1, some (.int x), a3, a4, a5, a6, a7] S M = rn ca C_X10_round 23 [a0, a1, some (.int x), a3, a4, a5, a6, a7] (.int x :: S) M := (rn_at k_X10_round_22).trans rfl
theorem k_X10_round_23 : lk 23 C_X10_round = some (.aload_n 0, (0, 0, 0, 0)) := by decide +kernel
theorem s_X10_round_23 {ca : Nat → List Value → tM → tO} {M : tM} {a1 a2 a3 a4 a5 a6 a7 : Option Value} {x : Nat} {S : List Value} : rn ca C_X10_round 23 [some (.ref x), a1, a2, a3, a4, a5, a6, a7] S M = rn ca C_X10_round 24 [some (.ref x), a1, a2, a3, a4, a5, a6, a7] (.ref x :: S) M := (rn_at k_X10_round_23).trans rfl
theorem k_X10_round_24 : lk 24 C_X10_round = some (.getfield 10, (10, 0, 0, 16)) := by decide +kernel
theorem s_X10_round_24 {ca : Nat → List Value → tM → tO} {M : tM} {L : tL} {b : Nat} {S : List Value} : rn ca C_X10_round 24 L (.ref b :: S) M = if clsO b = some 10 then rn ca C_X10_round 27 L (fv M b 0 :: S) M else none := (rn_at k_X10_round_24).trans rnx_ite
theorem k_X10_round_27 : lk 27 C_X10_round = some (.getfield 171, (4, 0, 0, 100004)) := by decide +kernel
theorem s_X10_round_27 {ca : Nat → List Value → tM → tO} {M : tM} {L : tL} {b : Nat} {S : List Value} : rn ca C_X10_round 27 L (.ref b :: S) M = if clsO b = some 4 then rn ca C_X10_round 30 L (fv M b 0 :: S) M else none := (rn_at k_X10_round_27).trans rnx_ite
theorem k_X10_round_30 : lk 30 C_X10_round = some (.ishr, (0, 0, 0, 0)) := by decide +kernel
theorem s_X10_round_30 {ca : Nat → List Value → tM → tO} {M : tM} {L : tL} {x y : Int32} {S : List Value} : rn ca C_X10_round 30 L (.int y :: .int x :: S) M = rn ca C_X10_round 31 L (.int (x >>> (y &&& 31)) :: S) M := (rn_at k_X10_round_30).trans rfl
theorem k_X10_round_31 : lk 31 C_X10_round = some (.ifCond .ne 7, (38, 0, 0, 0)) := by decide +kernel
theorem s_X10_round_31 {ca : Nat → List Value → tM → tO} {M : tM} {L : tL} {x : Int32} {S : List Value} : rn ca C_X10_round 31 L (.int x :: S) M = if ¬ x = iI 0 then rn ca C_X10_round 38 L S M else rn ca C_X10_round 34 L S M := (rn_at k_X10_round_31).trans rnx_ite
theorem k_X10_round_34 : lk 34 C_X10_round = some (.iconst 1, (0, 0, 0, 0)) := by decide +kernel
theorem s_X10_round_34 {ca : Nat → List Value → tM → tO} {M : tM} {L : tL} {S : List Value} : rn ca C_X10_round 34 L S M = rn ca C_X10_round 35 L (.int (iI 1) :: S) M := (rn_at k_X10_round_34).trans rfl
theorem k_X10_round_35 : lk 35 C_X10_round = some (.goto 4, (39, 0, 0, 0)) := by decide +kernel
theorem s_X10_round_35 {ca : Nat → List Value → tM → tO} {M : tM} {L : tL} {S : List Value} : rn ca C_X10_round 35 L S M = rn ca C_X10_round 39 L S M := (rn_at k_X10_round_35).trans rfl
theorem k_X10_round_38 : lk 38 C_X10_round = some (.iconst 0, (0, 0, 0, 0)) := by decide +kernel
theorem s_X10_round_38 {ca : Nat → List Value → tM → tO} {M : tM} {L : tL} {S : List Value} : rn ca C_X10_round 38 L S M = rn ca C_X10_round 39 L (.int (iI 0) :: S) M := (rn_at k_X10_round_38).trans rfl
theorem k_X10_round_39 : lk 39 C_X10_round = some (.istore 5, (0, 0, 0, 0)) := by decide +kernel
theorem s_X10_round_39 {ca : Nat → List Value → tM → tO} {M : tM} {a0 a1 a2 a3 a4 a5 a6 a7 : Option Value} {x : Int32} {S : List Value} : rn ca C_X10_round 39 [a0, a1, a2, a3, a4, a5, a6, a7] (.int x :: S) M = rn ca C_X10_round 41 [a0, a1, a2, a3, a4, some (.int x), a6, a7] S M := (rn_at k_X10_round_39).trans rfl
theorem k_X10_round_41 : lk 41 C_X10_round = some (.iload 5, (0, 0, 0, 0)) := by decide +kernel
theorem s_X10_round_41 {ca : Nat → List Value → tM → tO} {M : tM} {a0 a1 a2 a3 a4 a6 a7 : Option Value} {x : Int32} {S : List Value} : rn ca C_X10_round 41 [a0, a1, a2, a3, a4, some (.int x), a6, a7] S M = rn ca C_X10_round 43 [a0, a1, a2, a3, a4, some (.int x), a6, a7] (.int x :: S) M := (rn_at k_X10_round_41).trans rfl
theorem k_X10_round_43 : lk 43 C_X10_round = some (.ifCond .eq 25, (68, 0, 0, 0)) := by decide +kernel
theorem s_X10_round_43 {ca : Nat → List Value → tM → tO} {M : tM} {L : tL} {x : Int32} {S : List Value} : rn ca C_X10_round 43 L (.int x :: S) M = if x = iI 0 then rn ca C_X10_round 68 L S M else rn ca C_X10_round 46 L S M := (rn_at k_X10_round_43).trans rnx_ite
theorem k_X10_round_46 : lk 46 C_X10_round = some (.iload 4, (0, 0, 0, 0)) := by decide +kernel
theorem s_X10_round_46 {ca : Nat → List Value → tM → tO} {M : tM} {a0 a1 a2 a3 a5 a6 a7 : Option Value} {x : Int32} {S : List Value} : rn ca C_X10_round 46 [a0, a1, a2, a3, some (.int x), a5, a6, a7] S M = rn ca C_X10_round 48 [a0, a1, a2, a3, some (.int x), a5, a6, a7] (.int x :: S) M := (rn_at k_X10_round_46).trans rfl
theorem k_X10_round_48 : lk 48 C_X10_round = some (.iconst (-1), (0, 0, 0, 0)) := by decide +kernel
theorem s_X10_round_48 {ca : Nat → List Value → tM → tO} {M : tM} {L : tL} {S : List Value} : rn ca C_X10_round 48 L S M = rn ca C_X10_round 49 L (.int (iI (-1)) :: S) M := (rn_at k_X10_round_48).trans rfl
theorem k_X10_round_49 : lk 49 C_X10_round = some (.if_icmp .lt 12, (61, 0, 0, 0)) := by decide +kernel
theorem s_X10_round_49 {ca : Nat → List Value → tM → tO} {M : tM} {L : tL} {x y : Int32} {S : List Value} : rn ca C_X10_round 49 L (.int y :: .int x :: S) M = if x < y then rn ca C_X10_round 61 L S M else rn ca C_X10_round 52 L S M := (rn_at k_X10_round_49).trans rnx_ite
theorem k_X10_round_52 : lk 52 C_X10_round = some (.iload 4, (0, 0, 0, 0)) := by decide +kernel
theorem s_X10_round_52 {ca : Nat → List Value → tM → tO} {M : tM} {a0 a1 a2 a3 a5 a6 a7 : Option Value} {x : Int32} {S : List Value} : rn ca C_X10_round 52 [a0, a1, a2, a3, some (.int x), a5, a6, a7] S M = rn ca C_X10_round 54 [a0, a1, a2, a3, some (.int x), a5, a6, a7] (.int x :: S) M := (rn_at k_X10_round_52).trans rfl
theorem k_X10_round_54 : lk 54 C_X10_round = some (.iload_n 2, (0, 0, 0, 0)) := by decide +kernel
theorem s_X10_round_54 {ca : Nat → List Value → tM → tO} {M : tM} {a0 a1 a3 a4 a5 a6 a7 : Option Value} {x : Int32} {S : List Value} : rn ca C_X10_round 54 [a0, a1, some (.int x), a3, a4, a5, a6, a7] S M = rn ca C_X10_round 55 [a0, a1, some (.int x), a3, a4, a5, a6, a7] (.int x :: S) M := (rn_at k_X10_round_54).trans rfl
theorem k_X10_round_55 : lk 55 C_X10_round = some (.invokestatic 266, (239, 1, 0, 821)) := by decide +kernel
theorem s_X10_round_55 {ca : Nat → List Value → tM → tO} {M : tM} {L : tL} {v1 : Value} {r0 : Int32} : rn ca C_X10_round 55 L [v1, .int r0] M = rnk ca C_X10_round 58 L [.int r0] (ca m_J6_bitCount_0f7a4 [v1] M) := (rn_at k_X10_round_55).trans rfl
theorem k_X10_round_58 : lk 58 C_X10_round = some (.if_icmp .lt 10, (68, 0, 0, 0)) := by decide +kernel
theorem s_X10_round_58 {ca : Nat → List Value → tM → tO} {M : tM} {L : tL} {x y : Int32} {S : List Value} : rn ca C_X10_round 58 L (.int y :: .int x :: S) M = if x < y then rn ca C_X10_round 68 L S M else rn ca C_X10_round 61 L S M := (rn_at k_X10_round_58).trans rnx_ite
theorem k_X10_round_61 : lk 61 C_X10_round = some (.aload_n 0, (0, 0, 0, 0)) := by decide +kernel
theorem s_X10_round_61 {ca : Nat → List Value → tM → tO} {M : tM} {a1 a2 a3 a4 a5 a6 a7 : Option Value} {x : Nat} {S : List Value} : rn ca C_X10_round 61 [some (.ref x), a1, a2, a3, a4, a5, a6, a7] S M = rn ca C_X10_round 62 [some (.ref x), a1, a2, a3, a4, a5, a6, a7] (.ref x :: S) M := (rn_at k_X10_round_61).trans rfl
theorem k_X10_round_62 : lk 62 C_X10_round = some (.bipush (-15), (0, 0, 0, 0)) := by decide +kernel
theorem s_X10_round_62 {ca : Nat → List Value → tM → tO} {M : tM} {L : tL} {S : List Value} : rn ca C_X10_round 62 L S M = rn ca C_X10_round 64 L (.int (iI (-15)) :: S) M := (rn_at k_X10_round_62).trans rfl
theorem k_X10_round_64 : lk 64 C_X10_round = some (.invokevirtual 101, (134, 1, 10, 175)) := by decide +kernel
theorem s_X10_round_64 {ca : Nat → List Value → tM → tO} {M : tM} {L : tL} {v1 : Value} {b : Nat} : rn ca C_X10_round 64 L [v1, .ref b] M = if clsO b = some 10 then rnk ca C_X10_round 67 L [] (ca m_X10_refuse [.ref b, v1] M) else none := (rn_at k_X10_round_64).trans rnx_ite
theorem k_X10_round_67 : lk 67 C_X10_round = some (.ireturn, (0, 0, 0, 0)) := by decide +kernel
theorem s_X10_round_67 {ca : Nat → List Value → tM → tO} {M : tM} {L : tL} {x : Int32} : rn ca C_X10_round 67 L [.int x] M = some (some (.int x), M) := (rn_at k_X10_round_67).trans rfl
theorem k_X10_round_68 : lk 68 C_X10_round = some (.iload 5, (0, 0, 0, 0)) := by decide +kernel
theorem s_X10_round_68 {ca : Nat → List Value → tM → tO} {M : tM} {a0 a1 a2 a3 a4 a6 a7 : Option Value} {x : Int32} {S : List Value} : rn ca C_X10_round 68 [a0, a1, a2, a3, a4, some (.int x), a6, a7] S M = rn ca C_X10_round 70 [a0, a1, a2, a3, a4, some (.int x), a6, a7] (.int x :: S) M := (rn_at k_X10_round_68).trans rfl
theorem k_X10_round_70 : lk 70 C_X10_round = some (.ifCond .eq 13, (83, 0, 0, 0)) := by decide +kernel
theorem s_X10_round_70 {ca : Nat → List Value → tM → tO} {M : tM} {L : tL} {x : Int32} {S : List Value} : rn ca C_X10_round 70 L (.int x :: S) M = if x = iI 0 then rn ca C_X10_round 83 L S M else rn ca C_X10_round 73 L S M := (rn_at k_X10_round_70).trans rnx_ite
theorem k_X10_round_73 : lk 73 C_X10_round = some (.iload_n 3, (0, 0, 0, 0)) := by decide +kernel
theorem s_X10_round_73 {ca : Nat → List Value → tM → tO} {M : tM} {a0 a1 a2 a4 a5 a6 a7 : Option Value} {x : Int32} {S : List Value} : rn ca C_X10_round 73 [a0, a1, a2, some (.int x), a4, a5, a6, a7] S M = rn ca C_X10_round 74 [a0, a1, a2, some (.int x), a4, a5, a6, a7] (.int x :: S) M := (rn_at k_X10_round_73).trans rfl
theorem k_X10_round_74 : lk 74 C_X10_round = some (.ifCond .lt 9, (83, 0, 0, 0)) := by decide +kernel
theorem s_X10_round_74 {ca : Nat → List Value → tM → tO} {M : tM} {L : tL} {x : Int32} {S : List Value} : rn ca C_X10_round 74 L (.int x :: S) M = if x < iI 0 then rn ca C_X10_round 83 L S M else rn ca C_X10_round 77 L S M := (rn_at k_X10_round_74).trans rnx_ite
theorem k_X10_round_77 : lk 77 C_X10_round = some (.iload_n 3, (0, 0, 0, 0)) := by decide +kernel
theorem s_X10_round_77 {ca : Nat → List Value → tM → tO} {M : tM} {a0 a1 a2 a4 a5 a6 a7 : Option Value} {x : Int32} {S : List Value} : rn ca C_X10_round 77 [a0, a1, a2, some (.int x), a4, a5, a6, a7] S M = rn ca C_X10_round 78 [a0, a1, a2, some (.int x), a4, a5, a6, a7] (.int x :: S) M := (rn_at k_X10_round_77).trans rfl
theorem k_X10_round_78 : lk 78 C_X10_round = some (.bipush 60, (0, 0, 0, 0)) := by decide +kernel
theorem s_X10_round_78 {ca : Nat → List Value → tM → tO} {M : tM} {L : tL} {S : List Value} : rn ca C_X10_round 78 L S M = rn ca C_X10_round 80 L (.int (iI 60) :: S) M := (rn_at k_X10_round_78).trans rfl
theorem k_X10_round_80 : lk 80 C_X10_round = some (.if_icmp .le 10, (90, 0, 0, 0)) := by decide +kernel
theorem s_X10_round_80 {ca : Nat → List Value → tM → tO} {M : tM} {L : tL} {x y : Int32} {S : List Value} : rn ca C_X10_round 80 L (.int y :: .int x :: S) M = if x ≤ y then rn ca C_X10_round 90 L S M else rn ca C_X10_round 83 L S M := (rn_at k_X10_round_80).trans rnx_ite
theorem k_X10_round_83 : lk 83 C_X10_round = some (.aload_n 0, (0, 0, 0, 0)) := by decide +kernel
theorem s_X10_round_83 {ca : Nat → List Value → tM → tO} {M : tM} {a1 a2 a3 a4 a5 a6 a7 : Option Value} {x : Nat} {S : List Value} : rn ca C_X10_round 83 [some (.ref x), a1, a2, a3, a4, a5, a6, a7] S M = rn ca C_X10_round 84 [some (.ref x), a1, a2, a3, a4, a5, a6, a7] (.ref x :: S) M := (rn_at k_X10_round_83).trans rfl
theorem k_X10_round_84 : lk 84 C_X10_round = some (.bipush (-16), (0, 0, 0, 0)) := by decide +kernel
theorem s_X10_round_84 {ca : Nat → List Value → tM → tO} {M : tM} {L : tL} {S : List Value} : rn ca C_X10_round 84 L S M = rn ca C_X10_round 86 L (.int (iI (-16)) :: S) M := (rn_at k_X10_round_84).trans rfl
theorem k_X10_round_86 : lk 86 C_X10_round = some (.invokevirtual 101, (134, 1, 10, 175)) := by decide +kernel
theorem s_X10_round_86 {ca : Nat → List Value → tM → tO} {M : tM} {L : tL} {v1 : Value} {b : Nat} : rn ca C_X10_round 86 L [v1, .ref b] M = if clsO b = some 10 then rnk ca C_X10_round 89 L [] (ca m_X10_refuse [.ref b, v1] M) else none := (rn_at k_X10_round_86).trans rnx_ite
theorem k_X10_round_89 : lk 89 C_X10_round = some (.ireturn, (0, 0, 0, 0)) := by decide +kernel
theorem s_X10_round_89 {ca : Nat → List Value → tM → tO} {M : tM} {L : tL} {x : Int32} : rn ca C_X10_round 89 L [.int x] M = some (some (.int x), M) := (rn_at k_X10_round_89).trans rfl
theorem k_X10_round_90 : lk 90 C_X10_round = some (.aload_n 0, (0, 0, 0, 0)) := by decide +kernel
theorem s_X10_round_90 {ca : Nat → List Value → tM → tO} {M : tM} {a1 a2 a3 a4 a5 a6 a7 : Option Value} {x : Nat} {S : List Value} : rn ca C_X10_round 90 [some (.ref x), a1, a2, a3, a4, a5, a6, a7] S M = rn ca C_X10_round 91 [some (.ref x), a1, a2, a3, a4, a5, a6, a7] (.ref x :: S) M := (rn_at k_X10_round_90).trans rfl
theorem k_X10_round_91 : lk 91 C_X10_round = some (.getfield 32, (10, 4, 0, 26)) := by decide +kernel
theorem s_X10_round_91 {ca : Nat → List Value → tM → tO} {M : tM} {L : tL} {b : Nat} {S : List Value} : rn ca C_X10_round 91 L (.ref b :: S) M = if clsO b = some 10 then rn ca C_X10_round 94 L (fv M b 4 :: S) M else none := (rn_at k_X10_round_91).trans rnx_ite
theorem k_X10_round_94 : lk 94 C_X10_round = some (.aload_n 0, (0, 0, 0, 0)) := by decide +kernel
theorem s_X10_round_94 {ca : Nat → List Value → tM → tO} {M : tM} {a1 a2 a3 a4 a5 a6 a7 : Option Value} {x : Nat} {S : List Value} : rn ca C_X10_round 94 [some (.ref x), a1, a2, a3, a4, a5, a6, a7] S M = rn ca C_X10_round 95 [some (.ref x), a1, a2, a3, a4, a5, a6, a7] (.ref x :: S) M := (rn_at k_X10_round_94).trans rfl
theorem k_X10_round_95 : lk 95 C_X10_round = some (.getfield 10, (10, 0, 0, 16)) := by decide +kernel
theorem s_X10_round_95 {ca : Nat → List Value → tM → tO} {M : tM} {L : tL} {b : Nat} {S : List Value} : rn ca C_X10_round 95 L (.ref b :: S) M = if clsO b = some 10 then rn ca C_X10_round 98 L (fv M b 0 :: S) M else none := (rn_at k_X10_round_95).trans rnx_ite
theorem k_X10_round_98 : lk 98 C_X10_round = some (.iload_n 1, (0, 0, 0, 0)) := by decide +kernel
theorem s_X10_round_98 {ca : Nat → List Value → tM → tO} {M : tM} {a0 a2 a3 a4 a5 a6 a7 : Option Value} {x : Int32} {S : List Value} : rn ca C_X10_round 98 [a0, some (.int x), a2, a3, a4, a5, a6, a7] S M = rn ca C_X10_round 99 [a0, some (.int x), a2, a3, a4, a5, a6, a7] (.int x :: S) M := (rn_at k_X10_round_98).trans rfl
theorem k_X10_round_99 : lk 99 C_X10_round = some (.aload_n 0, (0, 0, 0, 0)) := by decide +kernel
theorem s_X10_round_99 {ca : Nat → List Value → tM → tO} {M : tM} {a1 a2 a3 a4 a5 a6 a7 : Option Value} {x : Nat} {S : List Value} : rn ca C_X10_round 99 [some (.ref x), a1, a2, a3, a4, a5, a6, a7] S M = rn ca C_X10_round 100 [some (.ref x), a1, a2, a3, a4, a5, a6, a7] (.ref x :: S) M := (rn_at k_X10_round_99).trans rfl
theorem k_X10_round_100 : lk 100 C_X10_round = some (.getfield 10, (10, 0, 0, 16)) := by decide +kernel
theorem s_X10_round_100 {ca : Nat → List Value → tM → tO} {M : tM} {L : tL} {b : Nat} {S : List Value} : rn ca C_X10_round 100 L (.ref b :: S) M = if clsO b = some 10 then rn ca C_X10_round 103 L (fv M b 0 :: S) M else none := (rn_at k_X10_round_100).trans rnx_ite
theorem k_X10_round_103 : lk 103 C_X10_round = some (.getfield 206, (4, 13, 0, 100034)) := by decide +kernel
theorem s_X10_round_103 {ca : Nat → List Value → tM → tO} {M : tM} {L : tL} {b : Nat} {S : List Value} : rn ca C_X10_round 103 L (.ref b :: S) M = if clsO b = some 4 then rn ca C_X10_round 106 L (fv M b 13 :: S) M else none := (rn_at k_X10_round_103).trans rnx_ite
theorem k_X10_round_106 : lk 106 C_X10_round = some (.invokevirtual 250, (79, 3, 9, 801)) := by decide +kernel
theorem s_X10_round_106 {ca : Nat → List Value → tM → tO} {M : tM} {L : tL} {v1 v2 v3 : Value} {b : Nat} : rn ca C_X10_round 106 L [v3, v2, v1, .ref b] M = if clsO b = some 9 then rnk ca C_X10_round 109 L [] (ca m_X9_prepareFor [.ref b, v1, v2, v3] M) else none := (rn_at k_X10_round_106).trans rnx_ite
theorem k_X10_round_109 : lk 109 C_X10_round = some (.aload_n 0, (0, 0, 0, 0)) := by decide +kernel
theorem s_X10_round_109 {ca : Nat → List Value → tM → tO} {M : tM} {a1 a2 a3 a4 a5 a6 a7 : Option Value} {x : Nat} {S : List Value} : rn ca C_X10_round 109 [some (.ref x), a1, a2, a3, a4, a5, a6, a7] S M = rn ca C_X10_round 110 [some (.ref x), a1, a2, a3, a4, a5, a6, a7] (.ref x :: S) M := (rn_at k_X10_round_109).trans rfl
theorem k_X10_round_110 : lk 110 C_X10_round = some (.getfield 32, (10, 4, 0, 26)) := by decide +kernel
theorem s_X10_round_110 {ca : Nat → List Value → tM → tO} {M : tM} {L : tL} {b : Nat} {S : List Value} : rn ca C_X10_round 110 L (.ref b :: S) M = if clsO b = some 10 then rn ca C_X10_round 113 L (fv M b 4 :: S) M else none := (rn_at k_X10_round_110).trans rnx_ite
theorem k_X10_round_113 : lk 113 C_X10_round = some (.aload_n 0, (0, 0, 0, 0)) := by decide +kernel
theorem s_X10_round_113 {ca : Nat → List Value → tM → tO} {M : tM} {a1 a2 a3 a4 a5 a6 a7 : Option Value} {x : Nat} {S : List Value} : rn ca C_X10_round 113 [some (.ref x), a1, a2, a3, a4, a5, a6, a7] S M = rn ca C_X10_round 114 [some (.ref x), a1, a2, a3, a4, a5, a6, a7] (.ref x :: S) M := (rn_at k_X10_round_113).trans rfl
theorem k_X10_round_114 : lk 114 C_X10_round = some (.getfield 10, (10, 0, 0, 16)) := by decide +kernel
theorem s_X10_round_114 {ca : Nat → List Value → tM → tO} {M : tM} {L : tL} {b : Nat} {S : List Value} : rn ca C_X10_round 114 L (.ref b :: S) M = if clsO b = some 10 then rn ca C_X10_round 117 L (fv M b 0 :: S) M else none := (rn_at k_X10_round_114).trans rnx_ite
theorem k_X10_round_117 : lk 117 C_X10_round = some (.invokevirtual 271, (84, 1, 9, 828)) := by decide +kernel
theorem s_X10_round_117 {ca : Nat → List Value → tM → tO} {M : tM} {L : tL} {v1 : Value} {b : Nat} : rn ca C_X10_round 117 L [v1, .ref b] M = if clsO b = some 9 then rnk ca C_X10_round 120 L [] (ca m_X9_fillTable [.ref b, v1] M) else none := (rn_at k_X10_round_117).trans rnx_ite
theorem k_X10_round_120 : lk 120 C_X10_round = some (.aload_n 0, (0, 0, 0, 0)) := by decide +kernel
theorem s_X10_round_120 {ca : Nat → List Value → tM → tO} {M : tM} {a1 a2 a3 a4 a5 a6 a7 : Option Value} {x : Nat} {S : List Value} : rn ca C_X10_round 120 [some (.ref x), a1, a2, a3, a4, a5, a6, a7] S M = rn ca C_X10_round 121 [some (.ref x), a1, a2, a3, a4, a5, a6, a7] (.ref x :: S) M := (rn_at k_X10_round_120).trans rfl
theorem k_X10_round_121 : lk 121 C_X10_round = some (.getfield 10, (10, 0, 0, 16)) := by decide +kernel
theorem s_X10_round_121 {ca : Nat → List Value → tM → tO} {M : tM} {L : tL} {b : Nat} {S : List Value} : rn ca C_X10_round 121 L (.ref b :: S) M = if clsO b = some 10 then rn ca C_X10_round 124 L (fv M b 0 :: S) M else none := (rn_at k_X10_round_121).trans rnx_ite
theorem k_X10_round_124 : lk 124 C_X10_round = some (.getfield 161, (4, 12, 0, 100030)) := by decide +kernel
theorem s_X10_round_124 {ca : Nat → List Value → tM → tO} {M : tM} {L : tL} {b : Nat} {S : List Value} : rn ca C_X10_round 124 L (.ref b :: S) M = if clsO b = some 4 then rn ca C_X10_round 127 L (fv M b 12 :: S) M else none := (rn_at k_X10_round_124).trans rnx_ite
theorem k_X10_round_127 : lk 127 C_X10_round = some (.iload_n 1, (0, 0, 0, 0)) := by decide +kernel
theorem s_X10_round_127 {ca : Nat → List Value → tM → tO} {M : tM} {a0 a2 a3 a4 a5 a6 a7 : Option Value} {x : Int32} {S : List Value} : rn ca C_X10_round 127 [a0, some (.int x), a2, a3, a4, a5, a6, a7] S M = rn ca C_X10_round 128 [a0, some (.int x), a2, a3, a4, a5, a6, a7] (.int x :: S) M := (rn_at k_X10_round_127).trans rfl
theorem k_X10_round_128 : lk 128 C_X10_round = some (.iaload, (0, 0, 0, 0)) := by decide +kernel
theorem s_X10_round_128 {ca : Nat → List Value → tM → tO} {M : tM} {L : tL} {a : Nat} {i : Int32} {S : List Value} : rn ca C_X10_round 128 L (.int i :: .ref a :: S) M = if (akind a = 0 ∨ akind a = 6 ∨ akind a = 7) ∧ inb i (alen M a) then rn ca C_X10_round 129 L (.int (M.1 a i.toInt.toNat) :: S) M else none := (rn_at k_X10_round_128).trans rnx_ite
theorem k_X10_round_129 : lk 129 C_X10_round = some (.istore 6, (0, 0, 0, 0)) := by decide +kernel
theorem s_X10_round_129 {ca : Nat → List Value → tM → tO} {M : tM} {a0 a1 a2 a3 a4 a5 a6 a7 : Option Value} {x : Int32} {S : List Value} : rn ca C_X10_round 129 [a0, a1, a2, a3, a4, a5, a6, a7] (.int x :: S) M = rn ca C_X10_round 131 [a0, a1, a2, a3, a4, a5, some (.int x), a7] S M := (rn_at k_X10_round_129).trans rfl
theorem k_X10_round_131 : lk 131 C_X10_round = some (.aload_n 0, (0, 0, 0, 0)) := by decide +kernel
theorem s_X10_round_131 {ca : Nat → List Value → tM → tO} {M : tM} {a1 a2 a3 a4 a5 a6 a7 : Option Value} {x : Nat} {S : List Value} : rn ca C_X10_round 131 [some (.ref x), a1, a2, a3, a4, a5, a6, a7] S M = rn ca C_X10_round 132 [some (.ref x), a1, a2, a3, a4, a5, a6, a7] (.ref x :: S) M := (rn_at k_X10_round_131).trans rfl
theorem k_X10_round_132 : lk 132 C_X10_round = some (.getfield 39, (10, 5, 0, 30)) := by decide +kernel
theorem s_X10_round_132 {ca : Nat → List Value → tM → tO} {M : tM} {L : tL} {b : Nat} {S : List Value} : rn ca C_X10_round 132 L (.ref b :: S) M = if clsO b = some 10 then rn ca C_X10_round 135 L (fv M b 5 :: S) M else none := (rn_at k_X10_round_132).trans rnx_ite
theorem k_X10_round_135 : lk 135 C_X10_round = some (.aload_n 0, (0, 0, 0, 0)) := by decide +kernel
theorem s_X10_round_135 {ca : Nat → List Value → tM → tO} {M : tM} {a1 a2 a3 a4 a5 a6 a7 : Option Value} {x : Nat} {S : List Value} : rn ca C_X10_round 135 [some (.ref x), a1, a2, a3, a4, a5, a6, a7] S M = rn ca C_X10_round 136 [some (.ref x), a1, a2, a3, a4, a5, a6, a7] (.ref x :: S) M := (rn_at k_X10_round_135).trans rfl
theorem k_X10_round_136 : lk 136 C_X10_round = some (.getfield 32, (10, 4, 0, 26)) := by decide +kernel
theorem s_X10_round_136 {ca : Nat → List Value → tM → tO} {M : tM} {L : tL} {b : Nat} {S : List Value} : rn ca C_X10_round 136 L (.ref b :: S) M = if clsO b = some 10 then rn ca C_X10_round 139 L (fv M b 4 :: S) M else none := (rn_at k_X10_round_136).trans rnx_ite
theorem k_X10_round_139 : lk 139 C_X10_round = some (.iload 6, (0, 0, 0, 0)) := by decide +kernel
theorem s_X10_round_139 {ca : Nat → List Value → tM → tO} {M : tM} {a0 a1 a2 a3 a4 a5 a7 : Option Value} {x : Int32} {S : List Value} : rn ca C_X10_round 139 [a0, a1, a2, a3, a4, a5, some (.int x), a7] S M = rn ca C_X10_round 141 [a0, a1, a2, a3, a4, a5, some (.int x), a7] (.int x :: S) M := (rn_at k_X10_round_139).trans rfl
theorem k_X10_round_141 : lk 141 C_X10_round = some (.iload_n 2, (0, 0, 0, 0)) := by decide +kernel
theorem s_X10_round_141 {ca : Nat → List Value → tM → tO} {M : tM} {a0 a1 a3 a4 a5 a6 a7 : Option Value} {x : Int32} {S : List Value} : rn ca C_X10_round 141 [a0, a1, some (.int x), a3, a4, a5, a6, a7] S M = rn ca C_X10_round 142 [a0, a1, some (.int x), a3, a4, a5, a6, a7] (.int x :: S) M := (rn_at k_X10_round_141).trans rfl
theorem k_X10_round_142 : lk 142 C_X10_round = some (.iload_n 3, (0, 0, 0, 0)) := by decide +kernel
theorem s_X10_round_142 {ca : Nat → List Value → tM → tO} {M : tM} {a0 a1 a2 a4 a5 a6 a7 : Option Value} {x : Int32} {S : List Value} : rn ca C_X10_round 142 [a0, a1, a2, some (.int x), a4, a5, a6, a7] S M = rn ca C_X10_round 143 [a0, a1, a2, some (.int x), a4, a5, a6, a7] (.int x :: S) M := (rn_at k_X10_round_142).trans rfl
theorem k_X10_round_143 : lk 143 C_X10_round = some (.invokevirtual 274, (59, 4, 7, 829)) := by decide +kernel
theorem s_X10_round_143 {ca : Nat → List Value → tM → tO} {M : tM} {L : tL} {v1 v2 v3 v4 : Value} {b : Nat} : rn ca C_X10_round 143 L [v4, v3, v2, v1, .ref b] M = if clsO b = some 7 then rnk ca C_X10_round 146 L [] (ca m_X7_leastMinutes [.ref b, v1, v2, v3, v4] M) else none := (rn_at k_X10_round_143).trans rnx_ite
theorem k_X10_round_146 : lk 146 C_X10_round = some (.istore 7, (0, 0, 0, 0)) := by decide +kernel
theorem s_X10_round_146 {ca : Nat → List Value → tM → tO} {M : tM} {a0 a1 a2 a3 a4 a5 a6 a7 : Option Value} {x : Int32} {S : List Value} : rn ca C_X10_round 146 [a0, a1, a2, a3, a4, a5, a6, a7] (.int x :: S) M = rn ca C_X10_round 148 [a0, a1, a2, a3, a4, a5, a6, some (.int x)] S M := (rn_at k_X10_round_146).trans rfl
theorem k_X10_round_148 : lk 148 C_X10_round = some (.iload 7, (0, 0, 0, 0)) := by decide +kernel
theorem s_X10_round_148 {ca : Nat → List Value → tM → tO} {M : tM} {a0 a1 a2 a3 a4 a5 a6 : Option Value} {x : Int32} {S : List Value} : rn ca C_X10_round 148 [a0, a1, a2, a3, a4, a5, a6, some (.int x)] S M = rn ca C_X10_round 150 [a0, a1, a2, a3, a4, a5, a6, some (.int x)] (.int x :: S) M := (rn_at k_X10_round_148).trans rfl
theorem k_X10_round_150 : lk 150 C_X10_round = some (.sipush 9999, (0, 0, 0, 0)) := by decide +kernel
theorem s_X10_round_150 {ca : Nat → List Value → tM → tO} {M : tM} {L : tL} {S : List Value} : rn ca C_X10_round 150 L S M = rn ca C_X10_round 153 L (.int (iI 9999) :: S) M := (rn_at k_X10_round_150).trans rfl
theorem k_X10_round_153 : lk 153 C_X10_round = some (.if_icmp .ne 5, (158, 0, 0, 0)) := by decide +kernel
theorem s_X10_round_153 {ca : Nat → List Value → tM → tO} {M : tM} {L : tL} {x y : Int32} {S : List Value} : rn ca C_X10_round 153 L (.int y :: .int x :: S) M = if ¬ x = y then rn ca C_X10_round 158 L S M else rn ca C_X10_round 156 L S M := (rn_at k_X10_round_153).trans rnx_ite
theorem k_X10_round_156 : lk 156 C_X10_round = some (.iconst (-1), (0, 0, 0, 0)) := by decide +kernel
theorem s_X10_round_156 {ca : Nat → List Value → tM → tO} {M : tM} {L : tL} {S : List Value} : rn ca C_X10_round 156 L S M = rn ca C_X10_round 157 L (.int (iI (-1)) :: S) M := (rn_at k_X10_round_156).trans rfl
theorem k_X10_round_157 : lk 157 C_X10_round = some (.ireturn, (0, 0, 0, 0)) := by decide +kernel
theorem s_X10_round_157 {ca : Nat → List Value → tM → tO} {M : tM} {L : tL} {x : Int32} : rn ca C_X10_round 157 L [.int x] M = some (some (.int x), M) := (rn_at k_X10_round_157).trans rfl
theorem k_X10_round_158 : lk 158 C_X10_round = some (.iload 4, (0, 0, 0, 0)) := by decide +kernel
theorem s_X10_round_158 {ca : Nat → List Value → tM → tO} {M : tM} {a0 a1 a2 a3 a5 a6 a7 : Option Value} {x : Int32} {S : List Value} : rn ca C_X10_round 158 [a0, a1, a2, a3, some (.int x), a5, a6, a7] S M = rn ca C_X10_round 160 [a0, a1, a2, a3, some (.int x), a5, a6, a7] (.int x :: S) M := (rn_at k_X10_round_158).trans rfl
theorem k_X10_round_160 : lk 160 C_X10_round = some (.iconst (-1), (0, 0, 0, 0)) := by decide +kernel
theorem s_X10_round_160 {ca : Nat → List Value → tM → tO} {M : tM} {L : tL} {S : List Value} : rn ca C_X10_round 160 L S M = rn ca C_X10_round 161 L (.int (iI (-1)) :: S) M := (rn_at k_X10_round_160).trans rfl
theorem k_X10_round_161 : lk 161 C_X10_round = some (.if_icmp .ne 8, (169, 0, 0, 0)) := by decide +kernel
theorem s_X10_round_161 {ca : Nat → List Value → tM → tO} {M : tM} {L : tL} {x y : Int32} {S : List Value} : rn ca C_X10_round 161 L (.int y :: .int x :: S) M = if ¬ x = y then rn ca C_X10_round 169 L S M else rn ca C_X10_round 164 L S M := (rn_at k_X10_round_161).trans rnx_ite
theorem k_X10_round_164 : lk 164 C_X10_round = some (.iload 7, (0, 0, 0, 0)) := by decide +kernel
theorem s_X10_round_164 {ca : Nat → List Value → tM → tO} {M : tM} {a0 a1 a2 a3 a4 a5 a6 : Option Value} {x : Int32} {S : List Value} : rn ca C_X10_round 164 [a0, a1, a2, a3, a4, a5, a6, some (.int x)] S M = rn ca C_X10_round 166 [a0, a1, a2, a3, a4, a5, a6, some (.int x)] (.int x :: S) M := (rn_at k_X10_round_164).trans rfl
theorem k_X10_round_166 : lk 166 C_X10_round = some (.goto 20, (186, 0, 0, 0)) := by decide +kernel
theorem s_X10_round_166 {ca : Nat → List Value → tM → tO} {M : tM} {L : tL} {S : List Value} : rn ca C_X10_round 166 L S M = rn ca C_X10_round 186 L S M := (rn_at k_X10_round_166).trans rfl
theorem k_X10_round_169 : lk 169 C_X10_round = some (.aload_n 0, (0, 0, 0, 0)) := by decide +kernel
theorem s_X10_round_169 {ca : Nat → List Value → tM → tO} {M : tM} {a1 a2 a3 a4 a5 a6 a7 : Option Value} {x : Nat} {S : List Value} : rn ca C_X10_round 169 [some (.ref x), a1, a2, a3, a4, a5, a6, a7] S M = rn ca C_X10_round 170 [some (.ref x), a1, a2, a3, a4, a5, a6, a7] (.ref x :: S) M := (rn_at k_X10_round_169).trans rfl
theorem k_X10_round_170 : lk 170 C_X10_round = some (.getfield 39, (10, 5, 0, 30)) := by decide +kernel
theorem s_X10_round_170 {ca : Nat → List Value → tM → tO} {M : tM} {L : tL} {b : Nat} {S : List Value} : rn ca C_X10_round 170 L (.ref b :: S) M = if clsO b = some 10 then rn ca C_X10_round 173 L (fv M b 5 :: S) M else none := (rn_at k_X10_round_170).trans rnx_ite
theorem k_X10_round_173 : lk 173 C_X10_round = some (.aload_n 0, (0, 0, 0, 0)) := by decide +kernel
theorem s_X10_round_173 {ca : Nat → List Value → tM → tO} {M : tM} {a1 a2 a3 a4 a5 a6 a7 : Option Value} {x : Nat} {S : List Value} : rn ca C_X10_round 173 [some (.ref x), a1, a2, a3, a4, a5, a6, a7] S M = rn ca C_X10_round 174 [some (.ref x), a1, a2, a3, a4, a5, a6, a7] (.ref x :: S) M := (rn_at k_X10_round_173).trans rfl
theorem k_X10_round_174 : lk 174 C_X10_round = some (.getfield 32, (10, 4, 0, 26)) := by decide +kernel
theorem s_X10_round_174 {ca : Nat → List Value → tM → tO} {M : tM} {L : tL} {b : Nat} {S : List Value} : rn ca C_X10_round 174 L (.ref b :: S) M = if clsO b = some 10 then rn ca C_X10_round 177 L (fv M b 4 :: S) M else none := (rn_at k_X10_round_174).trans rnx_ite
theorem k_X10_round_177 : lk 177 C_X10_round = some (.iload 6, (0, 0, 0, 0)) := by decide +kernel
theorem s_X10_round_177 {ca : Nat → List Value → tM → tO} {M : tM} {a0 a1 a2 a3 a4 a5 a7 : Option Value} {x : Int32} {S : List Value} : rn ca C_X10_round 177 [a0, a1, a2, a3, a4, a5, some (.int x), a7] S M = rn ca C_X10_round 179 [a0, a1, a2, a3, a4, a5, some (.int x), a7] (.int x :: S) M := (rn_at k_X10_round_177).trans rfl
theorem k_X10_round_179 : lk 179 C_X10_round = some (.iload_n 2, (0, 0, 0, 0)) := by decide +kernel
theorem s_X10_round_179 {ca : Nat → List Value → tM → tO} {M : tM} {a0 a1 a3 a4 a5 a6 a7 : Option Value} {x : Int32} {S : List Value} : rn ca C_X10_round 179 [a0, a1, some (.int x), a3, a4, a5, a6, a7] S M = rn ca C_X10_round 180 [a0, a1, some (.int x), a3, a4, a5, a6, a7] (.int x :: S) M := (rn_at k_X10_round_179).trans rfl
theorem k_X10_round_180 : lk 180 C_X10_round = some (.iload_n 3, (0, 0, 0, 0)) := by decide +kernel
theorem s_X10_round_180 {ca : Nat → List Value → tM → tO} {M : tM} {a0 a1 a2 a4 a5 a6 a7 : Option Value} {x : Int32} {S : List Value} : rn ca C_X10_round 180 [a0, a1, a2, some (.int x), a4, a5, a6, a7] S M = rn ca C_X10_round 181 [a0, a1, a2, some (.int x), a4, a5, a6, a7] (.int x :: S) M := (rn_at k_X10_round_180).trans rfl
theorem k_X10_round_181 : lk 181 C_X10_round = some (.iload 4, (0, 0, 0, 0)) := by decide +kernel
theorem s_X10_round_181 {ca : Nat → List Value → tM → tO} {M : tM} {a0 a1 a2 a3 a5 a6 a7 : Option Value} {x : Int32} {S : List Value} : rn ca C_X10_round 181 [a0, a1, a2, a3, some (.int x), a5, a6, a7] S M = rn ca C_X10_round 183 [a0, a1, a2, a3, some (.int x), a5, a6, a7] (.int x :: S) M := (rn_at k_X10_round_181).trans rfl
theorem k_X10_round_183 : lk 183 C_X10_round = some (.invokevirtual 278, (63, 5, 7, 847)) := by decide +kernel
theorem s_X10_round_183 {ca : Nat → List Value → tM → tO} {M : tM} {L : tL} {v1 v2 v3 v4 v5 : Value} {b : Nat} : rn ca C_X10_round 183 L [v5, v4, v3, v2, v1, .ref b] M = if clsO b = some 7 then rnk ca C_X10_round 186 L [] (ca m_X7_deskOfOrder [.ref b, v1, v2, v3, v4, v5] M) else none := (rn_at k_X10_round_183).trans rnx_ite
theorem k_X10_round_186 : lk 186 C_X10_round = some (.ireturn, (0, 0, 0, 0)) := by decide +kernel
theorem s_X10_round_186 {ca : Nat → List Value → tM → tO} {M : tM} {L : tL} {x : Int32} : rn ca C_X10_round 186 L [.int x] M = some (some (.int x), M) := (rn_at k_X10_round_186).trans rfl
theorem k_X10_meet_0 : lk 0 C_X10_meet = some (.aload_n 0, (0, 0, 0, 0)) := by decide +kernel
theorem s_X10_meet_0 {ca : Nat → List Value → tM → tO} {M : tM} {a1 a2 a3 a4 : Option Value} {x : Nat} {S : List Value} : rn ca C_X10_meet 0 [some (.ref x), a1, a2, a3, a4] S M = rn ca C_X10_meet 1 [some (.ref x), a1, a2, a3, a4] (.ref x :: S) M := (rn_at k_X10_meet_0).trans rfl
theorem k_X10_meet_1 : lk 1 C_X10_meet = some (.getfield 10, (10, 0, 0, 16)) := by decide +kernel
theorem s_X10_meet_1 {ca : Nat → List Value → tM → tO} {M : tM} {L : tL} {b : Nat} {S : List Value} : rn ca C_X10_meet 1 L (.ref b :: S) M = if clsO b = some 10 then rn ca C_X10_meet 4 L (fv M b 0 :: S) M else none := (rn_at k_X10_meet_1).trans rnx_ite
theorem k_X10_meet_4 : lk 4 C_X10_meet = some (.iload_n 1, (0, 0, 0, 0)) := by decide +kernel
theorem s_X10_meet_4 {ca : Nat → List Value → tM → tO} {M : tM} {a0 a2 a3 a4 : Option Value} {x : Int32} {S : List Value} : rn ca C_X10_meet 4 [a0, some (.int x), a2, a3, a4] S M = rn ca C_X10_meet 5 [a0, some (.int x), a2, a3, a4] (.int x :: S) M := (rn_at k_X10_meet_4).trans rfl
theorem k_X10_meet_5 : lk 5 C_X10_meet = some (.invokevirtual 135, (20, 1, 4, 290)) := by decide +kernel
theorem s_X10_meet_5 {ca : Nat → List Value → tM → tO} {M : tM} {L : tL} {v1 : Value} {b : Nat} : rn ca C_X10_meet 5 L [v1, .ref b] M = if clsO b = some 4 then rnk ca C_X10_meet 8 L [] (ca m_X4_hasCapsule [.ref b, v1] M) else none := (rn_at k_X10_meet_5).trans rnx_ite
theorem k_X10_meet_8 : lk 8 C_X10_meet = some (.ifCond .eq 19, (27, 0, 0, 0)) := by decide +kernel
theorem s_X10_meet_8 {ca : Nat → List Value → tM → tO} {M : tM} {L : tL} {x : Int32} {S : List Value} : rn ca C_X10_meet 8 L (.int x :: S) M = if x = iI 0 then rn ca C_X10_meet 27 L S M else rn ca C_X10_meet 11 L S M := (rn_at k_X10_meet_8).trans rnx_ite
theorem k_X10_meet_11 : lk 11 C_X10_meet = some (.aload_n 0, (0, 0, 0, 0)) := by decide +kernel
theorem s_X10_meet_11 {ca : Nat → List Value → tM → tO} {M : tM} {a1 a2 a3 a4 : Option Value} {x : Nat} {S : List Value} : rn ca C_X10_meet 11 [some (.ref x), a1, a2, a3, a4] S M = rn ca C_X10_meet 12 [some (.ref x), a1, a2, a3, a4] (.ref x :: S) M := (rn_at k_X10_meet_11).trans rfl
theorem k_X10_meet_12 : lk 12 C_X10_meet = some (.getfield 10, (10, 0, 0, 16)) := by decide +kernel
theorem s_X10_meet_12 {ca : Nat → List Value → tM → tO} {M : tM} {L : tL} {b : Nat} {S : List Value} : rn ca C_X10_meet 12 L (.ref b :: S) M = if clsO b = some 10 then rn ca C_X10_meet 15 L (fv M b 0 :: S) M else none := (rn_at k_X10_meet_12).trans rnx_ite
theorem k_X10_meet_15 : lk 15 C_X10_meet = some (.iload_n 2, (0, 0, 0, 0)) := by decide +kernel
theorem s_X10_meet_15 {ca : Nat → List Value → tM → tO} {M : tM} {a0 a1 a3 a4 : Option Value} {x : Int32} {S : List Value} : rn ca C_X10_meet 15 [a0, a1, some (.int x), a3, a4] S M = rn ca C_X10_meet 16 [a0, a1, some (.int x), a3, a4] (.int x :: S) M := (rn_at k_X10_meet_15).trans rfl
theorem k_X10_meet_16 : lk 16 C_X10_meet = some (.invokevirtual 135, (20, 1, 4, 290)) := by decide +kernel
theorem s_X10_meet_16 {ca : Nat → List Value → tM → tO} {M : tM} {L : tL} {v1 : Value} {b : Nat} : rn ca C_X10_meet 16 L [v1, .ref b] M = if clsO b = some 4 then rnk ca C_X10_meet 19 L [] (ca m_X4_hasCapsule [.ref b, v1] M) else none := (rn_at k_X10_meet_16).trans rnx_ite
theorem k_X10_meet_19 : lk 19 C_X10_meet = some (.ifCond .eq 8, (27, 0, 0, 0)) := by decide +kernel
theorem s_X10_meet_19 {ca : Nat → List Value → tM → tO} {M : tM} {L : tL} {x : Int32} {S : List Value} : rn ca C_X10_meet 19 L (.int x :: S) M = if x = iI 0 then rn ca C_X10_meet 27 L S M else rn ca C_X10_meet 22 L S M := (rn_at k_X10_meet_19).trans rnx_ite
theorem k_X10_meet_22 : lk 22 C_X10_meet = some (.iload_n 1, (0, 0, 0, 0)) := by decide +kernel
theorem s_X10_meet_22 {ca : Nat → List Value → tM → tO} {M : tM} {a0 a2 a3 a4 : Option Value} {x : Int32} {S : List Value} : rn ca C_X10_meet 22 [a0, some (.int x), a2, a3, a4] S M = rn ca C_X10_meet 23 [a0, some (.int x), a2, a3, a4] (.int x :: S) M := (rn_at k_X10_meet_22).trans rfl
theorem k_X10_meet_23 : lk 23 C_X10_meet = some (.iload_n 2, (0, 0, 0, 0)) := by decide +kernel
theorem s_X10_meet_23 {ca : Nat → List Value → tM → tO} {M : tM} {a0 a1 a3 a4 : Option Value} {x : Int32} {S : List Value} : rn ca C_X10_meet 23 [a0, a1, some (.int x), a3, a4] S M = rn ca C_X10_meet 24 [a0, a1, some (.int x), a3, a4] (.int x :: S) M := (rn_at k_X10_meet_23).trans rfl
theorem k_X10_meet_24 : lk 24 C_X10_meet = some (.if_icmp .ne 10, (34, 0, 0, 0)) := by decide +kernel
theorem s_X10_meet_24 {ca : Nat → List Value → tM → tO} {M : tM} {L : tL} {x y : Int32} {S : List Value} : rn ca C_X10_meet 24 L (.int y :: .int x :: S) M = if ¬ x = y then rn ca C_X10_meet 34 L S M else rn ca C_X10_meet 27 L S M := (rn_at k_X10_meet_24).trans rnx_ite
theorem k_X10_meet_27 : lk 27 C_X10_meet = some (.aload_n 0, (0, 0, 0, 0)) := by decide +kernel
theorem s_X10_meet_27 {ca : Nat → List Value → tM → tO} {M : tM} {a1 a2 a3 a4 : Option Value} {x : Nat} {S : List Value} : rn ca C_X10_meet 27 [some (.ref x), a1, a2, a3, a4] S M = rn ca C_X10_meet 28 [some (.ref x), a1, a2, a3, a4] (.ref x :: S) M := (rn_at k_X10_meet_27).trans rfl
theorem k_X10_meet_28 : lk 28 C_X10_meet = some (.bipush (-11), (0, 0, 0, 0)) := by decide +kernel
theorem s_X10_meet_28 {ca : Nat → List Value → tM → tO} {M : tM} {L : tL} {S : List Value} : rn ca C_X10_meet 28 L S M = rn ca C_X10_meet 30 L (.int (iI (-11)) :: S) M := (rn_at k_X10_meet_28).trans rfl
theorem k_X10_meet_30 : lk 30 C_X10_meet = some (.invokevirtual 101, (134, 1, 10, 175)) := by decide +kernel
theorem s_X10_meet_30 {ca : Nat → List Value → tM → tO} {M : tM} {L : tL} {v1 : Value} {b : Nat} : rn ca C_X10_meet 30 L [v1, .ref b] M = if clsO b = some 10 then rnk ca C_X10_meet 33 L [] (ca m_X10_refuse [.ref b, v1] M) else none := (rn_at k_X10_meet_30).trans rnx_ite
theorem k_X10_meet_33 : lk 33 C_X10_meet = some (.ireturn, (0, 0, 0, 0)) := by decide +kernel
theorem s_X10_meet_33 {ca : Nat → List Value → tM → tO} {M : tM} {L : tL} {x : Int32} : rn ca C_X10_meet 33 L [.int x] M = some (some (.int x), M) := (rn_at k_X10_meet_33).trans rfl
theorem k_X10_meet_34 : lk 34 C_X10_meet = some (.iload_n 3, (0, 0, 0, 0)) := by decide +kernel
theorem s_X10_meet_34 {ca : Nat → List Value → tM → tO} {M : tM} {a0 a1 a2 a4 : Option Value} {x : Int32} {S : List Value} : rn ca C_X10_meet 34 [a0, a1, a2, some (.int x), a4] S M = rn ca C_X10_meet 35 [a0, a1, a2, some (.int x), a4] (.int x :: S) M := (rn_at k_X10_meet_34).trans rfl
theorem k_X10_meet_35 : lk 35 C_X10_meet = some (.ifCond .eq 15, (50, 0, 0, 0)) := by decide +kernel
theorem s_X10_meet_35 {ca : Nat → List Value → tM → tO} {M : tM} {L : tL} {x : Int32} {S : List Value} : rn ca C_X10_meet 35 L (.int x :: S) M = if x = iI 0 then rn ca C_X10_meet 50 L S M else rn ca C_X10_meet 38 L S M := (rn_at k_X10_meet_35).trans rnx_ite
theorem k_X10_meet_38 : lk 38 C_X10_meet = some (.iload_n 3, (0, 0, 0, 0)) := by decide +kernel
theorem s_X10_meet_38 {ca : Nat → List Value → tM → tO} {M : tM} {a0 a1 a2 a4 : Option Value} {x : Int32} {S : List Value} : rn ca C_X10_meet 38 [a0, a1, a2, some (.int x), a4] S M = rn ca C_X10_meet 39 [a0, a1, a2, some (.int x), a4] (.int x :: S) M := (rn_at k_X10_meet_38).trans rfl
theorem k_X10_meet_39 : lk 39 C_X10_meet = some (.iconst 1, (0, 0, 0, 0)) := by decide +kernel
theorem s_X10_meet_39 {ca : Nat → List Value → tM → tO} {M : tM} {L : tL} {S : List Value} : rn ca C_X10_meet 39 L S M = rn ca C_X10_meet 40 L (.int (iI 1) :: S) M := (rn_at k_X10_meet_39).trans rfl
theorem k_X10_meet_40 : lk 40 C_X10_meet = some (.if_icmp .eq 10, (50, 0, 0, 0)) := by decide +kernel
theorem s_X10_meet_40 {ca : Nat → List Value → tM → tO} {M : tM} {L : tL} {x y : Int32} {S : List Value} : rn ca C_X10_meet 40 L (.int y :: .int x :: S) M = if x = y then rn ca C_X10_meet 50 L S M else rn ca C_X10_meet 43 L S M := (rn_at k_X10_meet_40).trans rnx_ite
theorem k_X10_meet_43 : lk 43 C_X10_meet = some (.aload_n 0, (0, 0, 0, 0)) := by decide +kernel
theorem s_X10_meet_43 {ca : Nat → List Value → tM → tO} {M : tM} {a1 a2 a3 a4 : Option Value} {x : Nat} {S : List Value} : rn ca C_X10_meet 43 [some (.ref x), a1, a2, a3, a4] S M = rn ca C_X10_meet 44 [some (.ref x), a1, a2, a3, a4] (.ref x :: S) M := (rn_at k_X10_meet_43).trans rfl
theorem k_X10_meet_44 : lk 44 C_X10_meet = some (.bipush (-15), (0, 0, 0, 0)) := by decide +kernel
theorem s_X10_meet_44 {ca : Nat → List Value → tM → tO} {M : tM} {L : tL} {S : List Value} : rn ca C_X10_meet 44 L S M = rn ca C_X10_meet 46 L (.int (iI (-15)) :: S) M := (rn_at k_X10_meet_44).trans rfl
theorem k_X10_meet_46 : lk 46 C_X10_meet = some (.invokevirtual 101, (134, 1, 10, 175)) := by decide +kernel
theorem s_X10_meet_46 {ca : Nat → List Value → tM → tO} {M : tM} {L : tL} {v1 : Value} {b : Nat} : rn ca C_X10_meet 46 L [v1, .ref b] M = if clsO b = some 10 then rnk ca C_X10_meet 49 L [] (ca m_X10_refuse [.ref b, v1] M) else none := (rn_at k_X10_meet_46).trans rnx_ite
theorem k_X10_meet_49 : lk 49 C_X10_meet = some (.ireturn, (0, 0, 0, 0)) := by decide +kernel
theorem s_X10_meet_49 {ca : Nat → List Value → tM → tO} {M : tM} {L : tL} {x : Int32} : rn ca C_X10_meet 49 L [.int x] M = some (some (.int x), M) := (rn_at k_X10_meet_49).trans rfl
theorem k_X10_meet_50 : lk 50 C_X10_meet = some (.aload_n 0, (0, 0, 0, 0)) := by decide +kernel
theorem s_X10_meet_50 {ca : Nat → List Value → tM → tO} {M : tM} {a1 a2 a3 a4 : Option Value} {x : Nat} {S : List Value} : rn ca C_X10_meet 50 [some (.ref x), a1, a2, a3, a4] S M = rn ca C_X10_meet 51 [some (.ref x), a1, a2, a3, a4] (.ref x :: S) M := (rn_at k_X10_meet_50).trans rfl
theorem k_X10_meet_51 : lk 51 C_X10_meet = some (.getfield 32, (10, 4, 0, 26)) := by decide +kernel
theorem s_X10_meet_51 {ca : Nat → List Value → tM → tO} {M : tM} {L : tL} {b : Nat} {S : List Value} : rn ca C_X10_meet 51 L (.ref b :: S) M = if clsO b = some 10 then rn ca C_X10_meet 54 L (fv M b 4 :: S) M else none := (rn_at k_X10_meet_51).trans rnx_ite
theorem k_X10_meet_54 : lk 54 C_X10_meet = some (.aload_n 0, (0, 0, 0, 0)) := by decide +kernel
theorem s_X10_meet_54 {ca : Nat → List Value → tM → tO} {M : tM} {a1 a2 a3 a4 : Option Value} {x : Nat} {S : List Value} : rn ca C_X10_meet 54 [some (.ref x), a1, a2, a3, a4] S M = rn ca C_X10_meet 55 [some (.ref x), a1, a2, a3, a4] (.ref x :: S) M := (rn_at k_X10_meet_54).trans rfl
theorem k_X10_meet_55 : lk 55 C_X10_meet = some (.getfield 10, (10, 0, 0, 16)) := by decide +kernel
theorem s_X10_meet_55 {ca : Nat → List Value → tM → tO} {M : tM} {L : tL} {b : Nat} {S : List Value} : rn ca C_X10_meet 55 L (.ref b :: S) M = if clsO b = some 10 then rn ca C_X10_meet 58 L (fv M b 0 :: S) M else none := (rn_at k_X10_meet_55).trans rnx_ite
theorem k_X10_meet_58 : lk 58 C_X10_meet = some (.iload_n 1, (0, 0, 0, 0)) := by decide +kernel
theorem s_X10_meet_58 {ca : Nat → List Value → tM → tO} {M : tM} {a0 a2 a3 a4 : Option Value} {x : Int32} {S : List Value} : rn ca C_X10_meet 58 [a0, some (.int x), a2, a3, a4] S M = rn ca C_X10_meet 59 [a0, some (.int x), a2, a3, a4] (.int x :: S) M := (rn_at k_X10_meet_58).trans rfl
theorem k_X10_meet_59 : lk 59 C_X10_meet = some (.aload_n 0, (0, 0, 0, 0)) := by decide +kernel
theorem s_X10_meet_59 {ca : Nat → List Value → tM → tO} {M : tM} {a1 a2 a3 a4 : Option Value} {x : Nat} {S : List Value} : rn ca C_X10_meet 59 [some (.ref x), a1, a2, a3, a4] S M = rn ca C_X10_meet 60 [some (.ref x), a1, a2, a3, a4] (.ref x :: S) M := (rn_at k_X10_meet_59).trans rfl
theorem k_X10_meet_60 : lk 60 C_X10_meet = some (.getfield 10, (10, 0, 0, 16)) := by decide +kernel
theorem s_X10_meet_60 {ca : Nat → List Value → tM → tO} {M : tM} {L : tL} {b : Nat} {S : List Value} : rn ca C_X10_meet 60 L (.ref b :: S) M = if clsO b = some 10 then rn ca C_X10_meet 63 L (fv M b 0 :: S) M else none := (rn_at k_X10_meet_60).trans rnx_ite
theorem k_X10_meet_63 : lk 63 C_X10_meet = some (.getfield 206, (4, 13, 0, 100034)) := by decide +kernel
theorem s_X10_meet_63 {ca : Nat → List Value → tM → tO} {M : tM} {L : tL} {b : Nat} {S : List Value} : rn ca C_X10_meet 63 L (.ref b :: S) M = if clsO b = some 4 then rn ca C_X10_meet 66 L (fv M b 13 :: S) M else none := (rn_at k_X10_meet_63).trans rnx_ite
theorem k_X10_meet_66 : lk 66 C_X10_meet = some (.invokevirtual 250, (79, 3, 9, 801)) := by decide +kernel
theorem s_X10_meet_66 {ca : Nat → List Value → tM → tO} {M : tM} {L : tL} {v1 v2 v3 : Value} {b : Nat} : rn ca C_X10_meet 66 L [v3, v2, v1, .ref b] M = if clsO b = some 9 then rnk ca C_X10_meet 69 L [] (ca m_X9_prepareFor [.ref b, v1, v2, v3] M) else none := (rn_at k_X10_meet_66).trans rnx_ite
theorem k_X10_meet_69 : lk 69 C_X10_meet = some (.aload_n 0, (0, 0, 0, 0)) := by decide +kernel
theorem s_X10_meet_69 {ca : Nat → List Value → tM → tO} {M : tM} {a1 a2 a3 a4 : Option Value} {x : Nat} {S : List Value} : rn ca C_X10_meet 69 [some (.ref x), a1, a2, a3, a4] S M = rn ca C_X10_meet 70 [some (.ref x), a1, a2, a3, a4] (.ref x :: S) M := (rn_at k_X10_meet_69).trans rfl
theorem k_X10_meet_70 : lk 70 C_X10_meet = some (.getfield 32, (10, 4, 0, 26)) := by decide +kernel
theorem s_X10_meet_70 {ca : Nat → List Value → tM → tO} {M : tM} {L : tL} {b : Nat} {S : List Value} : rn ca C_X10_meet 70 L (.ref b :: S) M = if clsO b = some 10 then rn ca C_X10_meet 73 L (fv M b 4 :: S) M else none := (rn_at k_X10_meet_70).trans rnx_ite
theorem k_X10_meet_73 : lk 73 C_X10_meet = some (.aload_n 0, (0, 0, 0, 0)) := by decide +kernel
theorem s_X10_meet_73 {ca : Nat → List Value → tM → tO} {M : tM} {a1 a2 a3 a4 : Option Value} {x : Nat} {S : List Value} : rn ca C_X10_meet 73 [some (.ref x), a1, a2, a3, a4] S M = rn ca C_X10_meet 74 [some (.ref x), a1, a2, a3, a4] (.ref x :: S) M := (rn_at k_X10_meet_73).trans rfl
theorem k_X10_meet_74 : lk 74 C_X10_meet = some (.getfield 10, (10, 0, 0, 16)) := by decide +kernel
theorem s_X10_meet_74 {ca : Nat → List Value → tM → tO} {M : tM} {L : tL} {b : Nat} {S : List Value} : rn ca C_X10_meet 74 L (.ref b :: S) M = if clsO b = some 10 then rn ca C_X10_meet 77 L (fv M b 0 :: S) M else none := (rn_at k_X10_meet_74).trans rnx_ite
theorem k_X10_meet_77 : lk 77 C_X10_meet = some (.aload_n 0, (0, 0, 0, 0)) := by decide +kernel
theorem s_X10_meet_77 {ca : Nat → List Value → tM → tO} {M : tM} {a1 a2 a3 a4 : Option Value} {x : Nat} {S : List Value} : rn ca C_X10_meet 77 [some (.ref x), a1, a2, a3, a4] S M = rn ca C_X10_meet 78 [some (.ref x), a1, a2, a3, a4] (.ref x :: S) M := (rn_at k_X10_meet_77).trans rfl
theorem k_X10_meet_78 : lk 78 C_X10_meet = some (.getfield 10, (10, 0, 0, 16)) := by decide +kernel
theorem s_X10_meet_78 {ca : Nat → List Value → tM → tO} {M : tM} {L : tL} {b : Nat} {S : List Value} : rn ca C_X10_meet 78 L (.ref b :: S) M = if clsO b = some 10 then rn ca C_X10_meet 81 L (fv M b 0 :: S) M else none := (rn_at k_X10_meet_78).trans rnx_ite
theorem k_X10_meet_81 : lk 81 C_X10_meet = some (.getfield 161, (4, 12, 0, 100030)) := by decide +kernel
theorem s_X10_meet_81 {ca : Nat → List Value → tM → tO} {M : tM} {L : tL} {b : Nat} {S : List Value} : rn ca C_X10_meet 81 L (.ref b :: S) M = if clsO b = some 4 then rn ca C_X10_meet 84 L (fv M b 12 :: S) M else none := (rn_at k_X10_meet_81).trans rnx_ite
theorem k_X10_meet_84 : lk 84 C_X10_meet = some (.iload_n 1, (0, 0, 0, 0)) := by decide +kernel
theorem s_X10_meet_84 {ca : Nat → List Value → tM → tO} {M : tM} {a0 a2 a3 a4 : Option Value} {x : Int32} {S : List Value} : rn ca C_X10_meet 84 [a0, some (.int x), a2, a3, a4] S M = rn ca C_X10_meet 85 [a0, some (.int x), a2, a3, a4] (.int x :: S) M := (rn_at k_X10_meet_84).trans rfl
theorem k_X10_meet_85 : lk 85 C_X10_meet = some (.iaload, (0, 0, 0, 0)) := by decide +kernel
theorem s_X10_meet_85 {ca : Nat → List Value → tM → tO} {M : tM} {L : tL} {a : Nat} {i : Int32} {S : List Value} : rn ca C_X10_meet 85 L (.int i :: .ref a :: S) M = if (akind a = 0 ∨ akind a = 6 ∨ akind a = 7) ∧ inb i (alen M a) then rn ca C_X10_meet 86 L (.int (M.1 a i.toInt.toNat) :: S) M else none := (rn_at k_X10_meet_85).trans rnx_ite
theorem k_X10_meet_86 : lk 86 C_X10_meet = some (.invokevirtual 258, (82, 2, 9, 806)) := by decide +kernel
theorem s_X10_meet_86 {ca : Nat → List Value → tM → tO} {M : tM} {L : tL} {v1 v2 : Value} {b : Nat} : rn ca C_X10_meet 86 L [v2, v1, .ref b] M = if clsO b = some 9 then rnk ca C_X10_meet 89 L [] (ca m_X9_spread [.ref b, v1, v2] M) else none := (rn_at k_X10_meet_86).trans rnx_ite
theorem k_X10_meet_89 : lk 89 C_X10_meet = some (.aload_n 0, (0, 0, 0, 0)) := by decide +kernel
theorem s_X10_meet_89 {ca : Nat → List Value → tM → tO} {M : tM} {a1 a2 a3 a4 : Option Value} {x : Nat} {S : List Value} : rn ca C_X10_meet 89 [some (.ref x), a1, a2, a3, a4] S M = rn ca C_X10_meet 90 [some (.ref x), a1, a2, a3, a4] (.ref x :: S) M := (rn_at k_X10_meet_89).trans rfl
theorem k_X10_meet_90 : lk 90 C_X10_meet = some (.getfield 32, (10, 4, 0, 26)) := by decide +kernel
theorem s_X10_meet_90 {ca : Nat → List Value → tM → tO} {M : tM} {L : tL} {b : Nat} {S : List Value} : rn ca C_X10_meet 90 L (.ref b :: S) M = if clsO b = some 10 then rn ca C_X10_meet 93 L (fv M b 4 :: S) M else none := (rn_at k_X10_meet_90).trans rnx_ite
theorem k_X10_meet_93 : lk 93 C_X10_meet = some (.invokevirtual 282, (91, 0, 9, 871)) := by decide +kernel
theorem s_X10_meet_93 {ca : Nat → List Value → tM → tO} {M : tM} {L : tL} {b : Nat} : rn ca C_X10_meet 93 L [.ref b] M = if clsO b = some 9 then rnk ca C_X10_meet 96 L [] (ca m_X9_keepReach [.ref b] M) else none := (rn_at k_X10_meet_93).trans rnx_ite
theorem k_X10_meet_96 : lk 96 C_X10_meet = some (.aload_n 0, (0, 0, 0, 0)) := by decide +kernel
theorem s_X10_meet_96 {ca : Nat → List Value → tM → tO} {M : tM} {a1 a2 a3 a4 : Option Value} {x : Nat} {S : List Value} : rn ca C_X10_meet 96 [some (.ref x), a1, a2, a3, a4] S M = rn ca C_X10_meet 97 [some (.ref x), a1, a2, a3, a4] (.ref x :: S) M := (rn_at k_X10_meet_96).trans rfl
theorem k_X10_meet_97 : lk 97 C_X10_meet = some (.getfield 32, (10, 4, 0, 26)) := by decide +kernel
theorem s_X10_meet_97 {ca : Nat → List Value → tM → tO} {M : tM} {L : tL} {b : Nat} {S : List Value} : rn ca C_X10_meet 97 L (.ref b :: S) M = if clsO b = some 10 then rn ca C_X10_meet 100 L (fv M b 4 :: S) M else none := (rn_at k_X10_meet_97).trans rnx_ite
theorem k_X10_meet_100 : lk 100 C_X10_meet = some (.aload_n 0, (0, 0, 0, 0)) := by decide +kernel
theorem s_X10_meet_100 {ca : Nat → List Value → tM → tO} {M : tM} {a1 a2 a3 a4 : Option Value} {x : Nat} {S : List Value} : rn ca C_X10_meet 100 [some (.ref x), a1, a2, a3, a4] S M = rn ca C_X10_meet 101 [some (.ref x), a1, a2, a3, a4] (.ref x :: S) M := (rn_at k_X10_meet_100).trans rfl
theorem k_X10_meet_101 : lk 101 C_X10_meet = some (.getfield 10, (10, 0, 0, 16)) := by decide +kernel
theorem s_X10_meet_101 {ca : Nat → List Value → tM → tO} {M : tM} {L : tL} {b : Nat} {S : List Value} : rn ca C_X10_meet 101 L (.ref b :: S) M = if clsO b = some 10 then rn ca C_X10_meet 104 L (fv M b 0 :: S) M else none := (rn_at k_X10_meet_101).trans rnx_ite
theorem k_X10_meet_104 : lk 104 C_X10_meet = some (.iload_n 2, (0, 0, 0, 0)) := by decide +kernel
theorem s_X10_meet_104 {ca : Nat → List Value → tM → tO} {M : tM} {a0 a1 a3 a4 : Option Value} {x : Int32} {S : List Value} : rn ca C_X10_meet 104 [a0, a1, some (.int x), a3, a4] S M = rn ca C_X10_meet 105 [a0, a1, some (.int x), a3, a4] (.int x :: S) M := (rn_at k_X10_meet_104).trans rfl
theorem k_X10_meet_105 : lk 105 C_X10_meet = some (.aload_n 0, (0, 0, 0, 0)) := by decide +kernel
theorem s_X10_meet_105 {ca : Nat → List Value → tM → tO} {M : tM} {a1 a2 a3 a4 : Option Value} {x : Nat} {S : List Value} : rn ca C_X10_meet 105 [some (.ref x), a1, a2, a3, a4] S M = rn ca C_X10_meet 106 [some (.ref x), a1, a2, a3, a4] (.ref x :: S) M := (rn_at k_X10_meet_105).trans rfl
theorem k_X10_meet_106 : lk 106 C_X10_meet = some (.getfield 10, (10, 0, 0, 16)) := by decide +kernel
theorem s_X10_meet_106 {ca : Nat → List Value → tM → tO} {M : tM} {L : tL} {b : Nat} {S : List Value} : rn ca C_X10_meet 106 L (.ref b :: S) M = if clsO b = some 10 then rn ca C_X10_meet 109 L (fv M b 0 :: S) M else none := (rn_at k_X10_meet_106).trans rnx_ite
theorem k_X10_meet_109 : lk 109 C_X10_meet = some (.getfield 206, (4, 13, 0, 100034)) := by decide +kernel
theorem s_X10_meet_109 {ca : Nat → List Value → tM → tO} {M : tM} {L : tL} {b : Nat} {S : List Value} : rn ca C_X10_meet 109 L (.ref b :: S) M = if clsO b = some 4 then rn ca C_X10_meet 112 L (fv M b 13 :: S) M else none := (rn_at k_X10_meet_109).trans rnx_ite
theorem k_X10_meet_112 : lk 112 C_X10_meet = some (.invokevirtual 250, (79, 3, 9, 801)) := by decide +kernel
theorem s_X10_meet_112 {ca : Nat → List Value → tM → tO} {M : tM} {L : tL} {v1 v2 v3 : Value} {b : Nat} : rn ca C_X10_meet 112 L [v3, v2, v1, .ref b] M = if clsO b = some 9 then rnk ca C_X10_meet 115 L [] (ca m_X9_prepareFor [.ref b, v1, v2, v3] M) else none := (rn_at k_X10_meet_112).trans rnx_ite
theorem k_X10_meet_115 : lk 115 C_X10_meet = some (.aload_n 0, (0, 0, 0, 0)) := by decide +kernel
theorem s_X10_meet_115 {ca : Nat → List Value → tM → tO} {M : tM} {a1 a2 a3 a4 : Option Value} {x : Nat} {S : List Value} : rn ca C_X10_meet 115 [some (.ref x), a1, a2, a3, a4] S M = rn ca C_X10_meet 116 [some (.ref x), a1, a2, a3, a4] (.ref x :: S) M := (rn_at k_X10_meet_115).trans rfl
theorem k_X10_meet_116 : lk 116 C_X10_meet = some (.getfield 32, (10, 4, 0, 26)) := by decide +kernel
theorem s_X10_meet_116 {ca : Nat → List Value → tM → tO} {M : tM} {L : tL} {b : Nat} {S : List Value} : rn ca C_X10_meet 116 L (.ref b :: S) M = if clsO b = some 10 then rn ca C_X10_meet 119 L (fv M b 4 :: S) M else none := (rn_at k_X10_meet_116).trans rnx_ite
theorem k_X10_meet_119 : lk 119 C_X10_meet = some (.aload_n 0, (0, 0, 0, 0)) := by decide +kernel
theorem s_X10_meet_119 {ca : Nat → List Value → tM → tO} {M : tM} {a1 a2 a3 a4 : Option Value} {x : Nat} {S : List Value} : rn ca C_X10_meet 119 [some (.ref x), a1, a2, a3, a4] S M = rn ca C_X10_meet 120 [some (.ref x), a1, a2, a3, a4] (.ref x :: S) M := (rn_at k_X10_meet_119).trans rfl
theorem k_X10_meet_120 : lk 120 C_X10_meet = some (.getfield 10, (10, 0, 0, 16)) := by decide +kernel
theorem s_X10_meet_120 {ca : Nat → List Value → tM → tO} {M : tM} {L : tL} {b : Nat} {S : List Value} : rn ca C_X10_meet 120 L (.ref b :: S) M = if clsO b = some 10 then rn ca C_X10_meet 123 L (fv M b 0 :: S) M else none := (rn_at k_X10_meet_120).trans rnx_ite
theorem k_X10_meet_123 : lk 123 C_X10_meet = some (.aload_n 0, (0, 0, 0, 0)) := by decide +kernel
theorem s_X10_meet_123 {ca : Nat → List Value → tM → tO} {M : tM} {a1 a2 a3 a4 : Option Value} {x : Nat} {S : List Value} : rn ca C_X10_meet 123 [some (.ref x), a1, a2, a3, a4] S M = rn ca C_X10_meet 124 [some (.ref x), a1, a2, a3, a4] (.ref x :: S) M := (rn_at k_X10_meet_123).trans rfl
theorem k_X10_meet_124 : lk 124 C_X10_meet = some (.getfield 10, (10, 0, 0, 16)) := by decide +kernel
theorem s_X10_meet_124 {ca : Nat → List Value → tM → tO} {M : tM} {L : tL} {b : Nat} {S : List Value} : rn ca C_X10_meet 124 L (.ref b :: S) M = if clsO b = some 10 then rn ca C_X10_meet 127 L (fv M b 0 :: S) M else none := (rn_at k_X10_meet_124).trans rnx_ite
theorem k_X10_meet_127 : lk 127 C_X10_meet = some (.getfield 161, (4, 12, 0, 100030)) := by decide +kernel
theorem s_X10_meet_127 {ca : Nat → List Value → tM → tO} {M : tM} {L : tL} {b : Nat} {S : List Value} : rn ca C_X10_meet 127 L (.ref b :: S) M = if clsO b = some 4 then rn ca C_X10_meet 130 L (fv M b 12 :: S) M else none := (rn_at k_X10_meet_127).trans rnx_ite
theorem k_X10_meet_130 : lk 130 C_X10_meet = some (.iload_n 2, (0, 0, 0, 0)) := by decide +kernel
theorem s_X10_meet_130 {ca : Nat → List Value → tM → tO} {M : tM} {a0 a1 a3 a4 : Option Value} {x : Int32} {S : List Value} : rn ca C_X10_meet 130 [a0, a1, some (.int x), a3, a4] S M = rn ca C_X10_meet 131 [a0, a1, some (.int x), a3, a4] (.int x :: S) M := (rn_at k_X10_meet_130).trans rfl
theorem k_X10_meet_131 : lk 131 C_X10_meet = some (.iaload, (0, 0, 0, 0)) := by decide +kernel
theorem s_X10_meet_131 {ca : Nat → List Value → tM → tO} {M : tM} {L : tL} {a : Nat} {i : Int32} {S : List Value} : rn ca C_X10_meet 131 L (.int i :: .ref a :: S) M = if (akind a = 0 ∨ akind a = 6 ∨ akind a = 7) ∧ inb i (alen M a) then rn ca C_X10_meet 132 L (.int (M.1 a i.toInt.toNat) :: S) M else none := (rn_at k_X10_meet_131).trans rnx_ite
theorem k_X10_meet_132 : lk 132 C_X10_meet = some (.invokevirtual 258, (82, 2, 9, 806)) := by decide +kernel
theorem s_X10_meet_132 {ca : Nat → List Value → tM → tO} {M : tM} {L : tL} {v1 v2 : Value} {b : Nat} : rn ca C_X10_meet 132 L [v2, v1, .ref b] M = if clsO b = some 9 then rnk ca C_X10_meet 135 L [] (ca m_X9_spread [.ref b, v1, v2] M) else none := (rn_at k_X10_meet_132).trans rnx_ite
theorem k_X10_meet_135 : lk 135 C_X10_meet = some (.aload_n 0, (0, 0, 0, 0)) := by decide +kernel
theorem s_X10_meet_135 {ca : Nat → List Value → tM → tO} {M : tM} {a1 a2 a3 a4 : Option Value} {x : Nat} {S : List Value} : rn ca C_X10_meet 135 [some (.ref x), a1, a2, a3, a4] S M = rn ca C_X10_meet 136 [some (.ref x), a1, a2, a3, a4] (.ref x :: S) M := (rn_at k_X10_meet_135).trans rfl
theorem k_X10_meet_136 : lk 136 C_X10_meet = some (.getfield 32, (10, 4, 0, 26)) := by decide +kernel
theorem s_X10_meet_136 {ca : Nat → List Value → tM → tO} {M : tM} {L : tL} {b : Nat} {S : List Value} : rn ca C_X10_meet 136 L (.ref b :: S) M = if clsO b = some 10 then rn ca C_X10_meet 139 L (fv M b 4 :: S) M else none := (rn_at k_X10_meet_136).trans rnx_ite
theorem k_X10_meet_139 : lk 139 C_X10_meet = some (.aload_n 0, (0, 0, 0, 0)) := by decide +kernel
theorem s_X10_meet_139 {ca : Nat → List Value → tM → tO} {M : tM} {a1 a2 a3 a4 : Option Value} {x : Nat} {S : List Value} : rn ca C_X10_meet 139 [some (.ref x), a1, a2, a3, a4] S M = rn ca C_X10_meet 140 [some (.ref x), a1, a2, a3, a4] (.ref x :: S) M := (rn_at k_X10_meet_139).trans rfl
theorem k_X10_meet_140 : lk 140 C_X10_meet = some (.getfield 10, (10, 0, 0, 16)) := by decide +kernel
theorem s_X10_meet_140 {ca : Nat → List Value → tM → tO} {M : tM} {L : tL} {b : Nat} {S : List Value} : rn ca C_X10_meet 140 L (.ref b :: S) M = if clsO b = some 10 then rn ca C_X10_meet 143 L (fv M b 0 :: S) M else none := (rn_at k_X10_meet_140).trans rnx_ite
theorem k_X10_meet_143 : lk 143 C_X10_meet = some (.invokevirtual 285, (93, 1, 9, 875)) := by decide +kernel
theorem s_X10_meet_143 {ca : Nat → List Value → tM → tO} {M : tM} {L : tL} {v1 : Value} {b : Nat} : rn ca C_X10_meet 143 L [v1, .ref b] M = if clsO b = some 9 then rnk ca C_X10_meet 146 L [] (ca m_X9_deskToMeet [.ref b, v1] M) else none := (rn_at k_X10_meet_143).trans rnx_ite
theorem k_X10_meet_146 : lk 146 C_X10_meet = some (.istore 4, (0, 0, 0, 0)) := by decide +kernel
theorem s_X10_meet_146 {ca : Nat → List Value → tM → tO} {M : tM} {a0 a1 a2 a3 a4 : Option Value} {x : Int32} {S : List Value} : rn ca C_X10_meet 146 [a0, a1, a2, a3, a4] (.int x :: S) M = rn ca C_X10_meet 148 [a0, a1, a2, a3, some (.int x)] S M := (rn_at k_X10_meet_146).trans rfl
theorem k_X10_meet_148 : lk 148 C_X10_meet = some (.iload 4, (0, 0, 0, 0)) := by decide +kernel
theorem s_X10_meet_148 {ca : Nat → List Value → tM → tO} {M : tM} {a0 a1 a2 a3 : Option Value} {x : Int32} {S : List Value} : rn ca C_X10_meet 148 [a0, a1, a2, a3, some (.int x)] S M = rn ca C_X10_meet 150 [a0, a1, a2, a3, some (.int x)] (.int x :: S) M := (rn_at k_X10_meet_148).trans rfl
theorem k_X10_meet_150 : lk 150 C_X10_meet = some (.iconst (-1), (0, 0, 0, 0)) := by decide +kernel
theorem s_X10_meet_150 {ca : Nat → List Value → tM → tO} {M : tM} {L : tL} {S : List Value} : rn ca C_X10_meet 150 L S M = rn ca C_X10_meet 151 L (.int (iI (-1)) :: S) M := (rn_at k_X10_meet_150).trans rfl
theorem k_X10_meet_151 : lk 151 C_X10_meet = some (.if_icmp .eq 7, (158, 0, 0, 0)) := by decide +kernel
theorem s_X10_meet_151 {ca : Nat → List Value → tM → tO} {M : tM} {L : tL} {x y : Int32} {S : List Value} : rn ca C_X10_meet 151 L (.int y :: .int x :: S) M = if x = y then rn ca C_X10_meet 158 L S M else rn ca C_X10_meet 154 L S M := (rn_at k_X10_meet_151).trans rnx_ite
theorem k_X10_meet_154 : lk 154 C_X10_meet = some (.iload_n 3, (0, 0, 0, 0)) := by decide +kernel
theorem s_X10_meet_154 {ca : Nat → List Value → tM → tO} {M : tM} {a0 a1 a2 a4 : Option Value} {x : Int32} {S : List Value} : rn ca C_X10_meet 154 [a0, a1, a2, some (.int x), a4] S M = rn ca C_X10_meet 155 [a0, a1, a2, some (.int x), a4] (.int x :: S) M := (rn_at k_X10_meet_154).trans rfl
theorem k_X10_meet_155 : lk 155 C_X10_meet = some (.ifCond .ne 6, (161, 0, 0, 0)) := by decide +kernel
theorem s_X10_meet_155 {ca : Nat → List Value → tM → tO} {M : tM} {L : tL} {x : Int32} {S : List Value} : rn ca C_X10_meet 155 L (.int x :: S) M = if ¬ x = iI 0 then rn ca C_X10_meet 161 L S M else rn ca C_X10_meet 158 L S M := (rn_at k_X10_meet_155).trans rnx_ite
theorem k_X10_meet_158 : lk 158 C_X10_meet = some (.iload 4, (0, 0, 0, 0)) := by decide +kernel
theorem s_X10_meet_158 {ca : Nat → List Value → tM → tO} {M : tM} {a0 a1 a2 a3 : Option Value} {x : Int32} {S : List Value} : rn ca C_X10_meet 158 [a0, a1, a2, a3, some (.int x)] S M = rn ca C_X10_meet 160 [a0, a1, a2, a3, some (.int x)] (.int x :: S) M := (rn_at k_X10_meet_158).trans rfl
theorem k_X10_meet_160 : lk 160 C_X10_meet = some (.ireturn, (0, 0, 0, 0)) := by decide +kernel
theorem s_X10_meet_160 {ca : Nat → List Value → tM → tO} {M : tM} {L : tL} {x : Int32} : rn ca C_X10_meet 160 L [.int x] M = some (some (.int x), M) := (rn_at k_X10_meet_160).trans rfl
theorem k_X10_meet_161 : lk 161 C_X10_meet = some (.aload_n 0, (0, 0, 0, 0)) := by decide +kernel
theorem s_X10_meet_161 {ca : Nat → List Value → tM → tO} {M : tM} {a1 a2 a3 a4 : Option Value} {x : Nat} {S : List Value} : rn ca C_X10_meet 161 [some (.ref x), a1, a2, a3, a4] S M = rn ca C_X10_meet 162 [some (.ref x), a1, a2, a3, a4] (.ref x :: S) M := (rn_at k_X10_meet_161).trans rfl
theorem k_X10_meet_162 : lk 162 C_X10_meet = some (.getfield 32, (10, 4, 0, 26)) := by decide +kernel
theorem s_X10_meet_162 {ca : Nat → List Value → tM → tO} {M : tM} {L : tL} {b : Nat} {S : List Value} : rn ca C_X10_meet 162 L (.ref b :: S) M = if clsO b = some 10 then rn ca C_X10_meet 165 L (fv M b 4 :: S) M else none := (rn_at k_X10_meet_162).trans rnx_ite
theorem k_X10_meet_165 : lk 165 C_X10_meet = some (.iload 4, (0, 0, 0, 0)) := by decide +kernel
theorem s_X10_meet_165 {ca : Nat → List Value → tM → tO} {M : tM} {a0 a1 a2 a3 : Option Value} {x : Int32} {S : List Value} : rn ca C_X10_meet 165 [a0, a1, a2, a3, some (.int x)] S M = rn ca C_X10_meet 167 [a0, a1, a2, a3, some (.int x)] (.int x :: S) M := (rn_at k_X10_meet_165).trans rfl
theorem k_X10_meet_167 : lk 167 C_X10_meet = some (.invokevirtual 288, (92, 1, 9, 884)) := by decide +kernel
theorem s_X10_meet_167 {ca : Nat → List Value → tM → tO} {M : tM} {L : tL} {v1 : Value} {b : Nat} : rn ca C_X10_meet 167 L [v1, .ref b] M = if clsO b = some 9 then rnk ca C_X10_meet 170 L [] (ca m_X9_laterAt [.ref b, v1] M) else none := (rn_at k_X10_meet_167).trans rnx_ite
theorem k_X10_meet_170 : lk 170 C_X10_meet = some (.ireturn, (0, 0, 0, 0)) := by decide +kernel
theorem s_X10_meet_170 {ca : Nat → List Value → tM → tO} {M : tM} {L : tL} {x : Int32} : rn ca C_X10_meet 170 L [.int x] M = some (some (.int x), M) := (rn_at k_X10_meet_170).trans rfl
theorem k_X10_cut_0 : lk 0 C_X10_cut = some (.aload_n 0, (0, 0, 0, 0)) := by decide +kernel
theorem s_X10_cut_0 {ca : Nat → List Value → tM → tO} {M : tM} {a1 a2 a3 a4 : Option Value} {x : Nat} {S : List Value} : rn ca C_X10_cut 0 [some (.ref x), a1, a2, a3, a4] S M = rn ca C_X10_cut 1 [some (.ref x), a1, a2, a3, a4] (.ref x :: S) M := (rn_at k_X10_cut_0).trans rfl
theorem k_X10_cut_1 : lk 1 C_X10_cut = some (.getfield 10, (10, 0, 0, 16)) := by decide +kernel
theorem s_X10_cut_1 {ca : Nat → List Value → tM → tO} {M : tM} {L : tL} {b : Nat} {S : List Value} : rn ca C_X10_cut 1 L (.ref b :: S) M = if clsO b = some 10 then rn ca C_X10_cut 4 L (fv M b 0 :: S) M else none := (rn_at k_X10_cut_1).trans rnx_ite
theorem k_X10_cut_4 : lk 4 C_X10_cut = some (.iload_n 1, (0, 0, 0, 0)) := by decide +kernel
theorem s_X10_cut_4 {ca : Nat → List Value → tM → tO} {M : tM} {a0 a2 a3 a4 : Option Value} {x : Int32} {S : List Value} : rn ca C_X10_cut 4 [a0, some (.int x), a2, a3, a4] S M = rn ca C_X10_cut 5 [a0, some (.int x), a2, a3, a4] (.int x :: S) M := (rn_at k_X10_cut_4).trans rfl
theorem k_X10_cut_5 : lk 5 C_X10_cut = some (.invokevirtual 135, (20, 1, 4, 290)) := by decide +kernel
theorem s_X10_cut_5 {ca : Nat → List Value → tM → tO} {M : tM} {L : tL} {v1 : Value} {b : Nat} : rn ca C_X10_cut 5 L [v1, .ref b] M = if clsO b = some 4 then rnk ca C_X10_cut 8 L [] (ca m_X4_hasCapsule [.ref b, v1] M) else none := (rn_at k_X10_cut_5).trans rnx_ite
theorem k_X10_cut_8 : lk 8 C_X10_cut = some (.ifCond .eq 14, (22, 0, 0, 0)) := by decide +kernel
theorem s_X10_cut_8 {ca : Nat → List Value → tM → tO} {M : tM} {L : tL} {x : Int32} {S : List Value} : rn ca C_X10_cut 8 L (.int x :: S) M = if x = iI 0 then rn ca C_X10_cut 22 L S M else rn ca C_X10_cut 11 L S M := (rn_at k_X10_cut_8).trans rnx_ite
theorem k_X10_cut_11 : lk 11 C_X10_cut = some (.aload_n 0, (0, 0, 0, 0)) := by decide +kernel
theorem s_X10_cut_11 {ca : Nat → List Value → tM → tO} {M : tM} {a1 a2 a3 a4 : Option Value} {x : Nat} {S : List Value} : rn ca C_X10_cut 11 [some (.ref x), a1, a2, a3, a4] S M = rn ca C_X10_cut 12 [some (.ref x), a1, a2, a3, a4] (.ref x :: S) M := (rn_at k_X10_cut_11).trans rfl
theorem k_X10_cut_12 : lk 12 C_X10_cut = some (.getfield 10, (10, 0, 0, 16)) := by decide +kernel
theorem s_X10_cut_12 {ca : Nat → List Value → tM → tO} {M : tM} {L : tL} {b : Nat} {S : List Value} : rn ca C_X10_cut 12 L (.ref b :: S) M = if clsO b = some 10 then rn ca C_X10_cut 15 L (fv M b 0 :: S) M else none := (rn_at k_X10_cut_12).trans rnx_ite
theorem k_X10_cut_15 : lk 15 C_X10_cut = some (.iload_n 2, (0, 0, 0, 0)) := by decide +kernel
theorem s_X10_cut_15 {ca : Nat → List Value → tM → tO} {M : tM} {a0 a1 a3 a4 : Option Value} {x : Int32} {S : List Value} : rn ca C_X10_cut 15 [a0, a1, some (.int x), a3, a4] S M = rn ca C_X10_cut 16 [a0, a1, some (.int x), a3, a4] (.int x :: S) M := (rn_at k_X10_cut_15).trans rfl
theorem k_X10_cut_16 : lk 16 C_X10_cut = some (.invokevirtual 174, (18, 1, 4, 368)) := by decide +kernel
theorem s_X10_cut_16 {ca : Nat → List Value → tM → tO} {M : tM} {L : tL} {v1 : Value} {b : Nat} : rn ca C_X10_cut 16 L [v1, .ref b] M = if clsO b = some 4 then rnk ca C_X10_cut 19 L [] (ca m_X4_hasDesk [.ref b, v1] M) else none := (rn_at k_X10_cut_16).trans rnx_ite
theorem k_X10_cut_19 : lk 19 C_X10_cut = some (.ifCond .ne 10, (29, 0, 0, 0)) := by decide +kernel
theorem s_X10_cut_19 {ca : Nat → List Value → tM → tO} {M : tM} {L : tL} {x : Int32} {S : List Value} : rn ca C_X10_cut 19 L (.int x :: S) M = if ¬ x = iI 0 then rn ca C_X10_cut 29 L S M else rn ca C_X10_cut 22 L S M := (rn_at k_X10_cut_19).trans rnx_ite
theorem k_X10_cut_22 : lk 22 C_X10_cut = some (.aload_n 0, (0, 0, 0, 0)) := by decide +kernel
theorem s_X10_cut_22 {ca : Nat → List Value → tM → tO} {M : tM} {a1 a2 a3 a4 : Option Value} {x : Nat} {S : List Value} : rn ca C_X10_cut 22 [some (.ref x), a1, a2, a3, a4] S M = rn ca C_X10_cut 23 [some (.ref x), a1, a2, a3, a4] (.ref x :: S) M := (rn_at k_X10_cut_22).trans rfl
theorem k_X10_cut_23 : lk 23 C_X10_cut = some (.bipush (-11), (0, 0, 0, 0)) := by decide +kernel
theorem s_X10_cut_23 {ca : Nat → List Value → tM → tO} {M : tM} {L : tL} {S : List Value} : rn ca C_X10_cut 23 L S M = rn ca C_X10_cut 25 L (.int (iI (-11)) :: S) M := (rn_at k_X10_cut_23).trans rfl
theorem k_X10_cut_25 : lk 25 C_X10_cut = some (.invokevirtual 101, (134, 1, 10, 175)) := by decide +kernel
theorem s_X10_cut_25 {ca : Nat → List Value → tM → tO} {M : tM} {L : tL} {v1 : Value} {b : Nat} : rn ca C_X10_cut 25 L [v1, .ref b] M = if clsO b = some 10 then rnk ca C_X10_cut 28 L [] (ca m_X10_refuse [.ref b, v1] M) else none := (rn_at k_X10_cut_25).trans rnx_ite
theorem k_X10_cut_28 : lk 28 C_X10_cut = some (.ireturn, (0, 0, 0, 0)) := by decide +kernel
theorem s_X10_cut_28 {ca : Nat → List Value → tM → tO} {M : tM} {L : tL} {x : Int32} : rn ca C_X10_cut 28 L [.int x] M = some (some (.int x), M) := (rn_at k_X10_cut_28).trans rfl
theorem k_X10_cut_29 : lk 29 C_X10_cut = some (.iload_n 3, (0, 0, 0, 0)) := by decide +kernel
theorem s_X10_cut_29 {ca : Nat → List Value → tM → tO} {M : tM} {a0 a1 a2 a4 : Option Value} {x : Int32} {S : List Value} : rn ca C_X10_cut 29 [a0, a1, a2, some (.int x), a4] S M = rn ca C_X10_cut 30 [a0, a1, a2, some (.int x), a4] (.int x :: S) M := (rn_at k_X10_cut_29).trans rfl
theorem k_X10_cut_30 : lk 30 C_X10_cut = some (.ifCond .eq 15, (45, 0, 0, 0)) := by decide +kernel
theorem s_X10_cut_30 {ca : Nat → List Value → tM → tO} {M : tM} {L : tL} {x : Int32} {S : List Value} : rn ca C_X10_cut 30 L (.int x :: S) M = if x = iI 0 then rn ca C_X10_cut 45 L S M else rn ca C_X10_cut 33 L S M := (rn_at k_X10_cut_30).trans rnx_ite
theorem k_X10_cut_33 : lk 33 C_X10_cut = some (.iload_n 3, (0, 0, 0, 0)) := by decide +kernel
theorem s_X10_cut_33 {ca : Nat → List Value → tM → tO} {M : tM} {a0 a1 a2 a4 : Option Value} {x : Int32} {S : List Value} : rn ca C_X10_cut 33 [a0, a1, a2, some (.int x), a4] S M = rn ca C_X10_cut 34 [a0, a1, a2, some (.int x), a4] (.int x :: S) M := (rn_at k_X10_cut_33).trans rfl
theorem k_X10_cut_34 : lk 34 C_X10_cut = some (.iconst 1, (0, 0, 0, 0)) := by decide +kernel
theorem s_X10_cut_34 {ca : Nat → List Value → tM → tO} {M : tM} {L : tL} {S : List Value} : rn ca C_X10_cut 34 L S M = rn ca C_X10_cut 35 L (.int (iI 1) :: S) M := (rn_at k_X10_cut_34).trans rfl
theorem k_X10_cut_35 : lk 35 C_X10_cut = some (.if_icmp .eq 10, (45, 0, 0, 0)) := by decide +kernel
theorem s_X10_cut_35 {ca : Nat → List Value → tM → tO} {M : tM} {L : tL} {x y : Int32} {S : List Value} : rn ca C_X10_cut 35 L (.int y :: .int x :: S) M = if x = y then rn ca C_X10_cut 45 L S M else rn ca C_X10_cut 38 L S M := (rn_at k_X10_cut_35).trans rnx_ite
theorem k_X10_cut_38 : lk 38 C_X10_cut = some (.aload_n 0, (0, 0, 0, 0)) := by decide +kernel
theorem s_X10_cut_38 {ca : Nat → List Value → tM → tO} {M : tM} {a1 a2 a3 a4 : Option Value} {x : Nat} {S : List Value} : rn ca C_X10_cut 38 [some (.ref x), a1, a2, a3, a4] S M = rn ca C_X10_cut 39 [some (.ref x), a1, a2, a3, a4] (.ref x :: S) M := (rn_at k_X10_cut_38).trans rfl
theorem k_X10_cut_39 : lk 39 C_X10_cut = some (.bipush (-15), (0, 0, 0, 0)) := by decide +kernel
theorem s_X10_cut_39 {ca : Nat → List Value → tM → tO} {M : tM} {L : tL} {S : List Value} : rn ca C_X10_cut 39 L S M = rn ca C_X10_cut 41 L (.int (iI (-15)) :: S) M := (rn_at k_X10_cut_39).trans rfl
theorem k_X10_cut_41 : lk 41 C_X10_cut = some (.invokevirtual 101, (134, 1, 10, 175)) := by decide +kernel
theorem s_X10_cut_41 {ca : Nat → List Value → tM → tO} {M : tM} {L : tL} {v1 : Value} {b : Nat} : rn ca C_X10_cut 41 L [v1, .ref b] M = if clsO b = some 10 then rnk ca C_X10_cut 44 L [] (ca m_X10_refuse [.ref b, v1] M) else none := (rn_at k_X10_cut_41).trans rnx_ite
theorem k_X10_cut_44 : lk 44 C_X10_cut = some (.ireturn, (0, 0, 0, 0)) := by decide +kernel
theorem s_X10_cut_44 {ca : Nat → List Value → tM → tO} {M : tM} {L : tL} {x : Int32} : rn ca C_X10_cut 44 L [.int x] M = some (some (.int x), M) := (rn_at k_X10_cut_44).trans rfl
theorem k_X10_cut_45 : lk 45 C_X10_cut = some (.aload_n 0, (0, 0, 0, 0)) := by decide +kernel
theorem s_X10_cut_45 {ca : Nat → List Value → tM → tO} {M : tM} {a1 a2 a3 a4 : Option Value} {x : Nat} {S : List Value} : rn ca C_X10_cut 45 [some (.ref x), a1, a2, a3, a4] S M = rn ca C_X10_cut 46 [some (.ref x), a1, a2, a3, a4] (.ref x :: S) M := (rn_at k_X10_cut_45).trans rfl
theorem k_X10_cut_46 : lk 46 C_X10_cut = some (.getfield 10, (10, 0, 0, 16)) := by decide +kernel
theorem s_X10_cut_46 {ca : Nat → List Value → tM → tO} {M : tM} {L : tL} {b : Nat} {S : List Value} : rn ca C_X10_cut 46 L (.ref b :: S) M = if clsO b = some 10 then rn ca C_X10_cut 49 L (fv M b 0 :: S) M else none := (rn_at k_X10_cut_46).trans rnx_ite
theorem k_X10_cut_49 : lk 49 C_X10_cut = some (.getfield 161, (4, 12, 0, 100030)) := by decide +kernel
theorem s_X10_cut_49 {ca : Nat → List Value → tM → tO} {M : tM} {L : tL} {b : Nat} {S : List Value} : rn ca C_X10_cut 49 L (.ref b :: S) M = if clsO b = some 4 then rn ca C_X10_cut 52 L (fv M b 12 :: S) M else none := (rn_at k_X10_cut_49).trans rnx_ite
theorem k_X10_cut_52 : lk 52 C_X10_cut = some (.iload_n 1, (0, 0, 0, 0)) := by decide +kernel
theorem s_X10_cut_52 {ca : Nat → List Value → tM → tO} {M : tM} {a0 a2 a3 a4 : Option Value} {x : Int32} {S : List Value} : rn ca C_X10_cut 52 [a0, some (.int x), a2, a3, a4] S M = rn ca C_X10_cut 53 [a0, some (.int x), a2, a3, a4] (.int x :: S) M := (rn_at k_X10_cut_52).trans rfl
theorem k_X10_cut_53 : lk 53 C_X10_cut = some (.iaload, (0, 0, 0, 0)) := by decide +kernel
theorem s_X10_cut_53 {ca : Nat → List Value → tM → tO} {M : tM} {L : tL} {a : Nat} {i : Int32} {S : List Value} : rn ca C_X10_cut 53 L (.int i :: .ref a :: S) M = if (akind a = 0 ∨ akind a = 6 ∨ akind a = 7) ∧ inb i (alen M a) then rn ca C_X10_cut 54 L (.int (M.1 a i.toInt.toNat) :: S) M else none := (rn_at k_X10_cut_53).trans rnx_ite
theorem k_X10_cut_54 : lk 54 C_X10_cut = some (.istore 4, (0, 0, 0, 0)) := by decide +kernel
theorem s_X10_cut_54 {ca : Nat → List Value → tM → tO} {M : tM} {a0 a1 a2 a3 a4 : Option Value} {x : Int32} {S : List Value} : rn ca C_X10_cut 54 [a0, a1, a2, a3, a4] (.int x :: S) M = rn ca C_X10_cut 56 [a0, a1, a2, a3, some (.int x)] S M := (rn_at k_X10_cut_54).trans rfl
theorem k_X10_cut_56 : lk 56 C_X10_cut = some (.iload 4, (0, 0, 0, 0)) := by decide +kernel
theorem s_X10_cut_56 {ca : Nat → List Value → tM → tO} {M : tM} {a0 a1 a2 a3 : Option Value} {x : Int32} {S : List Value} : rn ca C_X10_cut 56 [a0, a1, a2, a3, some (.int x)] S M = rn ca C_X10_cut 58 [a0, a1, a2, a3, some (.int x)] (.int x :: S) M := (rn_at k_X10_cut_56).trans rfl
theorem k_X10_cut_58 : lk 58 C_X10_cut = some (.iload_n 2, (0, 0, 0, 0)) := by decide +kernel
theorem s_X10_cut_58 {ca : Nat → List Value → tM → tO} {M : tM} {a0 a1 a3 a4 : Option Value} {x : Int32} {S : List Value} : rn ca C_X10_cut 58 [a0, a1, some (.int x), a3, a4] S M = rn ca C_X10_cut 59 [a0, a1, some (.int x), a3, a4] (.int x :: S) M := (rn_at k_X10_cut_58).trans rfl
theorem k_X10_cut_59 : lk 59 C_X10_cut = some (.if_icmp .ne 10, (69, 0, 0, 0)) := by decide +kernel
theorem s_X10_cut_59 {ca : Nat → List Value → tM → tO} {M : tM} {L : tL} {x y : Int32} {S : List Value} : rn ca C_X10_cut 59 L (.int y :: .int x :: S) M = if ¬ x = y then rn ca C_X10_cut 69 L S M else rn ca C_X10_cut 62 L S M := (rn_at k_X10_cut_59).trans rnx_ite
theorem k_X10_cut_62 : lk 62 C_X10_cut = some (.aload_n 0, (0, 0, 0, 0)) := by decide +kernel
theorem s_X10_cut_62 {ca : Nat → List Value → tM → tO} {M : tM} {a1 a2 a3 a4 : Option Value} {x : Nat} {S : List Value} : rn ca C_X10_cut 62 [some (.ref x), a1, a2, a3, a4] S M = rn ca C_X10_cut 63 [some (.ref x), a1, a2, a3, a4] (.ref x :: S) M := (rn_at k_X10_cut_62).trans rfl
theorem k_X10_cut_63 : lk 63 C_X10_cut = some (.bipush (-16), (0, 0, 0, 0)) := by decide +kernel
theorem s_X10_cut_63 {ca : Nat → List Value → tM → tO} {M : tM} {L : tL} {S : List Value} : rn ca C_X10_cut 63 L S M = rn ca C_X10_cut 65 L (.int (iI (-16)) :: S) M := (rn_at k_X10_cut_63).trans rfl
theorem k_X10_cut_65 : lk 65 C_X10_cut = some (.invokevirtual 101, (134, 1, 10, 175)) := by decide +kernel
theorem s_X10_cut_65 {ca : Nat → List Value → tM → tO} {M : tM} {L : tL} {v1 : Value} {b : Nat} : rn ca C_X10_cut 65 L [v1, .ref b] M = if clsO b = some 10 then rnk ca C_X10_cut 68 L [] (ca m_X10_refuse [.ref b, v1] M) else none := (rn_at k_X10_cut_65).trans rnx_ite
theorem k_X10_cut_68 : lk 68 C_X10_cut = some (.ireturn, (0, 0, 0, 0)) := by decide +kernel
theorem s_X10_cut_68 {ca : Nat → List Value → tM → tO} {M : tM} {L : tL} {x : Int32} : rn ca C_X10_cut 68 L [.int x] M = some (some (.int x), M) := (rn_at k_X10_cut_68).trans rfl
theorem k_X10_cut_69 : lk 69 C_X10_cut = some (.aload_n 0, (0, 0, 0, 0)) := by decide +kernel
theorem s_X10_cut_69 {ca : Nat → List Value → tM → tO} {M : tM} {a1 a2 a3 a4 : Option Value} {x : Nat} {S : List Value} : rn ca C_X10_cut 69 [some (.ref x), a1, a2, a3, a4] S M = rn ca C_X10_cut 70 [some (.ref x), a1, a2, a3, a4] (.ref x :: S) M := (rn_at k_X10_cut_69).trans rfl
theorem k_X10_cut_70 : lk 70 C_X10_cut = some (.getfield 32, (10, 4, 0, 26)) := by decide +kernel
theorem s_X10_cut_70 {ca : Nat → List Value → tM → tO} {M : tM} {L : tL} {b : Nat} {S : List Value} : rn ca C_X10_cut 70 L (.ref b :: S) M = if clsO b = some 10 then rn ca C_X10_cut 73 L (fv M b 4 :: S) M else none := (rn_at k_X10_cut_70).trans rnx_ite
theorem k_X10_cut_73 : lk 73 C_X10_cut = some (.aload_n 0, (0, 0, 0, 0)) := by decide +kernel
theorem s_X10_cut_73 {ca : Nat → List Value → tM → tO} {M : tM} {a1 a2 a3 a4 : Option Value} {x : Nat} {S : List Value} : rn ca C_X10_cut 73 [some (.ref x), a1, a2, a3, a4] S M = rn ca C_X10_cut 74 [some (.ref x), a1, a2, a3, a4] (.ref x :: S) M := (rn_at k_X10_cut_73).trans rfl
theorem k_X10_cut_74 : lk 74 C_X10_cut = some (.getfield 10, (10, 0, 0, 16)) := by decide +kernel
theorem s_X10_cut_74 {ca : Nat → List Value → tM → tO} {M : tM} {L : tL} {b : Nat} {S : List Value} : rn ca C_X10_cut 74 L (.ref b :: S) M = if clsO b = some 10 then rn ca C_X10_cut 77 L (fv M b 0 :: S) M else none := (rn_at k_X10_cut_74).trans rnx_ite
theorem k_X10_cut_77 : lk 77 C_X10_cut = some (.iload_n 1, (0, 0, 0, 0)) := by decide +kernel
theorem s_X10_cut_77 {ca : Nat → List Value → tM → tO} {M : tM} {a0 a2 a3 a4 : Option Value} {x : Int32} {S : List Value} : rn ca C_X10_cut 77 [a0, some (.int x), a2, a3, a4] S M = rn ca C_X10_cut 78 [a0, some (.int x), a2, a3, a4] (.int x :: S) M := (rn_at k_X10_cut_77).trans rfl
theorem k_X10_cut_78 : lk 78 C_X10_cut = some (.aload_n 0, (0, 0, 0, 0)) := by decide +kernel
theorem s_X10_cut_78 {ca : Nat → List Value → tM → tO} {M : tM} {a1 a2 a3 a4 : Option Value} {x : Nat} {S : List Value} : rn ca C_X10_cut 78 [some (.ref x), a1, a2, a3, a4] S M = rn ca C_X10_cut 79 [some (.ref x), a1, a2, a3, a4] (.ref x :: S) M := (rn_at k_X10_cut_78).trans rfl
theorem k_X10_cut_79 : lk 79 C_X10_cut = some (.getfield 10, (10, 0, 0, 16)) := by decide +kernel
theorem s_X10_cut_79 {ca : Nat → List Value → tM → tO} {M : tM} {L : tL} {b : Nat} {S : List Value} : rn ca C_X10_cut 79 L (.ref b :: S) M = if clsO b = some 10 then rn ca C_X10_cut 82 L (fv M b 0 :: S) M else none := (rn_at k_X10_cut_79).trans rnx_ite
theorem k_X10_cut_82 : lk 82 C_X10_cut = some (.getfield 206, (4, 13, 0, 100034)) := by decide +kernel
theorem s_X10_cut_82 {ca : Nat → List Value → tM → tO} {M : tM} {L : tL} {b : Nat} {S : List Value} : rn ca C_X10_cut 82 L (.ref b :: S) M = if clsO b = some 4 then rn ca C_X10_cut 85 L (fv M b 13 :: S) M else none := (rn_at k_X10_cut_82).trans rnx_ite
theorem k_X10_cut_85 : lk 85 C_X10_cut = some (.invokevirtual 250, (79, 3, 9, 801)) := by decide +kernel
theorem s_X10_cut_85 {ca : Nat → List Value → tM → tO} {M : tM} {L : tL} {v1 v2 v3 : Value} {b : Nat} : rn ca C_X10_cut 85 L [v3, v2, v1, .ref b] M = if clsO b = some 9 then rnk ca C_X10_cut 88 L [] (ca m_X9_prepareFor [.ref b, v1, v2, v3] M) else none := (rn_at k_X10_cut_85).trans rnx_ite
theorem k_X10_cut_88 : lk 88 C_X10_cut = some (.aload_n 0, (0, 0, 0, 0)) := by decide +kernel
theorem s_X10_cut_88 {ca : Nat → List Value → tM → tO} {M : tM} {a1 a2 a3 a4 : Option Value} {x : Nat} {S : List Value} : rn ca C_X10_cut 88 [some (.ref x), a1, a2, a3, a4] S M = rn ca C_X10_cut 89 [some (.ref x), a1, a2, a3, a4] (.ref x :: S) M := (rn_at k_X10_cut_88).trans rfl
theorem k_X10_cut_89 : lk 89 C_X10_cut = some (.getfield 46, (10, 6, 0, 34)) := by decide +kernel
theorem s_X10_cut_89 {ca : Nat → List Value → tM → tO} {M : tM} {L : tL} {b : Nat} {S : List Value} : rn ca C_X10_cut 89 L (.ref b :: S) M = if clsO b = some 10 then rn ca C_X10_cut 92 L (fv M b 6 :: S) M else none := (rn_at k_X10_cut_89).trans rnx_ite
theorem k_X10_cut_92 : lk 92 C_X10_cut = some (.aload_n 0, (0, 0, 0, 0)) := by decide +kernel
theorem s_X10_cut_92 {ca : Nat → List Value → tM → tO} {M : tM} {a1 a2 a3 a4 : Option Value} {x : Nat} {S : List Value} : rn ca C_X10_cut 92 [some (.ref x), a1, a2, a3, a4] S M = rn ca C_X10_cut 93 [some (.ref x), a1, a2, a3, a4] (.ref x :: S) M := (rn_at k_X10_cut_92).trans rfl
theorem k_X10_cut_93 : lk 93 C_X10_cut = some (.getfield 10, (10, 0, 0, 16)) := by decide +kernel
theorem s_X10_cut_93 {ca : Nat → List Value → tM → tO} {M : tM} {L : tL} {b : Nat} {S : List Value} : rn ca C_X10_cut 93 L (.ref b :: S) M = if clsO b = some 10 then rn ca C_X10_cut 96 L (fv M b 0 :: S) M else none := (rn_at k_X10_cut_93).trans rnx_ite
theorem k_X10_cut_96 : lk 96 C_X10_cut = some (.aload_n 0, (0, 0, 0, 0)) := by decide +kernel
theorem s_X10_cut_96 {ca : Nat → List Value → tM → tO} {M : tM} {a1 a2 a3 a4 : Option Value} {x : Nat} {S : List Value} : rn ca C_X10_cut 96 [some (.ref x), a1, a2, a3, a4] S M = rn ca C_X10_cut 97 [some (.ref x), a1, a2, a3, a4] (.ref x :: S) M := (rn_at k_X10_cut_96).trans rfl
theorem k_X10_cut_97 : lk 97 C_X10_cut = some (.getfield 32, (10, 4, 0, 26)) := by decide +kernel
theorem s_X10_cut_97 {ca : Nat → List Value → tM → tO} {M : tM} {L : tL} {b : Nat} {S : List Value} : rn ca C_X10_cut 97 L (.ref b :: S) M = if clsO b = some 10 then rn ca C_X10_cut 100 L (fv M b 4 :: S) M else none := (rn_at k_X10_cut_97).trans rnx_ite
theorem k_X10_cut_100 : lk 100 C_X10_cut = some (.iload 4, (0, 0, 0, 0)) := by decide +kernel
theorem s_X10_cut_100 {ca : Nat → List Value → tM → tO} {M : tM} {a0 a1 a2 a3 : Option Value} {x : Int32} {S : List Value} : rn ca C_X10_cut 100 [a0, a1, a2, a3, some (.int x)] S M = rn ca C_X10_cut 102 [a0, a1, a2, a3, some (.int x)] (.int x :: S) M := (rn_at k_X10_cut_100).trans rfl
theorem k_X10_cut_102 : lk 102 C_X10_cut = some (.iload_n 2, (0, 0, 0, 0)) := by decide +kernel
theorem s_X10_cut_102 {ca : Nat → List Value → tM → tO} {M : tM} {a0 a1 a3 a4 : Option Value} {x : Int32} {S : List Value} : rn ca C_X10_cut 102 [a0, a1, some (.int x), a3, a4] S M = rn ca C_X10_cut 103 [a0, a1, some (.int x), a3, a4] (.int x :: S) M := (rn_at k_X10_cut_102).trans rfl
theorem k_X10_cut_103 : lk 103 C_X10_cut = some (.iconst (-1), (0, 0, 0, 0)) := by decide +kernel
theorem s_X10_cut_103 {ca : Nat → List Value → tM → tO} {M : tM} {L : tL} {S : List Value} : rn ca C_X10_cut 103 L S M = rn ca C_X10_cut 104 L (.int (iI (-1)) :: S) M := (rn_at k_X10_cut_103).trans rfl
theorem k_X10_cut_104 : lk 104 C_X10_cut = some (.invokevirtual 291, (0, 5, 0, 893)) := by decide +kernel
theorem s_X10_cut_104 {ca : Nat → List Value → tM → tO} {M : tM} {L : tL} {v1 v2 v3 v4 v5 : Value} {b : Nat} : rn ca C_X10_cut 104 L [v5, v4, v3, v2, v1, .ref b] M = if clsO b = some 0 then rnk ca C_X10_cut 107 L [] (ca m_X0_reaches [.ref b, v1, v2, v3, v4, v5] M) else none := (rn_at k_X10_cut_104).trans rnx_ite
theorem k_X10_cut_107 : lk 107 C_X10_cut = some (.ifCond .ne 5, (112, 0, 0, 0)) := by decide +kernel
theorem s_X10_cut_107 {ca : Nat → List Value → tM → tO} {M : tM} {L : tL} {x : Int32} {S : List Value} : rn ca C_X10_cut 107 L (.int x :: S) M = if ¬ x = iI 0 then rn ca C_X10_cut 112 L S M else rn ca C_X10_cut 110 L S M := (rn_at k_X10_cut_107).trans rnx_ite
theorem k_X10_cut_110 : lk 110 C_X10_cut = some (.iconst 0, (0, 0, 0, 0)) := by decide +kernel
theorem s_X10_cut_110 {ca : Nat → List Value → tM → tO} {M : tM} {L : tL} {S : List Value} : rn ca C_X10_cut 110 L S M = rn ca C_X10_cut 111 L (.int (iI 0) :: S) M := (rn_at k_X10_cut_110).trans rfl
theorem k_X10_cut_111 : lk 111 C_X10_cut = some (.ireturn, (0, 0, 0, 0)) := by decide +kernel
theorem s_X10_cut_111 {ca : Nat → List Value → tM → tO} {M : tM} {L : tL} {x : Int32} : rn ca C_X10_cut 111 L [.int x] M = some (some (.int x), M) := (rn_at k_X10_cut_111).trans rfl
theorem k_X10_cut_112 : lk 112 C_X10_cut = some (.aload_n 0, (0, 0, 0, 0)) := by decide +kernel
theorem s_X10_cut_112 {ca : Nat → List Value → tM → tO} {M : tM} {a1 a2 a3 a4 : Option Value} {x : Nat} {S : List Value} : rn ca C_X10_cut 112 [some (.ref x), a1, a2, a3, a4] S M = rn ca C_X10_cut 113 [some (.ref x), a1, a2, a3, a4] (.ref x :: S) M := (rn_at k_X10_cut_112).trans rfl
theorem k_X10_cut_113 : lk 113 C_X10_cut = some (.getfield 10, (10, 0, 0, 16)) := by decide +kernel
theorem s_X10_cut_113 {ca : Nat → List Value → tM → tO} {M : tM} {L : tL} {b : Nat} {S : List Value} : rn ca C_X10_cut 113 L (.ref b :: S) M = if clsO b = some 10 then rn ca C_X10_cut 116 L (fv M b 0 :: S) M else none := (rn_at k_X10_cut_113).trans rnx_ite
theorem k_X10_cut_116 : lk 116 C_X10_cut = some (.getfield 145, (4, 9, 0, 100027)) := by decide +kernel
theorem s_X10_cut_116 {ca : Nat → List Value → tM → tO} {M : tM} {L : tL} {b : Nat} {S : List Value} : rn ca C_X10_cut 116 L (.ref b :: S) M = if clsO b = some 4 then rn ca C_X10_cut 119 L (fv M b 9 :: S) M else none := (rn_at k_X10_cut_116).trans rnx_ite
theorem k_X10_cut_119 : lk 119 C_X10_cut = some (.iload_n 1, (0, 0, 0, 0)) := by decide +kernel
theorem s_X10_cut_119 {ca : Nat → List Value → tM → tO} {M : tM} {a0 a2 a3 a4 : Option Value} {x : Int32} {S : List Value} : rn ca C_X10_cut 119 [a0, some (.int x), a2, a3, a4] S M = rn ca C_X10_cut 120 [a0, some (.int x), a2, a3, a4] (.int x :: S) M := (rn_at k_X10_cut_119).trans rfl
theorem k_X10_cut_120 : lk 120 C_X10_cut = some (.iaload, (0, 0, 0, 0)) := by decide +kernel
theorem s_X10_cut_120 {ca : Nat → List Value → tM → tO} {M : tM} {L : tL} {a : Nat} {i : Int32} {S : List Value} : rn ca C_X10_cut 120 L (.int i :: .ref a :: S) M = if (akind a = 0 ∨ akind a = 6 ∨ akind a = 7) ∧ inb i (alen M a) then rn ca C_X10_cut 121 L (.int (M.1 a i.toInt.toNat) :: S) M else none := (rn_at k_X10_cut_120).trans rnx_ite
theorem k_X10_cut_121 : lk 121 C_X10_cut = some (.iconst 5, (0, 0, 0, 0)) := by decide +kernel
theorem s_X10_cut_121 {ca : Nat → List Value → tM → tO} {M : tM} {L : tL} {S : List Value} : rn ca C_X10_cut 121 L S M = rn ca C_X10_cut 122 L (.int (iI 5) :: S) M := (rn_at k_X10_cut_121).trans rfl
theorem k_X10_cut_122 : lk 122 C_X10_cut = some (.if_icmp .ne 13, (135, 0, 0, 0)) := by decide +kernel
theorem s_X10_cut_122 {ca : Nat → List Value → tM → tO} {M : tM} {L : tL} {x y : Int32} {S : List Value} : rn ca C_X10_cut 122 L (.int y :: .int x :: S) M = if ¬ x = y then rn ca C_X10_cut 135 L S M else rn ca C_X10_cut 125 L S M := (rn_at k_X10_cut_122).trans rnx_ite
theorem k_X10_cut_125 : lk 125 C_X10_cut = some (.iload_n 3, (0, 0, 0, 0)) := by decide +kernel
theorem s_X10_cut_125 {ca : Nat → List Value → tM → tO} {M : tM} {a0 a1 a2 a4 : Option Value} {x : Int32} {S : List Value} : rn ca C_X10_cut 125 [a0, a1, a2, some (.int x), a4] S M = rn ca C_X10_cut 126 [a0, a1, a2, some (.int x), a4] (.int x :: S) M := (rn_at k_X10_cut_125).trans rfl
theorem k_X10_cut_126 : lk 126 C_X10_cut = some (.ifCond .ne 7, (133, 0, 0, 0)) := by decide +kernel
theorem s_X10_cut_126 {ca : Nat → List Value → tM → tO} {M : tM} {L : tL} {x : Int32} {S : List Value} : rn ca C_X10_cut 126 L (.int x :: S) M = if ¬ x = iI 0 then rn ca C_X10_cut 133 L S M else rn ca C_X10_cut 129 L S M := (rn_at k_X10_cut_126).trans rnx_ite
theorem k_X10_cut_129 : lk 129 C_X10_cut = some (.iconst (-1), (0, 0, 0, 0)) := by decide +kernel
theorem s_X10_cut_129 {ca : Nat → List Value → tM → tO} {M : tM} {L : tL} {S : List Value} : rn ca C_X10_cut 129 L S M = rn ca C_X10_cut 130 L (.int (iI (-1)) :: S) M := (rn_at k_X10_cut_129).trans rfl
theorem k_X10_cut_130 : lk 130 C_X10_cut = some (.goto 4, (134, 0, 0, 0)) := by decide +kernel
theorem s_X10_cut_130 {ca : Nat → List Value → tM → tO} {M : tM} {L : tL} {S : List Value} : rn ca C_X10_cut 130 L S M = rn ca C_X10_cut 134 L S M := (rn_at k_X10_cut_130).trans rfl
theorem k_X10_cut_133 : lk 133 C_X10_cut = some (.iconst 0, (0, 0, 0, 0)) := by decide +kernel
theorem s_X10_cut_133 {ca : Nat → List Value → tM → tO} {M : tM} {L : tL} {S : List Value} : rn ca C_X10_cut 133 L S M = rn ca C_X10_cut 134 L (.int (iI 0) :: S) M := (rn_at k_X10_cut_133).trans rfl
theorem k_X10_cut_134 : lk 134 C_X10_cut = some (.ireturn, (0, 0, 0, 0)) := by decide +kernel
theorem s_X10_cut_134 {ca : Nat → List Value → tM → tO} {M : tM} {L : tL} {x : Int32} : rn ca C_X10_cut 134 L [.int x] M = some (some (.int x), M) := (rn_at k_X10_cut_134).trans rfl
theorem k_X10_cut_135 : lk 135 C_X10_cut = some (.iload_n 3, (0, 0, 0, 0)) := by decide +kernel
theorem s_X10_cut_135 {ca : Nat → List Value → tM → tO} {M : tM} {a0 a1 a2 a4 : Option Value} {x : Int32} {S : List Value} : rn ca C_X10_cut 135 [a0, a1, a2, some (.int x), a4] S M = rn ca C_X10_cut 136 [a0, a1, a2, some (.int x), a4] (.int x :: S) M := (rn_at k_X10_cut_135).trans rfl
theorem k_X10_cut_136 : lk 136 C_X10_cut = some (.ifCond .ne 24, (160, 0, 0, 0)) := by decide +kernel
theorem s_X10_cut_136 {ca : Nat → List Value → tM → tO} {M : tM} {L : tL} {x : Int32} {S : List Value} : rn ca C_X10_cut 136 L (.int x :: S) M = if ¬ x = iI 0 then rn ca C_X10_cut 160 L S M else rn ca C_X10_cut 139 L S M := (rn_at k_X10_cut_136).trans rnx_ite
theorem k_X10_cut_139 : lk 139 C_X10_cut = some (.aload_n 0, (0, 0, 0, 0)) := by decide +kernel
theorem s_X10_cut_139 {ca : Nat → List Value → tM → tO} {M : tM} {a1 a2 a3 a4 : Option Value} {x : Nat} {S : List Value} : rn ca C_X10_cut 139 [some (.ref x), a1, a2, a3, a4] S M = rn ca C_X10_cut 140 [some (.ref x), a1, a2, a3, a4] (.ref x :: S) M := (rn_at k_X10_cut_139).trans rfl
theorem k_X10_cut_140 : lk 140 C_X10_cut = some (.getfield 46, (10, 6, 0, 34)) := by decide +kernel
theorem s_X10_cut_140 {ca : Nat → List Value → tM → tO} {M : tM} {L : tL} {b : Nat} {S : List Value} : rn ca C_X10_cut 140 L (.ref b :: S) M = if clsO b = some 10 then rn ca C_X10_cut 143 L (fv M b 6 :: S) M else none := (rn_at k_X10_cut_140).trans rnx_ite
theorem k_X10_cut_143 : lk 143 C_X10_cut = some (.aload_n 0, (0, 0, 0, 0)) := by decide +kernel
theorem s_X10_cut_143 {ca : Nat → List Value → tM → tO} {M : tM} {a1 a2 a3 a4 : Option Value} {x : Nat} {S : List Value} : rn ca C_X10_cut 143 [some (.ref x), a1, a2, a3, a4] S M = rn ca C_X10_cut 144 [some (.ref x), a1, a2, a3, a4] (.ref x :: S) M := (rn_at k_X10_cut_143).trans rfl
theorem k_X10_cut_144 : lk 144 C_X10_cut = some (.getfield 10, (10, 0, 0, 16)) := by decide +kernel
theorem s_X10_cut_144 {ca : Nat → List Value → tM → tO} {M : tM} {L : tL} {b : Nat} {S : List Value} : rn ca C_X10_cut 144 L (.ref b :: S) M = if clsO b = some 10 then rn ca C_X10_cut 147 L (fv M b 0 :: S) M else none := (rn_at k_X10_cut_144).trans rnx_ite
theorem k_X10_cut_147 : lk 147 C_X10_cut = some (.aload_n 0, (0, 0, 0, 0)) := by decide +kernel
theorem s_X10_cut_147 {ca : Nat → List Value → tM → tO} {M : tM} {a1 a2 a3 a4 : Option Value} {x : Nat} {S : List Value} : rn ca C_X10_cut 147 [some (.ref x), a1, a2, a3, a4] S M = rn ca C_X10_cut 148 [some (.ref x), a1, a2, a3, a4] (.ref x :: S) M := (rn_at k_X10_cut_147).trans rfl
theorem k_X10_cut_148 : lk 148 C_X10_cut = some (.getfield 32, (10, 4, 0, 26)) := by decide +kernel
theorem s_X10_cut_148 {ca : Nat → List Value → tM → tO} {M : tM} {L : tL} {b : Nat} {S : List Value} : rn ca C_X10_cut 148 L (.ref b :: S) M = if clsO b = some 10 then rn ca C_X10_cut 151 L (fv M b 4 :: S) M else none := (rn_at k_X10_cut_148).trans rnx_ite
theorem k_X10_cut_151 : lk 151 C_X10_cut = some (.iload 4, (0, 0, 0, 0)) := by decide +kernel
theorem s_X10_cut_151 {ca : Nat → List Value → tM → tO} {M : tM} {a0 a1 a2 a3 : Option Value} {x : Int32} {S : List Value} : rn ca C_X10_cut 151 [a0, a1, a2, a3, some (.int x)] S M = rn ca C_X10_cut 153 [a0, a1, a2, a3, some (.int x)] (.int x :: S) M := (rn_at k_X10_cut_151).trans rfl
theorem k_X10_cut_153 : lk 153 C_X10_cut = some (.iload_n 2, (0, 0, 0, 0)) := by decide +kernel
theorem s_X10_cut_153 {ca : Nat → List Value → tM → tO} {M : tM} {a0 a1 a3 a4 : Option Value} {x : Int32} {S : List Value} : rn ca C_X10_cut 153 [a0, a1, some (.int x), a3, a4] S M = rn ca C_X10_cut 154 [a0, a1, some (.int x), a3, a4] (.int x :: S) M := (rn_at k_X10_cut_153).trans rfl
theorem k_X10_cut_154 : lk 154 C_X10_cut = some (.invokevirtual 295, (2, 4, 0, 897)) := by decide +kernel
theorem s_X10_cut_154 {ca : Nat → List Value → tM → tO} {M : tM} {L : tL} {v1 v2 v3 v4 : Value} {b : Nat} : rn ca C_X10_cut 154 L [v4, v3, v2, v1, .ref b] M = if clsO b = some 0 then rnk ca C_X10_cut 157 L [] (ca m_X0_fewestTubes [.ref b, v1, v2, v3, v4] M) else none := (rn_at k_X10_cut_154).trans rnx_ite
theorem k_X10_cut_157 : lk 157 C_X10_cut = some (.goto 21, (178, 0, 0, 0)) := by decide +kernel
theorem s_X10_cut_157 {ca : Nat → List Value → tM → tO} {M : tM} {L : tL} {S : List Value} : rn ca C_X10_cut 157 L S M = rn ca C_X10_cut 178 L S M := (rn_at k_X10_cut_157).trans rfl
theorem k_X10_cut_160 : lk 160 C_X10_cut = some (.aload_n 0, (0, 0, 0, 0)) := by decide +kernel
theorem s_X10_cut_160 {ca : Nat → List Value → tM → tO} {M : tM} {a1 a2 a3 a4 : Option Value} {x : Nat} {S : List Value} : rn ca C_X10_cut 160 [some (.ref x), a1, a2, a3, a4] S M = rn ca C_X10_cut 161 [some (.ref x), a1, a2, a3, a4] (.ref x :: S) M := (rn_at k_X10_cut_160).trans rfl
theorem k_X10_cut_161 : lk 161 C_X10_cut = some (.getfield 46, (10, 6, 0, 34)) := by decide +kernel
theorem s_X10_cut_161 {ca : Nat → List Value → tM → tO} {M : tM} {L : tL} {b : Nat} {S : List Value} : rn ca C_X10_cut 161 L (.ref b :: S) M = if clsO b = some 10 then rn ca C_X10_cut 164 L (fv M b 6 :: S) M else none := (rn_at k_X10_cut_161).trans rnx_ite
theorem k_X10_cut_164 : lk 164 C_X10_cut = some (.aload_n 0, (0, 0, 0, 0)) := by decide +kernel
theorem s_X10_cut_164 {ca : Nat → List Value → tM → tO} {M : tM} {a1 a2 a3 a4 : Option Value} {x : Nat} {S : List Value} : rn ca C_X10_cut 164 [some (.ref x), a1, a2, a3, a4] S M = rn ca C_X10_cut 165 [some (.ref x), a1, a2, a3, a4] (.ref x :: S) M := (rn_at k_X10_cut_164).trans rfl
theorem k_X10_cut_165 : lk 165 C_X10_cut = some (.getfield 10, (10, 0, 0, 16)) := by decide +kernel
theorem s_X10_cut_165 {ca : Nat → List Value → tM → tO} {M : tM} {L : tL} {b : Nat} {S : List Value} : rn ca C_X10_cut 165 L (.ref b :: S) M = if clsO b = some 10 then rn ca C_X10_cut 168 L (fv M b 0 :: S) M else none := (rn_at k_X10_cut_165).trans rnx_ite
theorem k_X10_cut_168 : lk 168 C_X10_cut = some (.aload_n 0, (0, 0, 0, 0)) := by decide +kernel
theorem s_X10_cut_168 {ca : Nat → List Value → tM → tO} {M : tM} {a1 a2 a3 a4 : Option Value} {x : Nat} {S : List Value} : rn ca C_X10_cut 168 [some (.ref x), a1, a2, a3, a4] S M = rn ca C_X10_cut 169 [some (.ref x), a1, a2, a3, a4] (.ref x :: S) M := (rn_at k_X10_cut_168).trans rfl
theorem k_X10_cut_169 : lk 169 C_X10_cut = some (.getfield 32, (10, 4, 0, 26)) := by decide +kernel
theorem s_X10_cut_169 {ca : Nat → List Value → tM → tO} {M : tM} {L : tL} {b : Nat} {S : List Value} : rn ca C_X10_cut 169 L (.ref b :: S) M = if clsO b = some 10 then rn ca C_X10_cut 172 L (fv M b 4 :: S) M else none := (rn_at k_X10_cut_169).trans rnx_ite
theorem k_X10_cut_172 : lk 172 C_X10_cut = some (.iload 4, (0, 0, 0, 0)) := by decide +kernel
theorem s_X10_cut_172 {ca : Nat → List Value → tM → tO} {M : tM} {a0 a1 a2 a3 : Option Value} {x : Int32} {S : List Value} : rn ca C_X10_cut 172 [a0, a1, a2, a3, some (.int x)] S M = rn ca C_X10_cut 174 [a0, a1, a2, a3, some (.int x)] (.int x :: S) M := (rn_at k_X10_cut_172).trans rfl
theorem k_X10_cut_174 : lk 174 C_X10_cut = some (.iload_n 2, (0, 0, 0, 0)) := by decide +kernel
theorem s_X10_cut_174 {ca : Nat → List Value → tM → tO} {M : tM} {a0 a1 a3 a4 : Option Value} {x : Int32} {S : List Value} : rn ca C_X10_cut 174 [a0, a1, some (.int x), a3, a4] S M = rn ca C_X10_cut 175 [a0, a1, some (.int x), a3, a4] (.int x :: S) M := (rn_at k_X10_cut_174).trans rfl
theorem k_X10_cut_175 : lk 175 C_X10_cut = some (.invokevirtual 299, (1, 4, 0, 915)) := by decide +kernel
theorem s_X10_cut_175 {ca : Nat → List Value → tM → tO} {M : tM} {L : tL} {v1 v2 v3 v4 : Value} {b : Nat} : rn ca C_X10_cut 175 L [v4, v3, v2, v1, .ref b] M = if clsO b = some 0 then rnk ca C_X10_cut 178 L [] (ca m_X0_neededTubes [.ref b, v1, v2, v3, v4] M) else none := (rn_at k_X10_cut_175).trans rnx_ite
theorem k_X10_cut_178 : lk 178 C_X10_cut = some (.ireturn, (0, 0, 0, 0)) := by decide +kernel
theorem s_X10_cut_178 {ca : Nat → List Value → tM → tO} {M : tM} {L : tL} {x : Int32} : rn ca C_X10_cut 178 L [.int x] M = some (some (.int x), M) := (rn_at k_X10_cut_178).trans rfl
theorem k_X10_stuck_0 : lk 0 C_X10_stuck = some (.aload_n 0, (0, 0, 0, 0)) := by decide +kernel
theorem s_X10_stuck_0 {ca : Nat → List Value → tM → tO} {M : tM} {a1 a2 a3 : Option Value} {x : Nat} {S : List Value} : rn ca C_X10_stuck 0 [some (.ref x), a1, a2, a3] S M = rn ca C_X10_stuck 1 [some (.ref x), a1, a2, a3] (.ref x :: S) M := (rn_at k_X10_stuck_0).trans rfl
theorem k_X10_stuck_1 : lk 1 C_X10_stuck = some (.iload_n 1, (0, 0, 0, 0)) := by decide +kernel
theorem s_X10_stuck_1 {ca : Nat → List Value → tM → tO} {M : tM} {a0 a2 a3 : Option Value} {x : Int32} {S : List Value} : rn ca C_X10_stuck 1 [a0, some (.int x), a2, a3] S M = rn ca C_X10_stuck 2 [a0, some (.int x), a2, a3] (.int x :: S) M := (rn_at k_X10_stuck_1).trans rfl
theorem k_X10_stuck_2 : lk 2 C_X10_stuck = some (.iload_n 2, (0, 0, 0, 0)) := by decide +kernel
theorem s_X10_stuck_2 {ca : Nat → List Value → tM → tO} {M : tM} {a0 a1 a3 : Option Value} {x : Int32} {S : List Value} : rn ca C_X10_stuck 2 [a0, a1, some (.int x), a3] S M = rn ca C_X10_stuck 3 [a0, a1, some (.int x), a3] (.int x :: S) M := (rn_at k_X10_stuck_2).trans rfl
theorem k_X10_stuck_3 : lk 3 C_X10_stuck = some (.invokevirtual 302, (137, 2, 10, 940)) := by decide +kernel
theorem s_X10_stuck_3 {ca : Nat → List Value → tM → tO} {M : tM} {L : tL} {v1 v2 : Value} {b : Nat} : rn ca C_X10_stuck 3 L [v2, v1, .ref b] M = if clsO b = some 10 then rnk ca C_X10_stuck 6 L [] (ca m_X10_knocksRefusal [.ref b, v1, v2] M) else none := (rn_at k_X10_stuck_3).trans rnx_ite
theorem k_X10_stuck_6 : lk 6 C_X10_stuck = some (.istore_n 3, (0, 0, 0, 0)) := by decide +kernel
theorem s_X10_stuck_6 {ca : Nat → List Value → tM → tO} {M : tM} {a0 a1 a2 a3 : Option Value} {x : Int32} {S : List Value} : rn ca C_X10_stuck 6 [a0, a1, a2, a3] (.int x :: S) M = rn ca C_X10_stuck 7 [a0, a1, a2, some (.int x)] S M := (rn_at k_X10_stuck_6).trans rfl
theorem k_X10_stuck_7 : lk 7 C_X10_stuck = some (.iload_n 3, (0, 0, 0, 0)) := by decide +kernel
theorem s_X10_stuck_7 {ca : Nat → List Value → tM → tO} {M : tM} {a0 a1 a2 : Option Value} {x : Int32} {S : List Value} : rn ca C_X10_stuck 7 [a0, a1, a2, some (.int x)] S M = rn ca C_X10_stuck 8 [a0, a1, a2, some (.int x)] (.int x :: S) M := (rn_at k_X10_stuck_7).trans rfl
theorem k_X10_stuck_8 : lk 8 C_X10_stuck = some (.ifCond .ge 9, (17, 0, 0, 0)) := by decide +kernel
theorem s_X10_stuck_8 {ca : Nat → List Value → tM → tO} {M : tM} {L : tL} {x : Int32} {S : List Value} : rn ca C_X10_stuck 8 L (.int x :: S) M = if iI 0 ≤ x then rn ca C_X10_stuck 17 L S M else rn ca C_X10_stuck 11 L S M := (rn_at k_X10_stuck_8).trans rnx_ite
theorem k_X10_stuck_11 : lk 11 C_X10_stuck = some (.aload_n 0, (0, 0, 0, 0)) := by decide +kernel
theorem s_X10_stuck_11 {ca : Nat → List Value → tM → tO} {M : tM} {a1 a2 a3 : Option Value} {x : Nat} {S : List Value} : rn ca C_X10_stuck 11 [some (.ref x), a1, a2, a3] S M = rn ca C_X10_stuck 12 [some (.ref x), a1, a2, a3] (.ref x :: S) M := (rn_at k_X10_stuck_11).trans rfl
theorem k_X10_stuck_12 : lk 12 C_X10_stuck = some (.iload_n 3, (0, 0, 0, 0)) := by decide +kernel
theorem s_X10_stuck_12 {ca : Nat → List Value → tM → tO} {M : tM} {a0 a1 a2 : Option Value} {x : Int32} {S : List Value} : rn ca C_X10_stuck 12 [a0, a1, a2, some (.int x)] S M = rn ca C_X10_stuck 13 [a0, a1, a2, some (.int x)] (.int x :: S) M := (rn_at k_X10_stuck_12).trans rfl
theorem k_X10_stuck_13 : lk 13 C_X10_stuck = some (.invokevirtual 101, (134, 1, 10, 175)) := by decide +kernel
theorem s_X10_stuck_13 {ca : Nat → List Value → tM → tO} {M : tM} {L : tL} {v1 : Value} {b : Nat} : rn ca C_X10_stuck 13 L [v1, .ref b] M = if clsO b = some 10 then rnk ca C_X10_stuck 16 L [] (ca m_X10_refuse [.ref b, v1] M) else none := (rn_at k_X10_stuck_13).trans rnx_ite
theorem k_X10_stuck_16 : lk 16 C_X10_stuck = some (.ireturn, (0, 0, 0, 0)) := by decide +kernel
theorem s_X10_stuck_16 {ca : Nat → List Value → tM → tO} {M : tM} {L : tL} {x : Int32} : rn ca C_X10_stuck 16 L [.int x] M = some (some (.int x), M) := (rn_at k_X10_stuck_16).trans rfl
theorem k_X10_stuck_17 : lk 17 C_X10_stuck = some (.aload_n 0, (0, 0, 0, 0)) := by decide +kernel
theorem s_X10_stuck_17 {ca : Nat → List Value → tM → tO} {M : tM} {a1 a2 a3 : Option Value} {x : Nat} {S : List Value} : rn ca C_X10_stuck 17 [some (.ref x), a1, a2, a3] S M = rn ca C_X10_stuck 18 [some (.ref x), a1, a2, a3] (.ref x :: S) M := (rn_at k_X10_stuck_17).trans rfl
theorem k_X10_stuck_18 : lk 18 C_X10_stuck = some (.getfield 53, (10, 7, 0, 38)) := by decide +kernel
theorem s_X10_stuck_18 {ca : Nat → List Value → tM → tO} {M : tM} {L : tL} {b : Nat} {S : List Value} : rn ca C_X10_stuck 18 L (.ref b :: S) M = if clsO b = some 10 then rn ca C_X10_stuck 21 L (fv M b 7 :: S) M else none := (rn_at k_X10_stuck_18).trans rnx_ite
theorem k_X10_stuck_21 : lk 21 C_X10_stuck = some (.aload_n 0, (0, 0, 0, 0)) := by decide +kernel
theorem s_X10_stuck_21 {ca : Nat → List Value → tM → tO} {M : tM} {a1 a2 a3 : Option Value} {x : Nat} {S : List Value} : rn ca C_X10_stuck 21 [some (.ref x), a1, a2, a3] S M = rn ca C_X10_stuck 22 [some (.ref x), a1, a2, a3] (.ref x :: S) M := (rn_at k_X10_stuck_21).trans rfl
theorem k_X10_stuck_22 : lk 22 C_X10_stuck = some (.getfield 25, (10, 3, 0, 22)) := by decide +kernel
theorem s_X10_stuck_22 {ca : Nat → List Value → tM → tO} {M : tM} {L : tL} {b : Nat} {S : List Value} : rn ca C_X10_stuck 22 L (.ref b :: S) M = if clsO b = some 10 then rn ca C_X10_stuck 25 L (fv M b 3 :: S) M else none := (rn_at k_X10_stuck_22).trans rnx_ite
theorem k_X10_stuck_25 : lk 25 C_X10_stuck = some (.iload_n 1, (0, 0, 0, 0)) := by decide +kernel
theorem s_X10_stuck_25 {ca : Nat → List Value → tM → tO} {M : tM} {a0 a2 a3 : Option Value} {x : Int32} {S : List Value} : rn ca C_X10_stuck 25 [a0, some (.int x), a2, a3] S M = rn ca C_X10_stuck 26 [a0, some (.int x), a2, a3] (.int x :: S) M := (rn_at k_X10_stuck_25).trans rfl
theorem k_X10_stuck_26 : lk 26 C_X10_stuck = some (.iload_n 2, (0, 0, 0, 0)) := by decide +kernel
theorem s_X10_stuck_26 {ca : Nat → List Value → tM → tO} {M : tM} {a0 a1 a3 : Option Value} {x : Int32} {S : List Value} : rn ca C_X10_stuck 26 [a0, a1, some (.int x), a3] S M = rn ca C_X10_stuck 27 [a0, a1, some (.int x), a3] (.int x :: S) M := (rn_at k_X10_stuck_26).trans rfl
theorem k_X10_stuck_27 : lk 27 C_X10_stuck = some (.invokevirtual 305, (11, 3, 3, 945)) := by decide +kernel
theorem s_X10_stuck_27 {ca : Nat → List Value → tM → tO} {M : tM} {L : tL} {v1 v2 v3 : Value} {b : Nat} : rn ca C_X10_stuck 27 L [v3, v2, v1, .ref b] M = if clsO b = some 3 then rnk ca C_X10_stuck 30 L [] (ca m_X3_read [.ref b, v1, v2, v3] M) else none := (rn_at k_X10_stuck_27).trans rnx_ite
theorem k_X10_stuck_30 : lk 30 C_X10_stuck = some (.aload_n 0, (0, 0, 0, 0)) := by decide +kernel
theorem s_X10_stuck_30 {ca : Nat → List Value → tM → tO} {M : tM} {a1 a2 a3 : Option Value} {x : Nat} {S : List Value} : rn ca C_X10_stuck 30 [some (.ref x), a1, a2, a3] S M = rn ca C_X10_stuck 31 [some (.ref x), a1, a2, a3] (.ref x :: S) M := (rn_at k_X10_stuck_30).trans rfl
theorem k_X10_stuck_31 : lk 31 C_X10_stuck = some (.getfield 53, (10, 7, 0, 38)) := by decide +kernel
theorem s_X10_stuck_31 {ca : Nat → List Value → tM → tO} {M : tM} {L : tL} {b : Nat} {S : List Value} : rn ca C_X10_stuck 31 L (.ref b :: S) M = if clsO b = some 10 then rn ca C_X10_stuck 34 L (fv M b 7 :: S) M else none := (rn_at k_X10_stuck_31).trans rnx_ite
theorem k_X10_stuck_34 : lk 34 C_X10_stuck = some (.aload_n 0, (0, 0, 0, 0)) := by decide +kernel
theorem s_X10_stuck_34 {ca : Nat → List Value → tM → tO} {M : tM} {a1 a2 a3 : Option Value} {x : Nat} {S : List Value} : rn ca C_X10_stuck 34 [some (.ref x), a1, a2, a3] S M = rn ca C_X10_stuck 35 [some (.ref x), a1, a2, a3] (.ref x :: S) M := (rn_at k_X10_stuck_34).trans rfl
theorem k_X10_stuck_35 : lk 35 C_X10_stuck = some (.getfield 10, (10, 0, 0, 16)) := by decide +kernel
theorem s_X10_stuck_35 {ca : Nat → List Value → tM → tO} {M : tM} {L : tL} {b : Nat} {S : List Value} : rn ca C_X10_stuck 35 L (.ref b :: S) M = if clsO b = some 10 then rn ca C_X10_stuck 38 L (fv M b 0 :: S) M else none := (rn_at k_X10_stuck_35).trans rnx_ite
theorem k_X10_stuck_38 : lk 38 C_X10_stuck = some (.aload_n 0, (0, 0, 0, 0)) := by decide +kernel
theorem s_X10_stuck_38 {ca : Nat → List Value → tM → tO} {M : tM} {a1 a2 a3 : Option Value} {x : Nat} {S : List Value} : rn ca C_X10_stuck 38 [some (.ref x), a1, a2, a3] S M = rn ca C_X10_stuck 39 [some (.ref x), a1, a2, a3] (.ref x :: S) M := (rn_at k_X10_stuck_38).trans rfl
theorem k_X10_stuck_39 : lk 39 C_X10_stuck = some (.getfield 32, (10, 4, 0, 26)) := by decide +kernel
theorem s_X10_stuck_39 {ca : Nat → List Value → tM → tO} {M : tM} {L : tL} {b : Nat} {S : List Value} : rn ca C_X10_stuck 39 L (.ref b :: S) M = if clsO b = some 10 then rn ca C_X10_stuck 42 L (fv M b 4 :: S) M else none := (rn_at k_X10_stuck_39).trans rnx_ite
theorem k_X10_stuck_42 : lk 42 C_X10_stuck = some (.invokevirtual 309, (12, 2, 3, 951)) := by decide +kernel
theorem s_X10_stuck_42 {ca : Nat → List Value → tM → tO} {M : tM} {L : tL} {v1 v2 : Value} {b : Nat} : rn ca C_X10_stuck 42 L [v2, v1, .ref b] M = if clsO b = some 3 then rnk ca C_X10_stuck 45 L [] (ca m_X3_hear [.ref b, v1, v2] M) else none := (rn_at k_X10_stuck_42).trans rnx_ite
theorem k_X10_stuck_45 : lk 45 C_X10_stuck = some (.aload_n 0, (0, 0, 0, 0)) := by decide +kernel
theorem s_X10_stuck_45 {ca : Nat → List Value → tM → tO} {M : tM} {a1 a2 a3 : Option Value} {x : Nat} {S : List Value} : rn ca C_X10_stuck 45 [some (.ref x), a1, a2, a3] S M = rn ca C_X10_stuck 46 [some (.ref x), a1, a2, a3] (.ref x :: S) M := (rn_at k_X10_stuck_45).trans rfl
theorem k_X10_stuck_46 : lk 46 C_X10_stuck = some (.getfield 53, (10, 7, 0, 38)) := by decide +kernel
theorem s_X10_stuck_46 {ca : Nat → List Value → tM → tO} {M : tM} {L : tL} {b : Nat} {S : List Value} : rn ca C_X10_stuck 46 L (.ref b :: S) M = if clsO b = some 10 then rn ca C_X10_stuck 49 L (fv M b 7 :: S) M else none := (rn_at k_X10_stuck_46).trans rnx_ite
theorem k_X10_stuck_49 : lk 49 C_X10_stuck = some (.aload_n 0, (0, 0, 0, 0)) := by decide +kernel
theorem s_X10_stuck_49 {ca : Nat → List Value → tM → tO} {M : tM} {a1 a2 a3 : Option Value} {x : Nat} {S : List Value} : rn ca C_X10_stuck 49 [some (.ref x), a1, a2, a3] S M = rn ca C_X10_stuck 50 [some (.ref x), a1, a2, a3] (.ref x :: S) M := (rn_at k_X10_stuck_49).trans rfl
theorem k_X10_stuck_50 : lk 50 C_X10_stuck = some (.getfield 10, (10, 0, 0, 16)) := by decide +kernel
theorem s_X10_stuck_50 {ca : Nat → List Value → tM → tO} {M : tM} {L : tL} {b : Nat} {S : List Value} : rn ca C_X10_stuck 50 L (.ref b :: S) M = if clsO b = some 10 then rn ca C_X10_stuck 53 L (fv M b 0 :: S) M else none := (rn_at k_X10_stuck_50).trans rnx_ite
theorem k_X10_stuck_53 : lk 53 C_X10_stuck = some (.invokevirtual 313, (13, 1, 3, 962)) := by decide +kernel
theorem s_X10_stuck_53 {ca : Nat → List Value → tM → tO} {M : tM} {L : tL} {v1 : Value} {b : Nat} : rn ca C_X10_stuck 53 L [v1, .ref b] M = if clsO b = some 3 then rnk ca C_X10_stuck 56 L [] (ca m_X3_fittingTubes [.ref b, v1] M) else none := (rn_at k_X10_stuck_53).trans rnx_ite
theorem k_X10_stuck_56 : lk 56 C_X10_stuck = some (.ireturn, (0, 0, 0, 0)) := by decide +kernel
theorem s_X10_stuck_56 {ca : Nat → List Value → tM → tO} {M : tM} {L : tL} {x : Int32} : rn ca C_X10_stuck 56 L [.int x] M = some (some (.int x), M) := (rn_at k_X10_stuck_56).trans rfl
theorem k_X10_listen_0 : lk 0 C_X10_listen = some (.aload_n 0, (0, 0, 0, 0)) := by decide +kernel
theorem s_X10_listen_0 {ca : Nat → List Value → tM → tO} {M : tM} {a1 a2 a3 : Option Value} {x : Nat} {S : List Value} : rn ca C_X10_listen 0 [some (.ref x), a1, a2, a3] S M = rn ca C_X10_listen 1 [some (.ref x), a1, a2, a3] (.ref x :: S) M := (rn_at k_X10_listen_0).trans rfl
theorem k_X10_listen_1 : lk 1 C_X10_listen = some (.iload_n 1, (0, 0, 0, 0)) := by decide +kernel
theorem s_X10_listen_1 {ca : Nat → List Value → tM → tO} {M : tM} {a0 a2 a3 : Option Value} {x : Int32} {S : List Value} : rn ca C_X10_listen 1 [a0, some (.int x), a2, a3] S M = rn ca C_X10_listen 2 [a0, some (.int x), a2, a3] (.int x :: S) M := (rn_at k_X10_listen_1).trans rfl
theorem k_X10_listen_2 : lk 2 C_X10_listen = some (.iload_n 2, (0, 0, 0, 0)) := by decide +kernel
theorem s_X10_listen_2 {ca : Nat → List Value → tM → tO} {M : tM} {a0 a1 a3 : Option Value} {x : Int32} {S : List Value} : rn ca C_X10_listen 2 [a0, a1, some (.int x), a3] S M = rn ca C_X10_listen 3 [a0, a1, some (.int x), a3] (.int x :: S) M := (rn_at k_X10_listen_2).trans rfl
theorem k_X10_listen_3 : lk 3 C_X10_listen = some (.invokevirtual 302, (137, 2, 10, 940)) := by decide +kernel
theorem s_X10_listen_3 {ca : Nat → List Value → tM → tO} {M : tM} {L : tL} {v1 v2 : Value} {b : Nat} : rn ca C_X10_listen 3 L [v2, v1, .ref b] M = if clsO b = some 10 then rnk ca C_X10_listen 6 L [] (ca m_X10_knocksRefusal [.ref b, v1, v2] M) else none := (rn_at k_X10_listen_3).trans rnx_ite
theorem k_X10_listen_6 : lk 6 C_X10_listen = some (.istore_n 3, (0, 0, 0, 0)) := by decide +kernel
theorem s_X10_listen_6 {ca : Nat → List Value → tM → tO} {M : tM} {a0 a1 a2 a3 : Option Value} {x : Int32} {S : List Value} : rn ca C_X10_listen 6 [a0, a1, a2, a3] (.int x :: S) M = rn ca C_X10_listen 7 [a0, a1, a2, some (.int x)] S M := (rn_at k_X10_listen_6).trans rfl
theorem k_X10_listen_7 : lk 7 C_X10_listen = some (.iload_n 3, (0, 0, 0, 0)) := by decide +kernel
theorem s_X10_listen_7 {ca : Nat → List Value → tM → tO} {M : tM} {a0 a1 a2 : Option Value} {x : Int32} {S : List Value} : rn ca C_X10_listen 7 [a0, a1, a2, some (.int x)] S M = rn ca C_X10_listen 8 [a0, a1, a2, some (.int x)] (.int x :: S) M := (rn_at k_X10_listen_7).trans rfl
theorem k_X10_listen_8 : lk 8 C_X10_listen = some (.ifCond .ge 12, (20, 0, 0, 0)) := by decide +kernel
theorem s_X10_listen_8 {ca : Nat → List Value → tM → tO} {M : tM} {L : tL} {x : Int32} {S : List Value} : rn ca C_X10_listen 8 L (.int x :: S) M = if iI 0 ≤ x then rn ca C_X10_listen 20 L S M else rn ca C_X10_listen 11 L S M := (rn_at k_X10_listen_8).trans rnx_ite
theorem k_X10_listen_11 : lk 11 C_X10_listen = some (.aload_n 0, (0, 0, 0, 0)) := by decide +kernel
theorem s_X10_listen_11 {ca : Nat → List Value → tM → tO} {M : tM} {a1 a2 a3 : Option Value} {x : Nat} {S : List Value} : rn ca C_X10_listen 11 [some (.ref x), a1, a2, a3] S M = rn ca C_X10_listen 12 [some (.ref x), a1, a2, a3] (.ref x :: S) M := (rn_at k_X10_listen_11).trans rfl
theorem k_X10_listen_12 : lk 12 C_X10_listen = some (.bipush (-10), (0, 0, 0, 0)) := by decide +kernel
theorem s_X10_listen_12 {ca : Nat → List Value → tM → tO} {M : tM} {L : tL} {S : List Value} : rn ca C_X10_listen 12 L S M = rn ca C_X10_listen 14 L (.int (iI (-10)) :: S) M := (rn_at k_X10_listen_12).trans rfl
theorem k_X10_listen_14 : lk 14 C_X10_listen = some (.iload_n 3, (0, 0, 0, 0)) := by decide +kernel
theorem s_X10_listen_14 {ca : Nat → List Value → tM → tO} {M : tM} {a0 a1 a2 : Option Value} {x : Int32} {S : List Value} : rn ca C_X10_listen 14 [a0, a1, a2, some (.int x)] S M = rn ca C_X10_listen 15 [a0, a1, a2, some (.int x)] (.int x :: S) M := (rn_at k_X10_listen_14).trans rfl
theorem k_X10_listen_15 : lk 15 C_X10_listen = some (.iadd, (0, 0, 0, 0)) := by decide +kernel
theorem s_X10_listen_15 {ca : Nat → List Value → tM → tO} {M : tM} {L : tL} {x y : Int32} {S : List Value} : rn ca C_X10_listen 15 L (.int y :: .int x :: S) M = rn ca C_X10_listen 16 L (.int (x + y) :: S) M := (rn_at k_X10_listen_15).trans rfl
theorem k_X10_listen_16 : lk 16 C_X10_listen = some (.invokevirtual 101, (134, 1, 10, 175)) := by decide +kernel
theorem s_X10_listen_16 {ca : Nat → List Value → tM → tO} {M : tM} {L : tL} {v1 : Value} {b : Nat} : rn ca C_X10_listen 16 L [v1, .ref b] M = if clsO b = some 10 then rnk ca C_X10_listen 19 L [] (ca m_X10_refuse [.ref b, v1] M) else none := (rn_at k_X10_listen_16).trans rnx_ite
theorem k_X10_listen_19 : lk 19 C_X10_listen = some (.ireturn, (0, 0, 0, 0)) := by decide +kernel
theorem s_X10_listen_19 {ca : Nat → List Value → tM → tO} {M : tM} {L : tL} {x : Int32} : rn ca C_X10_listen 19 L [.int x] M = some (some (.int x), M) := (rn_at k_X10_listen_19).trans rfl
theorem k_X10_listen_20 : lk 20 C_X10_listen = some (.aload_n 0, (0, 0, 0, 0)) := by decide +kernel
theorem s_X10_listen_20 {ca : Nat → List Value → tM → tO} {M : tM} {a1 a2 a3 : Option Value} {x : Nat} {S : List Value} : rn ca C_X10_listen 20 [some (.ref x), a1, a2, a3] S M = rn ca C_X10_listen 21 [some (.ref x), a1, a2, a3] (.ref x :: S) M := (rn_at k_X10_listen_20).trans rfl
theorem k_X10_listen_21 : lk 21 C_X10_listen = some (.getfield 53, (10, 7, 0, 38)) := by decide +kernel
theorem s_X10_listen_21 {ca : Nat → List Value → tM → tO} {M : tM} {L : tL} {b : Nat} {S : List Value} : rn ca C_X10_listen 21 L (.ref b :: S) M = if clsO b = some 10 then rn ca C_X10_listen 24 L (fv M b 7 :: S) M else none := (rn_at k_X10_listen_21).trans rnx_ite
theorem k_X10_listen_24 : lk 24 C_X10_listen = some (.aload_n 0, (0, 0, 0, 0)) := by decide +kernel
theorem s_X10_listen_24 {ca : Nat → List Value → tM → tO} {M : tM} {a1 a2 a3 : Option Value} {x : Nat} {S : List Value} : rn ca C_X10_listen 24 [some (.ref x), a1, a2, a3] S M = rn ca C_X10_listen 25 [some (.ref x), a1, a2, a3] (.ref x :: S) M := (rn_at k_X10_listen_24).trans rfl
theorem k_X10_listen_25 : lk 25 C_X10_listen = some (.getfield 25, (10, 3, 0, 22)) := by decide +kernel
theorem s_X10_listen_25 {ca : Nat → List Value → tM → tO} {M : tM} {L : tL} {b : Nat} {S : List Value} : rn ca C_X10_listen 25 L (.ref b :: S) M = if clsO b = some 10 then rn ca C_X10_listen 28 L (fv M b 3 :: S) M else none := (rn_at k_X10_listen_25).trans rnx_ite
theorem k_X10_listen_28 : lk 28 C_X10_listen = some (.iload_n 1, (0, 0, 0, 0)) := by decide +kernel
theorem s_X10_listen_28 {ca : Nat → List Value → tM → tO} {M : tM} {a0 a2 a3 : Option Value} {x : Int32} {S : List Value} : rn ca C_X10_listen 28 [a0, some (.int x), a2, a3] S M = rn ca C_X10_listen 29 [a0, some (.int x), a2, a3] (.int x :: S) M := (rn_at k_X10_listen_28).trans rfl
theorem k_X10_listen_29 : lk 29 C_X10_listen = some (.iload_n 2, (0, 0, 0, 0)) := by decide +kernel
theorem s_X10_listen_29 {ca : Nat → List Value → tM → tO} {M : tM} {a0 a1 a3 : Option Value} {x : Int32} {S : List Value} : rn ca C_X10_listen 29 [a0, a1, some (.int x), a3] S M = rn ca C_X10_listen 30 [a0, a1, some (.int x), a3] (.int x :: S) M := (rn_at k_X10_listen_29).trans rfl
theorem k_X10_listen_30 : lk 30 C_X10_listen = some (.invokevirtual 305, (11, 3, 3, 945)) := by decide +kernel
theorem s_X10_listen_30 {ca : Nat → List Value → tM → tO} {M : tM} {L : tL} {v1 v2 v3 : Value} {b : Nat} : rn ca C_X10_listen 30 L [v3, v2, v1, .ref b] M = if clsO b = some 3 then rnk ca C_X10_listen 33 L [] (ca m_X3_read [.ref b, v1, v2, v3] M) else none := (rn_at k_X10_listen_30).trans rnx_ite
theorem k_X10_listen_33 : lk 33 C_X10_listen = some (.aload_n 0, (0, 0, 0, 0)) := by decide +kernel
theorem s_X10_listen_33 {ca : Nat → List Value → tM → tO} {M : tM} {a1 a2 a3 : Option Value} {x : Nat} {S : List Value} : rn ca C_X10_listen 33 [some (.ref x), a1, a2, a3] S M = rn ca C_X10_listen 34 [some (.ref x), a1, a2, a3] (.ref x :: S) M := (rn_at k_X10_listen_33).trans rfl
theorem k_X10_listen_34 : lk 34 C_X10_listen = some (.getfield 53, (10, 7, 0, 38)) := by decide +kernel
theorem s_X10_listen_34 {ca : Nat → List Value → tM → tO} {M : tM} {L : tL} {b : Nat} {S : List Value} : rn ca C_X10_listen 34 L (.ref b :: S) M = if clsO b = some 10 then rn ca C_X10_listen 37 L (fv M b 7 :: S) M else none := (rn_at k_X10_listen_34).trans rnx_ite
theorem k_X10_listen_37 : lk 37 C_X10_listen = some (.aload_n 0, (0, 0, 0, 0)) := by decide +kernel
theorem s_X10_listen_37 {ca : Nat → List Value → tM → tO} {M : tM} {a1 a2 a3 : Option Value} {x : Nat} {S : List Value} : rn ca C_X10_listen 37 [some (.ref x), a1, a2, a3] S M = rn ca C_X10_listen 38 [some (.ref x), a1, a2, a3] (.ref x :: S) M := (rn_at k_X10_listen_37).trans rfl
theorem k_X10_listen_38 : lk 38 C_X10_listen = some (.getfield 10, (10, 0, 0, 16)) := by decide +kernel
theorem s_X10_listen_38 {ca : Nat → List Value → tM → tO} {M : tM} {L : tL} {b : Nat} {S : List Value} : rn ca C_X10_listen 38 L (.ref b :: S) M = if clsO b = some 10 then rn ca C_X10_listen 41 L (fv M b 0 :: S) M else none := (rn_at k_X10_listen_38).trans rnx_ite
theorem k_X10_listen_41 : lk 41 C_X10_listen = some (.aload_n 0, (0, 0, 0, 0)) := by decide +kernel
theorem s_X10_listen_41 {ca : Nat → List Value → tM → tO} {M : tM} {a1 a2 a3 : Option Value} {x : Nat} {S : List Value} : rn ca C_X10_listen 41 [some (.ref x), a1, a2, a3] S M = rn ca C_X10_listen 42 [some (.ref x), a1, a2, a3] (.ref x :: S) M := (rn_at k_X10_listen_41).trans rfl
theorem k_X10_listen_42 : lk 42 C_X10_listen = some (.getfield 32, (10, 4, 0, 26)) := by decide +kernel
theorem s_X10_listen_42 {ca : Nat → List Value → tM → tO} {M : tM} {L : tL} {b : Nat} {S : List Value} : rn ca C_X10_listen 42 L (.ref b :: S) M = if clsO b = some 10 then rn ca C_X10_listen 45 L (fv M b 4 :: S) M else none := (rn_at k_X10_listen_42).trans rnx_ite
theorem k_X10_listen_45 : lk 45 C_X10_listen = some (.invokevirtual 309, (12, 2, 3, 951)) := by decide +kernel
theorem s_X10_listen_45 {ca : Nat → List Value → tM → tO} {M : tM} {L : tL} {v1 v2 : Value} {b : Nat} : rn ca C_X10_listen 45 L [v2, v1, .ref b] M = if clsO b = some 3 then rnk ca C_X10_listen 48 L [] (ca m_X3_hear [.ref b, v1, v2] M) else none := (rn_at k_X10_listen_45).trans rnx_ite
theorem k_X10_listen_48 : lk 48 C_X10_listen = some (.aload_n 0, (0, 0, 0, 0)) := by decide +kernel
theorem s_X10_listen_48 {ca : Nat → List Value → tM → tO} {M : tM} {a1 a2 a3 : Option Value} {x : Nat} {S : List Value} : rn ca C_X10_listen 48 [some (.ref x), a1, a2, a3] S M = rn ca C_X10_listen 49 [some (.ref x), a1, a2, a3] (.ref x :: S) M := (rn_at k_X10_listen_48).trans rfl
theorem k_X10_listen_49 : lk 49 C_X10_listen = some (.getfield 53, (10, 7, 0, 38)) := by decide +kernel
theorem s_X10_listen_49 {ca : Nat → List Value → tM → tO} {M : tM} {L : tL} {b : Nat} {S : List Value} : rn ca C_X10_listen 49 L (.ref b :: S) M = if clsO b = some 10 then rn ca C_X10_listen 52 L (fv M b 7 :: S) M else none := (rn_at k_X10_listen_49).trans rnx_ite
theorem k_X10_listen_52 : lk 52 C_X10_listen = some (.aload_n 0, (0, 0, 0, 0)) := by decide +kernel
theorem s_X10_listen_52 {ca : Nat → List Value → tM → tO} {M : tM} {a1 a2 a3 : Option Value} {x : Nat} {S : List Value} : rn ca C_X10_listen 52 [some (.ref x), a1, a2, a3] S M = rn ca C_X10_listen 53 [some (.ref x), a1, a2, a3] (.ref x :: S) M := (rn_at k_X10_listen_52).trans rfl
theorem k_X10_listen_53 : lk 53 C_X10_listen = some (.getfield 10, (10, 0, 0, 16)) := by decide +kernel
theorem s_X10_listen_53 {ca : Nat → List Value → tM → tO} {M : tM} {L : tL} {b : Nat} {S : List Value} : rn ca C_X10_listen 53 L (.ref b :: S) M = if clsO b = some 10 then rn ca C_X10_listen 56 L (fv M b 0 :: S) M else none := (rn_at k_X10_listen_53).trans rnx_ite
theorem k_X10_listen_56 : lk 56 C_X10_listen = some (.invokevirtual 316, (15, 1, 3, 997)) := by decide +kernel
theorem s_X10_listen_56 {ca : Nat → List Value → tM → tO} {M : tM} {L : tL} {v1 : Value} {b : Nat} : rn ca C_X10_listen 56 L [v1, .ref b] M = if clsO b = some 3 then rnk ca C_X10_listen 59 L [] (ca m_X3_nextDesk [.ref b, v1] M) else none := (rn_at k_X10_listen_56).trans rnx_ite
theorem k_X10_listen_59 : lk 59 C_X10_listen = some (.ireturn, (0, 0, 0, 0)) := by decide +kernel
theorem s_X10_listen_59 {ca : Nat → List Value → tM → tO} {M : tM} {L : tL} {x : Int32} : rn ca C_X10_listen 59 L [.int x] M = some (some (.int x), M) := (rn_at k_X10_listen_59).trans rfl
theorem k_X10_enough_0 : lk 0 C_X10_enough = some (.aload_n 0, (0, 0, 0, 0)) := by decide +kernel
theorem s_X10_enough_0 {ca : Nat → List Value → tM → tO} {M : tM} {a1 a2 a3 a4 a5 : Option Value} {x : Nat} {S : List Value} : rn ca C_X10_enough 0 [some (.ref x), a1, a2, a3, a4, a5] S M = rn ca C_X10_enough 1 [some (.ref x), a1, a2, a3, a4, a5] (.ref x :: S) M := (rn_at k_X10_enough_0).trans rfl
theorem k_X10_enough_1 : lk 1 C_X10_enough = some (.getfield 10, (10, 0, 0, 16)) := by decide +kernel
theorem s_X10_enough_1 {ca : Nat → List Value → tM → tO} {M : tM} {L : tL} {b : Nat} {S : List Value} : rn ca C_X10_enough 1 L (.ref b :: S) M = if clsO b = some 10 then rn ca C_X10_enough 4 L (fv M b 0 :: S) M else none := (rn_at k_X10_enough_1).trans rnx_ite
theorem k_X10_enough_4 : lk 4 C_X10_enough = some (.iload_n 1, (0, 0, 0, 0)) := by decide +kernel
theorem s_X10_enough_4 {ca : Nat → List Value → tM → tO} {M : tM} {a0 a2 a3 a4 a5 : Option Value} {x : Int32} {S : List Value} : rn ca C_X10_enough 4 [a0, some (.int x), a2, a3, a4, a5] S M = rn ca C_X10_enough 5 [a0, some (.int x), a2, a3, a4, a5] (.int x :: S) M := (rn_at k_X10_enough_4).trans rfl
theorem k_X10_enough_5 : lk 5 C_X10_enough = some (.invokevirtual 135, (20, 1, 4, 290)) := by decide +kernel
theorem s_X10_enough_5 {ca : Nat → List Value → tM → tO} {M : tM} {L : tL} {v1 : Value} {b : Nat} : rn ca C_X10_enough 5 L [v1, .ref b] M = if clsO b = some 4 then rnk ca C_X10_enough 8 L [] (ca m_X4_hasCapsule [.ref b, v1] M) else none := (rn_at k_X10_enough_5).trans rnx_ite
theorem k_X10_enough_8 : lk 8 C_X10_enough = some (.ifCond .eq 14, (22, 0, 0, 0)) := by decide +kernel
theorem s_X10_enough_8 {ca : Nat → List Value → tM → tO} {M : tM} {L : tL} {x : Int32} {S : List Value} : rn ca C_X10_enough 8 L (.int x :: S) M = if x = iI 0 then rn ca C_X10_enough 22 L S M else rn ca C_X10_enough 11 L S M := (rn_at k_X10_enough_8).trans rnx_ite
theorem k_X10_enough_11 : lk 11 C_X10_enough = some (.aload_n 0, (0, 0, 0, 0)) := by decide +kernel
theorem s_X10_enough_11 {ca : Nat → List Value → tM → tO} {M : tM} {a1 a2 a3 a4 a5 : Option Value} {x : Nat} {S : List Value} : rn ca C_X10_enough 11 [some (.ref x), a1, a2, a3, a4, a5] S M = rn ca C_X10_enough 12 [some (.ref x), a1, a2, a3, a4, a5] (.ref x :: S) M := (rn_at k_X10_enough_11).trans rfl
theorem k_X10_enough_12 : lk 12 C_X10_enough = some (.getfield 10, (10, 0, 0, 16)) := by decide +kernel
theorem s_X10_enough_12 {ca : Nat → List Value → tM → tO} {M : tM} {L : tL} {b : Nat} {S : List Value} : rn ca C_X10_enough 12 L (.ref b :: S) M = if clsO b = some 10 then rn ca C_X10_enough 15 L (fv M b 0 :: S) M else none := (rn_at k_X10_enough_12).trans rnx_ite
theorem k_X10_enough_15 : lk 15 C_X10_enough = some (.iload_n 2, (0, 0, 0, 0)) := by decide +kernel
theorem s_X10_enough_15 {ca : Nat → List Value → tM → tO} {M : tM} {a0 a1 a3 a4 a5 : Option Value} {x : Int32} {S : List Value} : rn ca C_X10_enough 15 [a0, a1, some (.int x), a3, a4, a5] S M = rn ca C_X10_enough 16 [a0, a1, some (.int x), a3, a4, a5] (.int x :: S) M := (rn_at k_X10_enough_15).trans rfl
theorem k_X10_enough_16 : lk 16 C_X10_enough = some (.invokevirtual 174, (18, 1, 4, 368)) := by decide +kernel
theorem s_X10_enough_16 {ca : Nat → List Value → tM → tO} {M : tM} {L : tL} {v1 : Value} {b : Nat} : rn ca C_X10_enough 16 L [v1, .ref b] M = if clsO b = some 4 then rnk ca C_X10_enough 19 L [] (ca m_X4_hasDesk [.ref b, v1] M) else none := (rn_at k_X10_enough_16).trans rnx_ite
theorem k_X10_enough_19 : lk 19 C_X10_enough = some (.ifCond .ne 10, (29, 0, 0, 0)) := by decide +kernel
theorem s_X10_enough_19 {ca : Nat → List Value → tM → tO} {M : tM} {L : tL} {x : Int32} {S : List Value} : rn ca C_X10_enough 19 L (.int x :: S) M = if ¬ x = iI 0 then rn ca C_X10_enough 29 L S M else rn ca C_X10_enough 22 L S M := (rn_at k_X10_enough_19).trans rnx_ite
theorem k_X10_enough_22 : lk 22 C_X10_enough = some (.aload_n 0, (0, 0, 0, 0)) := by decide +kernel
theorem s_X10_enough_22 {ca : Nat → List Value → tM → tO} {M : tM} {a1 a2 a3 a4 a5 : Option Value} {x : Nat} {S : List Value} : rn ca C_X10_enough 22 [some (.ref x), a1, a2, a3, a4, a5] S M = rn ca C_X10_enough 23 [some (.ref x), a1, a2, a3, a4, a5] (.ref x :: S) M := (rn_at k_X10_enough_22).trans rfl
theorem k_X10_enough_23 : lk 23 C_X10_enough = some (.bipush (-11), (0, 0, 0, 0)) := by decide +kernel
theorem s_X10_enough_23 {ca : Nat → List Value → tM → tO} {M : tM} {L : tL} {S : List Value} : rn ca C_X10_enough 23 L S M = rn ca C_X10_enough 25 L (.int (iI (-11)) :: S) M := (rn_at k_X10_enough_23).trans rfl
theorem k_X10_enough_25 : lk 25 C_X10_enough = some (.invokevirtual 101, (134, 1, 10, 175)) := by decide +kernel
theorem s_X10_enough_25 {ca : Nat → List Value → tM → tO} {M : tM} {L : tL} {v1 : Value} {b : Nat} : rn ca C_X10_enough 25 L [v1, .ref b] M = if clsO b = some 10 then rnk ca C_X10_enough 28 L [] (ca m_X10_refuse [.ref b, v1] M) else none := (rn_at k_X10_enough_25).trans rnx_ite
theorem k_X10_enough_28 : lk 28 C_X10_enough = some (.ireturn, (0, 0, 0, 0)) := by decide +kernel
theorem s_X10_enough_28 {ca : Nat → List Value → tM → tO} {M : tM} {L : tL} {x : Int32} : rn ca C_X10_enough 28 L [.int x] M = some (some (.int x), M) := (rn_at k_X10_enough_28).trans rfl
theorem k_X10_enough_29 : lk 29 C_X10_enough = some (.iload_n 3, (0, 0, 0, 0)) := by decide +kernel
theorem s_X10_enough_29 {ca : Nat → List Value → tM → tO} {M : tM} {a0 a1 a2 a4 a5 : Option Value} {x : Int32} {S : List Value} : rn ca C_X10_enough 29 [a0, a1, a2, some (.int x), a4, a5] S M = rn ca C_X10_enough 30 [a0, a1, a2, some (.int x), a4, a5] (.int x :: S) M := (rn_at k_X10_enough_29).trans rfl
theorem k_X10_enough_30 : lk 30 C_X10_enough = some (.ifCond .lt 10, (40, 0, 0, 0)) := by decide +kernel
theorem s_X10_enough_30 {ca : Nat → List Value → tM → tO} {M : tM} {L : tL} {x : Int32} {S : List Value} : rn ca C_X10_enough 30 L (.int x :: S) M = if x < iI 0 then rn ca C_X10_enough 40 L S M else rn ca C_X10_enough 33 L S M := (rn_at k_X10_enough_30).trans rnx_ite
theorem k_X10_enough_33 : lk 33 C_X10_enough = some (.iload_n 3, (0, 0, 0, 0)) := by decide +kernel
theorem s_X10_enough_33 {ca : Nat → List Value → tM → tO} {M : tM} {a0 a1 a2 a4 a5 : Option Value} {x : Int32} {S : List Value} : rn ca C_X10_enough 33 [a0, a1, a2, some (.int x), a4, a5] S M = rn ca C_X10_enough 34 [a0, a1, a2, some (.int x), a4, a5] (.int x :: S) M := (rn_at k_X10_enough_33).trans rfl
theorem k_X10_enough_34 : lk 34 C_X10_enough = some (.sipush 500, (0, 0, 0, 0)) := by decide +kernel
theorem s_X10_enough_34 {ca : Nat → List Value → tM → tO} {M : tM} {L : tL} {S : List Value} : rn ca C_X10_enough 34 L S M = rn ca C_X10_enough 37 L (.int (iI 500) :: S) M := (rn_at k_X10_enough_34).trans rfl
theorem k_X10_enough_37 : lk 37 C_X10_enough = some (.if_icmp .le 10, (47, 0, 0, 0)) := by decide +kernel
theorem s_X10_enough_37 {ca : Nat → List Value → tM → tO} {M : tM} {L : tL} {x y : Int32} {S : List Value} : rn ca C_X10_enough 37 L (.int y :: .int x :: S) M = if x ≤ y then rn ca C_X10_enough 47 L S M else rn ca C_X10_enough 40 L S M := (rn_at k_X10_enough_37).trans rnx_ite
theorem k_X10_enough_40 : lk 40 C_X10_enough = some (.aload_n 0, (0, 0, 0, 0)) := by decide +kernel
theorem s_X10_enough_40 {ca : Nat → List Value → tM → tO} {M : tM} {a1 a2 a3 a4 a5 : Option Value} {x : Nat} {S : List Value} : rn ca C_X10_enough 40 [some (.ref x), a1, a2, a3, a4, a5] S M = rn ca C_X10_enough 41 [some (.ref x), a1, a2, a3, a4, a5] (.ref x :: S) M := (rn_at k_X10_enough_40).trans rfl
theorem k_X10_enough_41 : lk 41 C_X10_enough = some (.bipush (-16), (0, 0, 0, 0)) := by decide +kernel
theorem s_X10_enough_41 {ca : Nat → List Value → tM → tO} {M : tM} {L : tL} {S : List Value} : rn ca C_X10_enough 41 L S M = rn ca C_X10_enough 43 L (.int (iI (-16)) :: S) M := (rn_at k_X10_enough_41).trans rfl
theorem k_X10_enough_43 : lk 43 C_X10_enough = some (.invokevirtual 101, (134, 1, 10, 175)) := by decide +kernel
theorem s_X10_enough_43 {ca : Nat → List Value → tM → tO} {M : tM} {L : tL} {v1 : Value} {b : Nat} : rn ca C_X10_enough 43 L [v1, .ref b] M = if clsO b = some 10 then rnk ca C_X10_enough 46 L [] (ca m_X10_refuse [.ref b, v1] M) else none := (rn_at k_X10_enough_43).trans rnx_ite
theorem k_X10_enough_46 : lk 46 C_X10_enough = some (.ireturn, (0, 0, 0, 0)) := by decide +kernel
theorem s_X10_enough_46 {ca : Nat → List Value → tM → tO} {M : tM} {L : tL} {x : Int32} : rn ca C_X10_enough 46 L [.int x] M = some (some (.int x), M) := (rn_at k_X10_enough_46).trans rfl
theorem k_X10_enough_47 : lk 47 C_X10_enough = some (.iconst 1, (0, 0, 0, 0)) := by decide +kernel
theorem s_X10_enough_47 {ca : Nat → List Value → tM → tO} {M : tM} {L : tL} {S : List Value} : rn ca C_X10_enough 47 L S M = rn ca C_X10_enough 48 L (.int (iI 1) :: S) M := (rn_at k_X10_enough_47).trans rfl
theorem k_X10_enough_48 : lk 48 C_X10_enough = some (.istore 4, (0, 0, 0, 0)) := by decide +kernel
theorem s_X10_enough_48 {ca : Nat → List Value → tM → tO} {M : tM} {a0 a1 a2 a3 a4 a5 : Option Value} {x : Int32} {S : List Value} : rn ca C_X10_enough 48 [a0, a1, a2, a3, a4, a5] (.int x :: S) M = rn ca C_X10_enough 50 [a0, a1, a2, a3, some (.int x), a5] S M := (rn_at k_X10_enough_48).trans rfl
theorem k_X10_enough_50 : lk 50 C_X10_enough = some (.iload 4, (0, 0, 0, 0)) := by decide +kernel
theorem s_X10_enough_50 {ca : Nat → List Value → tM → tO} {M : tM} {a0 a1 a2 a3 a5 : Option Value} {x : Int32} {S : List Value} : rn ca C_X10_enough 50 [a0, a1, a2, a3, some (.int x), a5] S M = rn ca C_X10_enough 52 [a0, a1, a2, a3, some (.int x), a5] (.int x :: S) M := (rn_at k_X10_enough_50).trans rfl
theorem k_X10_enough_52 : lk 52 C_X10_enough = some (.bipush 9, (0, 0, 0, 0)) := by decide +kernel
theorem s_X10_enough_52 {ca : Nat → List Value → tM → tO} {M : tM} {L : tL} {S : List Value} : rn ca C_X10_enough 52 L S M = rn ca C_X10_enough 54 L (.int (iI 9) :: S) M := (rn_at k_X10_enough_52).trans rfl
theorem k_X10_enough_54 : lk 54 C_X10_enough = some (.if_icmp .gt 41, (95, 0, 0, 0)) := by decide +kernel
theorem s_X10_enough_54 {ca : Nat → List Value → tM → tO} {M : tM} {L : tL} {x y : Int32} {S : List Value} : rn ca C_X10_enough 54 L (.int y :: .int x :: S) M = if y < x then rn ca C_X10_enough 95 L S M else rn ca C_X10_enough 57 L S M := (rn_at k_X10_enough_54).trans rnx_ite
theorem k_X10_enough_57 : lk 57 C_X10_enough = some (.aload_n 0, (0, 0, 0, 0)) := by decide +kernel
theorem s_X10_enough_57 {ca : Nat → List Value → tM → tO} {M : tM} {a1 a2 a3 a4 a5 : Option Value} {x : Nat} {S : List Value} : rn ca C_X10_enough 57 [some (.ref x), a1, a2, a3, a4, a5] S M = rn ca C_X10_enough 58 [some (.ref x), a1, a2, a3, a4, a5] (.ref x :: S) M := (rn_at k_X10_enough_57).trans rfl
theorem k_X10_enough_58 : lk 58 C_X10_enough = some (.getfield 32, (10, 4, 0, 26)) := by decide +kernel
theorem s_X10_enough_58 {ca : Nat → List Value → tM → tO} {M : tM} {L : tL} {b : Nat} {S : List Value} : rn ca C_X10_enough 58 L (.ref b :: S) M = if clsO b = some 10 then rn ca C_X10_enough 61 L (fv M b 4 :: S) M else none := (rn_at k_X10_enough_58).trans rnx_ite
theorem k_X10_enough_61 : lk 61 C_X10_enough = some (.aload_n 0, (0, 0, 0, 0)) := by decide +kernel
theorem s_X10_enough_61 {ca : Nat → List Value → tM → tO} {M : tM} {a1 a2 a3 a4 a5 : Option Value} {x : Nat} {S : List Value} : rn ca C_X10_enough 61 [some (.ref x), a1, a2, a3, a4, a5] S M = rn ca C_X10_enough 62 [some (.ref x), a1, a2, a3, a4, a5] (.ref x :: S) M := (rn_at k_X10_enough_61).trans rfl
theorem k_X10_enough_62 : lk 62 C_X10_enough = some (.getfield 10, (10, 0, 0, 16)) := by decide +kernel
theorem s_X10_enough_62 {ca : Nat → List Value → tM → tO} {M : tM} {L : tL} {b : Nat} {S : List Value} : rn ca C_X10_enough 62 L (.ref b :: S) M = if clsO b = some 10 then rn ca C_X10_enough 65 L (fv M b 0 :: S) M else none := (rn_at k_X10_enough_62).trans rnx_ite
theorem k_X10_enough_65 : lk 65 C_X10_enough = some (.iload_n 1, (0, 0, 0, 0)) := by decide +kernel
theorem s_X10_enough_65 {ca : Nat → List Value → tM → tO} {M : tM} {a0 a2 a3 a4 a5 : Option Value} {x : Int32} {S : List Value} : rn ca C_X10_enough 65 [a0, some (.int x), a2, a3, a4, a5] S M = rn ca C_X10_enough 66 [a0, some (.int x), a2, a3, a4, a5] (.int x :: S) M := (rn_at k_X10_enough_65).trans rfl
theorem k_X10_enough_66 : lk 66 C_X10_enough = some (.iload_n 2, (0, 0, 0, 0)) := by decide +kernel
theorem s_X10_enough_66 {ca : Nat → List Value → tM → tO} {M : tM} {a0 a1 a3 a4 a5 : Option Value} {x : Int32} {S : List Value} : rn ca C_X10_enough 66 [a0, a1, some (.int x), a3, a4, a5] S M = rn ca C_X10_enough 67 [a0, a1, some (.int x), a3, a4, a5] (.int x :: S) M := (rn_at k_X10_enough_66).trans rfl
theorem k_X10_enough_67 : lk 67 C_X10_enough = some (.iload 4, (0, 0, 0, 0)) := by decide +kernel
theorem s_X10_enough_67 {ca : Nat → List Value → tM → tO} {M : tM} {a0 a1 a2 a3 a5 : Option Value} {x : Int32} {S : List Value} : rn ca C_X10_enough 67 [a0, a1, a2, a3, some (.int x), a5] S M = rn ca C_X10_enough 69 [a0, a1, a2, a3, some (.int x), a5] (.int x :: S) M := (rn_at k_X10_enough_67).trans rfl
theorem k_X10_enough_69 : lk 69 C_X10_enough = some (.invokevirtual 239, (86, 4, 9, 695)) := by decide +kernel
theorem s_X10_enough_69 {ca : Nat → List Value → tM → tO} {M : tM} {L : tL} {v1 v2 v3 v4 : Value} {b : Nat} : rn ca C_X10_enough 69 L [v4, v3, v2, v1, .ref b] M = if clsO b = some 9 then rnk ca C_X10_enough 72 L [] (ca m_X9_minutesTo [.ref b, v1, v2, v3, v4] M) else none := (rn_at k_X10_enough_69).trans rnx_ite
theorem k_X10_enough_72 : lk 72 C_X10_enough = some (.istore 5, (0, 0, 0, 0)) := by decide +kernel
theorem s_X10_enough_72 {ca : Nat → List Value → tM → tO} {M : tM} {a0 a1 a2 a3 a4 a5 : Option Value} {x : Int32} {S : List Value} : rn ca C_X10_enough 72 [a0, a1, a2, a3, a4, a5] (.int x :: S) M = rn ca C_X10_enough 74 [a0, a1, a2, a3, a4, some (.int x)] S M := (rn_at k_X10_enough_72).trans rfl
theorem k_X10_enough_74 : lk 74 C_X10_enough = some (.iload 5, (0, 0, 0, 0)) := by decide +kernel
theorem s_X10_enough_74 {ca : Nat → List Value → tM → tO} {M : tM} {a0 a1 a2 a3 a4 : Option Value} {x : Int32} {S : List Value} : rn ca C_X10_enough 74 [a0, a1, a2, a3, a4, some (.int x)] S M = rn ca C_X10_enough 76 [a0, a1, a2, a3, a4, some (.int x)] (.int x :: S) M := (rn_at k_X10_enough_74).trans rfl
theorem k_X10_enough_76 : lk 76 C_X10_enough = some (.iconst (-1), (0, 0, 0, 0)) := by decide +kernel
theorem s_X10_enough_76 {ca : Nat → List Value → tM → tO} {M : tM} {L : tL} {S : List Value} : rn ca C_X10_enough 76 L S M = rn ca C_X10_enough 77 L (.int (iI (-1)) :: S) M := (rn_at k_X10_enough_76).trans rfl
theorem k_X10_enough_77 : lk 77 C_X10_enough = some (.if_icmp .eq 12, (89, 0, 0, 0)) := by decide +kernel
theorem s_X10_enough_77 {ca : Nat → List Value → tM → tO} {M : tM} {L : tL} {x y : Int32} {S : List Value} : rn ca C_X10_enough 77 L (.int y :: .int x :: S) M = if x = y then rn ca C_X10_enough 89 L S M else rn ca C_X10_enough 80 L S M := (rn_at k_X10_enough_77).trans rnx_ite
theorem k_X10_enough_80 : lk 80 C_X10_enough = some (.iload 5, (0, 0, 0, 0)) := by decide +kernel
theorem s_X10_enough_80 {ca : Nat → List Value → tM → tO} {M : tM} {a0 a1 a2 a3 a4 : Option Value} {x : Int32} {S : List Value} : rn ca C_X10_enough 80 [a0, a1, a2, a3, a4, some (.int x)] S M = rn ca C_X10_enough 82 [a0, a1, a2, a3, a4, some (.int x)] (.int x :: S) M := (rn_at k_X10_enough_80).trans rfl
theorem k_X10_enough_82 : lk 82 C_X10_enough = some (.iload_n 3, (0, 0, 0, 0)) := by decide +kernel
theorem s_X10_enough_82 {ca : Nat → List Value → tM → tO} {M : tM} {a0 a1 a2 a4 a5 : Option Value} {x : Int32} {S : List Value} : rn ca C_X10_enough 82 [a0, a1, a2, some (.int x), a4, a5] S M = rn ca C_X10_enough 83 [a0, a1, a2, some (.int x), a4, a5] (.int x :: S) M := (rn_at k_X10_enough_82).trans rfl
theorem k_X10_enough_83 : lk 83 C_X10_enough = some (.if_icmp .gt 6, (89, 0, 0, 0)) := by decide +kernel
theorem s_X10_enough_83 {ca : Nat → List Value → tM → tO} {M : tM} {L : tL} {x y : Int32} {S : List Value} : rn ca C_X10_enough 83 L (.int y :: .int x :: S) M = if y < x then rn ca C_X10_enough 89 L S M else rn ca C_X10_enough 86 L S M := (rn_at k_X10_enough_83).trans rnx_ite
theorem k_X10_enough_86 : lk 86 C_X10_enough = some (.iload 4, (0, 0, 0, 0)) := by decide +kernel
theorem s_X10_enough_86 {ca : Nat → List Value → tM → tO} {M : tM} {a0 a1 a2 a3 a5 : Option Value} {x : Int32} {S : List Value} : rn ca C_X10_enough 86 [a0, a1, a2, a3, some (.int x), a5] S M = rn ca C_X10_enough 88 [a0, a1, a2, a3, some (.int x), a5] (.int x :: S) M := (rn_at k_X10_enough_86).trans rfl
theorem k_X10_enough_88 : lk 88 C_X10_enough = some (.ireturn, (0, 0, 0, 0)) := by decide +kernel
theorem s_X10_enough_88 {ca : Nat → List Value → tM → tO} {M : tM} {L : tL} {x : Int32} : rn ca C_X10_enough 88 L [.int x] M = some (some (.int x), M) := (rn_at k_X10_enough_88).trans rfl
theorem k_X10_enough_89 : lk 89 C_X10_enough = some (.iinc 4 1, (0, 0, 0, 0)) := by decide +kernel
theorem s_X10_enough_89 {ca : Nat → List Value → tM → tO} {M : tM} {a0 a1 a2 a3 a5 : Option Value} {x : Int32} {S : List Value} : rn ca C_X10_enough 89 [a0, a1, a2, a3, some (.int x), a5] S M = rn ca C_X10_enough 92 [a0, a1, a2, a3, some (.int (x + iI 1)), a5] S M := (rn_at k_X10_enough_89).trans rfl
theorem k_X10_enough_92 : lk 92 C_X10_enough = some (.goto (-42), (50, 0, 0, 0)) := by decide +kernel
theorem s_X10_enough_92 {ca : Nat → List Value → tM → tO} {M : tM} {L : tL} {S : List Value} : rn ca C_X10_enough 92 L S M = rn ca C_X10_enough 50 L S M := (rn_at k_X10_enough_92).trans rfl
theorem k_X10_enough_95 : lk 95 C_X10_enough = some (.iconst (-1), (0, 0, 0, 0)) := by decide +kernel
theorem s_X10_enough_95 {ca : Nat → List Value → tM → tO} {M : tM} {L : tL} {S : List Value} : rn ca C_X10_enough 95 L S M = rn ca C_X10_enough 96 L (.int (iI (-1)) :: S) M := (rn_at k_X10_enough_95).trans rfl
theorem k_X10_enough_96 : lk 96 C_X10_enough = some (.ireturn, (0, 0, 0, 0)) := by decide +kernel
theorem s_X10_enough_96 {ca : Nat → List Value → tM → tO} {M : tM} {L : tL} {x : Int32} : rn ca C_X10_enough 96 L [.int x] M = some (some (.int x), M) := (rn_at k_X10_enough_96).trans rfl
theorem k_X10_tree_0 : lk 0 C_X10_tree = some (.iload_n 1, (0, 0, 0, 0)) := by decide +kernel
theorem s_X10_tree_0 {ca : Nat → List Value → tM → tO} {M : tM} {a0 : Option Value} {x : Int32} {S : List Value} : rn ca C_X10_tree 0 [a0, some (.int x)] S M = rn ca C_X10_tree 1 [a0, some (.int x)] (.int x :: S) M := (rn_at k_X10_tree_0).trans rfl
theorem k_X10_tree_1 : lk 1 C_X10_tree = some (.ifCond .eq 15, (16, 0, 0, 0)) := by decide +kernel
theorem s_X10_tree_1 {ca : Nat → List Value → tM → tO} {M : tM} {L : tL} {x : Int32} {S : List Value} : rn ca C_X10_tree 1 L (.int x :: S) M = if x = iI 0 then rn ca C_X10_tree 16 L S M else rn ca C_X10_tree 4 L S M := (rn_at k_X10_tree_1).trans rnx_ite
theorem k_X10_tree_4 : lk 4 C_X10_tree = some (.iload_n 1, (0, 0, 0, 0)) := by decide +kernel
theorem s_X10_tree_4 {ca : Nat → List Value → tM → tO} {M : tM} {a0 : Option Value} {x : Int32} {S : List Value} : rn ca C_X10_tree 4 [a0, some (.int x)] S M = rn ca C_X10_tree 5 [a0, some (.int x)] (.int x :: S) M := (rn_at k_X10_tree_4).trans rfl
theorem k_X10_tree_5 : lk 5 C_X10_tree = some (.iconst 1, (0, 0, 0, 0)) := by decide +kernel
theorem s_X10_tree_5 {ca : Nat → List Value → tM → tO} {M : tM} {L : tL} {S : List Value} : rn ca C_X10_tree 5 L S M = rn ca C_X10_tree 6 L (.int (iI 1) :: S) M := (rn_at k_X10_tree_5).trans rfl
theorem k_X10_tree_6 : lk 6 C_X10_tree = some (.if_icmp .eq 10, (16, 0, 0, 0)) := by decide +kernel
theorem s_X10_tree_6 {ca : Nat → List Value → tM → tO} {M : tM} {L : tL} {x y : Int32} {S : List Value} : rn ca C_X10_tree 6 L (.int y :: .int x :: S) M = if x = y then rn ca C_X10_tree 16 L S M else rn ca C_X10_tree 9 L S M := (rn_at k_X10_tree_6).trans rnx_ite
theorem k_X10_tree_9 : lk 9 C_X10_tree = some (.aload_n 0, (0, 0, 0, 0)) := by decide +kernel
theorem s_X10_tree_9 {ca : Nat → List Value → tM → tO} {M : tM} {a1 : Option Value} {x : Nat} {S : List Value} : rn ca C_X10_tree 9 [some (.ref x), a1] S M = rn ca C_X10_tree 10 [some (.ref x), a1] (.ref x :: S) M := (rn_at k_X10_tree_9).trans rfl
theorem k_X10_tree_10 : lk 10 C_X10_tree = some (.bipush (-15), (0, 0, 0, 0)) := by decide +kernel
theorem s_X10_tree_10 {ca : Nat → List Value → tM → tO} {M : tM} {L : tL} {S : List Value} : rn ca C_X10_tree 10 L S M = rn ca C_X10_tree 12 L (.int (iI (-15)) :: S) M := (rn_at k_X10_tree_10).trans rfl
theorem k_X10_tree_12 : lk 12 C_X10_tree = some (.invokevirtual 101, (134, 1, 10, 175)) := by decide +kernel
theorem s_X10_tree_12 {ca : Nat → List Value → tM → tO} {M : tM} {L : tL} {v1 : Value} {b : Nat} : rn ca C_X10_tree 12 L [v1, .ref b] M = if clsO b = some 10 then rnk ca C_X10_tree 15 L [] (ca m_X10_refuse [.ref b, v1] M) else none := (rn_at k_X10_tree_12).trans rnx_ite
theorem k_X10_tree_15 : lk 15 C_X10_tree = some (.ireturn, (0, 0, 0, 0)) := by decide +kernel
theorem s_X10_tree_15 {ca : Nat → List Value → tM → tO} {M : tM} {L : tL} {x : Int32} : rn ca C_X10_tree 15 L [.int x] M = some (some (.int x), M) := (rn_at k_X10_tree_15).trans rfl
theorem k_X10_tree_16 : lk 16 C_X10_tree = some (.aload_n 0, (0, 0, 0, 0)) := by decide +kernel
theorem s_X10_tree_16 {ca : Nat → List Value → tM → tO} {M : tM} {a1 : Option Value} {x : Nat} {S : List Value} : rn ca C_X10_tree 16 [some (.ref x), a1] S M = rn ca C_X10_tree 17 [some (.ref x), a1] (.ref x :: S) M := (rn_at k_X10_tree_16).trans rfl
theorem k_X10_tree_17 : lk 17 C_X10_tree = some (.getfield 60, (10, 8, 0, 42)) := by decide +kernel
theorem s_X10_tree_17 {ca : Nat → List Value → tM → tO} {M : tM} {L : tL} {b : Nat} {S : List Value} : rn ca C_X10_tree 17 L (.ref b :: S) M = if clsO b = some 10 then rn ca C_X10_tree 20 L (fv M b 8 :: S) M else none := (rn_at k_X10_tree_17).trans rnx_ite
theorem k_X10_tree_20 : lk 20 C_X10_tree = some (.aload_n 0, (0, 0, 0, 0)) := by decide +kernel
theorem s_X10_tree_20 {ca : Nat → List Value → tM → tO} {M : tM} {a1 : Option Value} {x : Nat} {S : List Value} : rn ca C_X10_tree 20 [some (.ref x), a1] S M = rn ca C_X10_tree 21 [some (.ref x), a1] (.ref x :: S) M := (rn_at k_X10_tree_20).trans rfl
theorem k_X10_tree_21 : lk 21 C_X10_tree = some (.getfield 10, (10, 0, 0, 16)) := by decide +kernel
theorem s_X10_tree_21 {ca : Nat → List Value → tM → tO} {M : tM} {L : tL} {b : Nat} {S : List Value} : rn ca C_X10_tree 21 L (.ref b :: S) M = if clsO b = some 10 then rn ca C_X10_tree 24 L (fv M b 0 :: S) M else none := (rn_at k_X10_tree_21).trans rnx_ite
theorem k_X10_tree_24 : lk 24 C_X10_tree = some (.invokevirtual 319, (9, 1, 2, 1032)) := by decide +kernel
theorem s_X10_tree_24 {ca : Nat → List Value → tM → tO} {M : tM} {L : tL} {v1 : Value} {b : Nat} : rn ca C_X10_tree 24 L [v1, .ref b] M = if clsO b = some 2 then rnk ca C_X10_tree 27 L [] (ca m_X2_joinAll [.ref b, v1] M) else none := (rn_at k_X10_tree_24).trans rnx_ite
theorem k_X10_tree_27 : lk 27 C_X10_tree = some (.ifCond .ne 5, (32, 0, 0, 0)) := by decide +kernel
theorem s_X10_tree_27 {ca : Nat → List Value → tM → tO} {M : tM} {L : tL} {x : Int32} {S : List Value} : rn ca C_X10_tree 27 L (.int x :: S) M = if ¬ x = iI 0 then rn ca C_X10_tree 32 L S M else rn ca C_X10_tree 30 L S M := (rn_at k_X10_tree_27).trans rnx_ite
theorem k_X10_tree_30 : lk 30 C_X10_tree = some (.iconst (-1), (0, 0, 0, 0)) := by decide +kernel
theorem s_X10_tree_30 {ca : Nat → List Value → tM → tO} {M : tM} {L : tL} {S : List Value} : rn ca C_X10_tree 30 L S M = rn ca C_X10_tree 31 L (.int (iI (-1)) :: S) M := (rn_at k_X10_tree_30).trans rfl
theorem k_X10_tree_31 : lk 31 C_X10_tree = some (.ireturn, (0, 0, 0, 0)) := by decide +kernel
theorem s_X10_tree_31 {ca : Nat → List Value → tM → tO} {M : tM} {L : tL} {x : Int32} : rn ca C_X10_tree 31 L [.int x] M = some (some (.int x), M) := (rn_at k_X10_tree_31).trans rfl
theorem k_X10_tree_32 : lk 32 C_X10_tree = some (.iload_n 1, (0, 0, 0, 0)) := by decide +kernel
theorem s_X10_tree_32 {ca : Nat → List Value → tM → tO} {M : tM} {a0 : Option Value} {x : Int32} {S : List Value} : rn ca C_X10_tree 32 [a0, some (.int x)] S M = rn ca C_X10_tree 33 [a0, some (.int x)] (.int x :: S) M := (rn_at k_X10_tree_32).trans rfl
theorem k_X10_tree_33 : lk 33 C_X10_tree = some (.ifCond .ne 13, (46, 0, 0, 0)) := by decide +kernel
theorem s_X10_tree_33 {ca : Nat → List Value → tM → tO} {M : tM} {L : tL} {x : Int32} {S : List Value} : rn ca C_X10_tree 33 L (.int x :: S) M = if ¬ x = iI 0 then rn ca C_X10_tree 46 L S M else rn ca C_X10_tree 36 L S M := (rn_at k_X10_tree_33).trans rnx_ite
theorem k_X10_tree_36 : lk 36 C_X10_tree = some (.aload_n 0, (0, 0, 0, 0)) := by decide +kernel
theorem s_X10_tree_36 {ca : Nat → List Value → tM → tO} {M : tM} {a1 : Option Value} {x : Nat} {S : List Value} : rn ca C_X10_tree 36 [some (.ref x), a1] S M = rn ca C_X10_tree 37 [some (.ref x), a1] (.ref x :: S) M := (rn_at k_X10_tree_36).trans rfl
theorem k_X10_tree_37 : lk 37 C_X10_tree = some (.getfield 60, (10, 8, 0, 42)) := by decide +kernel
theorem s_X10_tree_37 {ca : Nat → List Value → tM → tO} {M : tM} {L : tL} {b : Nat} {S : List Value} : rn ca C_X10_tree 37 L (.ref b :: S) M = if clsO b = some 10 then rn ca C_X10_tree 40 L (fv M b 8 :: S) M else none := (rn_at k_X10_tree_37).trans rnx_ite
theorem k_X10_tree_40 : lk 40 C_X10_tree = some (.getfield 323, (2, 1, 0, 100040)) := by decide +kernel
theorem s_X10_tree_40 {ca : Nat → List Value → tM → tO} {M : tM} {L : tL} {b : Nat} {S : List Value} : rn ca C_X10_tree 40 L (.ref b :: S) M = if clsO b = some 2 then rn ca C_X10_tree 43 L (fv M b 1 :: S) M else none := (rn_at k_X10_tree_40).trans rnx_ite
theorem k_X10_tree_43 : lk 43 C_X10_tree = some (.goto 10, (53, 0, 0, 0)) := by decide +kernel
theorem s_X10_tree_43 {ca : Nat → List Value → tM → tO} {M : tM} {L : tL} {S : List Value} : rn ca C_X10_tree 43 L S M = rn ca C_X10_tree 53 L S M := (rn_at k_X10_tree_43).trans rfl
theorem k_X10_tree_46 : lk 46 C_X10_tree = some (.aload_n 0, (0, 0, 0, 0)) := by decide +kernel
theorem s_X10_tree_46 {ca : Nat → List Value → tM → tO} {M : tM} {a1 : Option Value} {x : Nat} {S : List Value} : rn ca C_X10_tree 46 [some (.ref x), a1] S M = rn ca C_X10_tree 47 [some (.ref x), a1] (.ref x :: S) M := (rn_at k_X10_tree_46).trans rfl
theorem k_X10_tree_47 : lk 47 C_X10_tree = some (.getfield 60, (10, 8, 0, 42)) := by decide +kernel
theorem s_X10_tree_47 {ca : Nat → List Value → tM → tO} {M : tM} {L : tL} {b : Nat} {S : List Value} : rn ca C_X10_tree 47 L (.ref b :: S) M = if clsO b = some 10 then rn ca C_X10_tree 50 L (fv M b 8 :: S) M else none := (rn_at k_X10_tree_47).trans rnx_ite
theorem k_X10_tree_50 : lk 50 C_X10_tree = some (.getfield 326, (2, 2, 0, 100041)) := by decide +kernel
theorem s_X10_tree_50 {ca : Nat → List Value → tM → tO} {M : tM} {L : tL} {b : Nat} {S : List Value} : rn ca C_X10_tree 50 L (.ref b :: S) M = if clsO b = some 2 then rn ca C_X10_tree 53 L (fv M b 2 :: S) M else none := (rn_at k_X10_tree_50).trans rnx_ite
theorem k_X10_tree_53 : lk 53 C_X10_tree = some (.ireturn, (0, 0, 0, 0)) := by decide +kernel
theorem s_X10_tree_53 {ca : Nat → List Value → tM → tO} {M : tM} {L : tL} {x : Int32} : rn ca C_X10_tree 53 L [.int x] M = some (some (.int x), M) := (rn_at k_X10_tree_53).trans rfl
theorem k_X10_seat_0 : lk 0 C_X10_seat = some (.aload_n 0, (0, 0, 0, 0)) := by decide +kernel
theorem s_X10_seat_0 {ca : Nat → List Value → tM → tO} {M : tM} {a1 a2 a3 a4 : Option Value} {x : Nat} {S : List Value} : rn ca C_X10_seat 0 [some (.ref x), a1, a2, a3, a4] S M = rn ca C_X10_seat 1 [some (.ref x), a1, a2, a3, a4] (.ref x :: S) M := (rn_at k_X10_seat_0).trans rfl
theorem k_X10_seat_1 : lk 1 C_X10_seat = some (.getfield 10, (10, 0, 0, 16)) := by decide +kernel
theorem s_X10_seat_1 {ca : Nat → List Value → tM → tO} {M : tM} {L : tL} {b : Nat} {S : List Value} : rn ca C_X10_seat 1 L (.ref b :: S) M = if clsO b = some 10 then rn ca C_X10_seat 4 L (fv M b 0 :: S) M else none := (rn_at k_X10_seat_1).trans rnx_ite
theorem k_X10_seat_4 : lk 4 C_X10_seat = some (.iload_n 1, (0, 0, 0, 0)) := by decide +kernel
theorem s_X10_seat_4 {ca : Nat → List Value → tM → tO} {M : tM} {a0 a2 a3 a4 : Option Value} {x : Int32} {S : List Value} : rn ca C_X10_seat 4 [a0, some (.int x), a2, a3, a4] S M = rn ca C_X10_seat 5 [a0, some (.int x), a2, a3, a4] (.int x :: S) M := (rn_at k_X10_seat_4).trans rfl
theorem k_X10_seat_5 : lk 5 C_X10_seat = some (.invokevirtual 135, (20, 1, 4, 290)) := by decide +kernel
theorem s_X10_seat_5 {ca : Nat → List Value → tM → tO} {M : tM} {L : tL} {v1 : Value} {b : Nat} : rn ca C_X10_seat 5 L [v1, .ref b] M = if clsO b = some 4 then rnk ca C_X10_seat 8 L [] (ca m_X4_hasCapsule [.ref b, v1] M) else none := (rn_at k_X10_seat_5).trans rnx_ite
theorem k_X10_seat_8 : lk 8 C_X10_seat = some (.ifCond .ne 9, (17, 0, 0, 0)) := by decide +kernel
theorem s_X10_seat_8 {ca : Nat → List Value → tM → tO} {M : tM} {L : tL} {x : Int32} {S : List Value} : rn ca C_X10_seat 8 L (.int x :: S) M = if ¬ x = iI 0 then rn ca C_X10_seat 17 L S M else rn ca C_X10_seat 11 L S M := (rn_at k_X10_seat_8).trans rnx_ite
theorem k_X10_seat_11 : lk 11 C_X10_seat = some (.aload_n 0, (0, 0, 0, 0)) := by decide +kernel
theorem s_X10_seat_11 {ca : Nat → List Value → tM → tO} {M : tM} {a1 a2 a3 a4 : Option Value} {x : Nat} {S : List Value} : rn ca C_X10_seat 11 [some (.ref x), a1, a2, a3, a4] S M = rn ca C_X10_seat 12 [some (.ref x), a1, a2, a3, a4] (.ref x :: S) M := (rn_at k_X10_seat_11).trans rfl
theorem k_X10_seat_12 : lk 12 C_X10_seat = some (.iconst (-1), (0, 0, 0, 0)) := by decide +kernel
theorem s_X10_seat_12 {ca : Nat → List Value → tM → tO} {M : tM} {L : tL} {S : List Value} : rn ca C_X10_seat 12 L S M = rn ca C_X10_seat 13 L (.int (iI (-1)) :: S) M := (rn_at k_X10_seat_12).trans rfl
theorem k_X10_seat_13 : lk 13 C_X10_seat = some (.invokevirtual 101, (134, 1, 10, 175)) := by decide +kernel
theorem s_X10_seat_13 {ca : Nat → List Value → tM → tO} {M : tM} {L : tL} {v1 : Value} {b : Nat} : rn ca C_X10_seat 13 L [v1, .ref b] M = if clsO b = some 10 then rnk ca C_X10_seat 16 L [] (ca m_X10_refuse [.ref b, v1] M) else none := (rn_at k_X10_seat_13).trans rnx_ite
theorem k_X10_seat_16 : lk 16 C_X10_seat = some (.ireturn, (0, 0, 0, 0)) := by decide +kernel
theorem s_X10_seat_16 {ca : Nat → List Value → tM → tO} {M : tM} {L : tL} {x : Int32} : rn ca C_X10_seat 16 L [.int x] M = some (some (.int x), M) := (rn_at k_X10_seat_16).trans rfl
theorem k_X10_seat_17 : lk 17 C_X10_seat = some (.iload_n 2, (0, 0, 0, 0)) := by decide +kernel
theorem s_X10_seat_17 {ca : Nat → List Value → tM → tO} {M : tM} {a0 a1 a3 a4 : Option Value} {x : Int32} {S : List Value} : rn ca C_X10_seat 17 [a0, a1, some (.int x), a3, a4] S M = rn ca C_X10_seat 18 [a0, a1, some (.int x), a3, a4] (.int x :: S) M := (rn_at k_X10_seat_17).trans rfl
theorem k_X10_seat_18 : lk 18 C_X10_seat = some (.ifCond .eq 15, (33, 0, 0, 0)) := by decide +kernel
theorem s_X10_seat_18 {ca : Nat → List Value → tM → tO} {M : tM} {L : tL} {x : Int32} {S : List Value} : rn ca C_X10_seat 18 L (.int x :: S) M = if x = iI 0 then rn ca C_X10_seat 33 L S M else rn ca C_X10_seat 21 L S M := (rn_at k_X10_seat_18).trans rnx_ite
theorem k_X10_seat_21 : lk 21 C_X10_seat = some (.iload_n 2, (0, 0, 0, 0)) := by decide +kernel
theorem s_X10_seat_21 {ca : Nat → List Value → tM → tO} {M : tM} {a0 a1 a3 a4 : Option Value} {x : Int32} {S : List Value} : rn ca C_X10_seat 21 [a0, a1, some (.int x), a3, a4] S M = rn ca C_X10_seat 22 [a0, a1, some (.int x), a3, a4] (.int x :: S) M := (rn_at k_X10_seat_21).trans rfl
theorem k_X10_seat_22 : lk 22 C_X10_seat = some (.iconst 1, (0, 0, 0, 0)) := by decide +kernel
theorem s_X10_seat_22 {ca : Nat → List Value → tM → tO} {M : tM} {L : tL} {S : List Value} : rn ca C_X10_seat 22 L S M = rn ca C_X10_seat 23 L (.int (iI 1) :: S) M := (rn_at k_X10_seat_22).trans rfl
theorem k_X10_seat_23 : lk 23 C_X10_seat = some (.if_icmp .eq 10, (33, 0, 0, 0)) := by decide +kernel
theorem s_X10_seat_23 {ca : Nat → List Value → tM → tO} {M : tM} {L : tL} {x y : Int32} {S : List Value} : rn ca C_X10_seat 23 L (.int y :: .int x :: S) M = if x = y then rn ca C_X10_seat 33 L S M else rn ca C_X10_seat 26 L S M := (rn_at k_X10_seat_23).trans rnx_ite
theorem k_X10_seat_26 : lk 26 C_X10_seat = some (.aload_n 0, (0, 0, 0, 0)) := by decide +kernel
theorem s_X10_seat_26 {ca : Nat → List Value → tM → tO} {M : tM} {a1 a2 a3 a4 : Option Value} {x : Nat} {S : List Value} : rn ca C_X10_seat 26 [some (.ref x), a1, a2, a3, a4] S M = rn ca C_X10_seat 27 [some (.ref x), a1, a2, a3, a4] (.ref x :: S) M := (rn_at k_X10_seat_26).trans rfl
theorem k_X10_seat_27 : lk 27 C_X10_seat = some (.bipush (-5), (0, 0, 0, 0)) := by decide +kernel
theorem s_X10_seat_27 {ca : Nat → List Value → tM → tO} {M : tM} {L : tL} {S : List Value} : rn ca C_X10_seat 27 L S M = rn ca C_X10_seat 29 L (.int (iI (-5)) :: S) M := (rn_at k_X10_seat_27).trans rfl
theorem k_X10_seat_29 : lk 29 C_X10_seat = some (.invokevirtual 101, (134, 1, 10, 175)) := by decide +kernel
theorem s_X10_seat_29 {ca : Nat → List Value → tM → tO} {M : tM} {L : tL} {v1 : Value} {b : Nat} : rn ca C_X10_seat 29 L [v1, .ref b] M = if clsO b = some 10 then rnk ca C_X10_seat 32 L [] (ca m_X10_refuse [.ref b, v1] M) else none := (rn_at k_X10_seat_29).trans rnx_ite
theorem k_X10_seat_32 : lk 32 C_X10_seat = some (.ireturn, (0, 0, 0, 0)) := by decide +kernel
theorem s_X10_seat_32 {ca : Nat → List Value → tM → tO} {M : tM} {L : tL} {x : Int32} : rn ca C_X10_seat 32 L [.int x] M = some (some (.int x), M) := (rn_at k_X10_seat_32).trans rfl
theorem k_X10_seat_33 : lk 33 C_X10_seat = some (.aload_n 0, (0, 0, 0, 0)) := by decide +kernel
theorem s_X10_seat_33 {ca : Nat → List Value → tM → tO} {M : tM} {a1 a2 a3 a4 : Option Value} {x : Nat} {S : List Value} : rn ca C_X10_seat 33 [some (.ref x), a1, a2, a3, a4] S M = rn ca C_X10_seat 34 [some (.ref x), a1, a2, a3, a4] (.ref x :: S) M := (rn_at k_X10_seat_33).trans rfl
theorem k_X10_seat_34 : lk 34 C_X10_seat = some (.getfield 32, (10, 4, 0, 26)) := by decide +kernel
theorem s_X10_seat_34 {ca : Nat → List Value → tM → tO} {M : tM} {L : tL} {b : Nat} {S : List Value} : rn ca C_X10_seat 34 L (.ref b :: S) M = if clsO b = some 10 then rn ca C_X10_seat 37 L (fv M b 4 :: S) M else none := (rn_at k_X10_seat_34).trans rnx_ite
theorem k_X10_seat_37 : lk 37 C_X10_seat = some (.aload_n 0, (0, 0, 0, 0)) := by decide +kernel
theorem s_X10_seat_37 {ca : Nat → List Value → tM → tO} {M : tM} {a1 a2 a3 a4 : Option Value} {x : Nat} {S : List Value} : rn ca C_X10_seat 37 [some (.ref x), a1, a2, a3, a4] S M = rn ca C_X10_seat 38 [some (.ref x), a1, a2, a3, a4] (.ref x :: S) M := (rn_at k_X10_seat_37).trans rfl
theorem k_X10_seat_38 : lk 38 C_X10_seat = some (.getfield 10, (10, 0, 0, 16)) := by decide +kernel
theorem s_X10_seat_38 {ca : Nat → List Value → tM → tO} {M : tM} {L : tL} {b : Nat} {S : List Value} : rn ca C_X10_seat 38 L (.ref b :: S) M = if clsO b = some 10 then rn ca C_X10_seat 41 L (fv M b 0 :: S) M else none := (rn_at k_X10_seat_38).trans rnx_ite
theorem k_X10_seat_41 : lk 41 C_X10_seat = some (.iload_n 1, (0, 0, 0, 0)) := by decide +kernel
theorem s_X10_seat_41 {ca : Nat → List Value → tM → tO} {M : tM} {a0 a2 a3 a4 : Option Value} {x : Int32} {S : List Value} : rn ca C_X10_seat 41 [a0, some (.int x), a2, a3, a4] S M = rn ca C_X10_seat 42 [a0, some (.int x), a2, a3, a4] (.int x :: S) M := (rn_at k_X10_seat_41).trans rfl
theorem k_X10_seat_42 : lk 42 C_X10_seat = some (.aload_n 0, (0, 0, 0, 0)) := by decide +kernel
theorem s_X10_seat_42 {ca : Nat → List Value → tM → tO} {M : tM} {a1 a2 a3 a4 : Option Value} {x : Nat} {S : List Value} : rn ca C_X10_seat 42 [some (.ref x), a1, a2, a3, a4] S M = rn ca C_X10_seat 43 [some (.ref x), a1, a2, a3, a4] (.ref x :: S) M := (rn_at k_X10_seat_42).trans rfl
theorem k_X10_seat_43 : lk 43 C_X10_seat = some (.getfield 10, (10, 0, 0, 16)) := by decide +kernel
theorem s_X10_seat_43 {ca : Nat → List Value → tM → tO} {M : tM} {L : tL} {b : Nat} {S : List Value} : rn ca C_X10_seat 43 L (.ref b :: S) M = if clsO b = some 10 then rn ca C_X10_seat 46 L (fv M b 0 :: S) M else none := (rn_at k_X10_seat_43).trans rnx_ite
theorem k_X10_seat_46 : lk 46 C_X10_seat = some (.getfield 206, (4, 13, 0, 100034)) := by decide +kernel
theorem s_X10_seat_46 {ca : Nat → List Value → tM → tO} {M : tM} {L : tL} {b : Nat} {S : List Value} : rn ca C_X10_seat 46 L (.ref b :: S) M = if clsO b = some 4 then rn ca C_X10_seat 49 L (fv M b 13 :: S) M else none := (rn_at k_X10_seat_46).trans rnx_ite
theorem k_X10_seat_49 : lk 49 C_X10_seat = some (.invokevirtual 250, (79, 3, 9, 801)) := by decide +kernel
theorem s_X10_seat_49 {ca : Nat → List Value → tM → tO} {M : tM} {L : tL} {v1 v2 v3 : Value} {b : Nat} : rn ca C_X10_seat 49 L [v3, v2, v1, .ref b] M = if clsO b = some 9 then rnk ca C_X10_seat 52 L [] (ca m_X9_prepareFor [.ref b, v1, v2, v3] M) else none := (rn_at k_X10_seat_49).trans rnx_ite
theorem k_X10_seat_52 : lk 52 C_X10_seat = some (.aload_n 0, (0, 0, 0, 0)) := by decide +kernel
theorem s_X10_seat_52 {ca : Nat → List Value → tM → tO} {M : tM} {a1 a2 a3 a4 : Option Value} {x : Nat} {S : List Value} : rn ca C_X10_seat 52 [some (.ref x), a1, a2, a3, a4] S M = rn ca C_X10_seat 53 [some (.ref x), a1, a2, a3, a4] (.ref x :: S) M := (rn_at k_X10_seat_52).trans rfl
theorem k_X10_seat_53 : lk 53 C_X10_seat = some (.getfield 32, (10, 4, 0, 26)) := by decide +kernel
theorem s_X10_seat_53 {ca : Nat → List Value → tM → tO} {M : tM} {L : tL} {b : Nat} {S : List Value} : rn ca C_X10_seat 53 L (.ref b :: S) M = if clsO b = some 10 then rn ca C_X10_seat 56 L (fv M b 4 :: S) M else none := (rn_at k_X10_seat_53).trans rnx_ite
theorem k_X10_seat_56 : lk 56 C_X10_seat = some (.aload_n 0, (0, 0, 0, 0)) := by decide +kernel
theorem s_X10_seat_56 {ca : Nat → List Value → tM → tO} {M : tM} {a1 a2 a3 a4 : Option Value} {x : Nat} {S : List Value} : rn ca C_X10_seat 56 [some (.ref x), a1, a2, a3, a4] S M = rn ca C_X10_seat 57 [some (.ref x), a1, a2, a3, a4] (.ref x :: S) M := (rn_at k_X10_seat_56).trans rfl
theorem k_X10_seat_57 : lk 57 C_X10_seat = some (.getfield 10, (10, 0, 0, 16)) := by decide +kernel
theorem s_X10_seat_57 {ca : Nat → List Value → tM → tO} {M : tM} {L : tL} {b : Nat} {S : List Value} : rn ca C_X10_seat 57 L (.ref b :: S) M = if clsO b = some 10 then rn ca C_X10_seat 60 L (fv M b 0 :: S) M else none := (rn_at k_X10_seat_57).trans rnx_ite
theorem k_X10_seat_60 : lk 60 C_X10_seat = some (.invokevirtual 271, (84, 1, 9, 828)) := by decide +kernel
theorem s_X10_seat_60 {ca : Nat → List Value → tM → tO} {M : tM} {L : tL} {v1 : Value} {b : Nat} : rn ca C_X10_seat 60 L [v1, .ref b] M = if clsO b = some 9 then rnk ca C_X10_seat 63 L [] (ca m_X9_fillTable [.ref b, v1] M) else none := (rn_at k_X10_seat_60).trans rnx_ite
theorem k_X10_seat_63 : lk 63 C_X10_seat = some (.iconst 0, (0, 0, 0, 0)) := by decide +kernel
theorem s_X10_seat_63 {ca : Nat → List Value → tM → tO} {M : tM} {L : tL} {S : List Value} : rn ca C_X10_seat 63 L S M = rn ca C_X10_seat 64 L (.int (iI 0) :: S) M := (rn_at k_X10_seat_63).trans rfl
theorem k_X10_seat_64 : lk 64 C_X10_seat = some (.istore_n 3, (0, 0, 0, 0)) := by decide +kernel
theorem s_X10_seat_64 {ca : Nat → List Value → tM → tO} {M : tM} {a0 a1 a2 a3 a4 : Option Value} {x : Int32} {S : List Value} : rn ca C_X10_seat 64 [a0, a1, a2, a3, a4] (.int x :: S) M = rn ca C_X10_seat 65 [a0, a1, a2, some (.int x), a4] S M := (rn_at k_X10_seat_64).trans rfl
theorem k_X10_seat_65 : lk 65 C_X10_seat = some (.iconst 1, (0, 0, 0, 0)) := by decide +kernel
theorem s_X10_seat_65 {ca : Nat → List Value → tM → tO} {M : tM} {L : tL} {S : List Value} : rn ca C_X10_seat 65 L S M = rn ca C_X10_seat 66 L (.int (iI 1) :: S) M := (rn_at k_X10_seat_65).trans rfl
theorem k_X10_seat_66 : lk 66 C_X10_seat = some (.istore 4, (0, 0, 0, 0)) := by decide +kernel
theorem s_X10_seat_66 {ca : Nat → List Value → tM → tO} {M : tM} {a0 a1 a2 a3 a4 : Option Value} {x : Int32} {S : List Value} : rn ca C_X10_seat 66 [a0, a1, a2, a3, a4] (.int x :: S) M = rn ca C_X10_seat 68 [a0, a1, a2, a3, some (.int x)] S M := (rn_at k_X10_seat_66).trans rfl
theorem k_X10_seat_68 : lk 68 C_X10_seat = some (.iload 4, (0, 0, 0, 0)) := by decide +kernel
theorem s_X10_seat_68 {ca : Nat → List Value → tM → tO} {M : tM} {a0 a1 a2 a3 : Option Value} {x : Int32} {S : List Value} : rn ca C_X10_seat 68 [a0, a1, a2, a3, some (.int x)] S M = rn ca C_X10_seat 70 [a0, a1, a2, a3, some (.int x)] (.int x :: S) M := (rn_at k_X10_seat_68).trans rfl
theorem k_X10_seat_70 : lk 70 C_X10_seat = some (.aload_n 0, (0, 0, 0, 0)) := by decide +kernel
theorem s_X10_seat_70 {ca : Nat → List Value → tM → tO} {M : tM} {a1 a2 a3 a4 : Option Value} {x : Nat} {S : List Value} : rn ca C_X10_seat 70 [some (.ref x), a1, a2, a3, a4] S M = rn ca C_X10_seat 71 [some (.ref x), a1, a2, a3, a4] (.ref x :: S) M := (rn_at k_X10_seat_70).trans rfl
theorem k_X10_seat_71 : lk 71 C_X10_seat = some (.getfield 10, (10, 0, 0, 16)) := by decide +kernel
theorem s_X10_seat_71 {ca : Nat → List Value → tM → tO} {M : tM} {L : tL} {b : Nat} {S : List Value} : rn ca C_X10_seat 71 L (.ref b :: S) M = if clsO b = some 10 then rn ca C_X10_seat 74 L (fv M b 0 :: S) M else none := (rn_at k_X10_seat_71).trans rnx_ite
theorem k_X10_seat_74 : lk 74 C_X10_seat = some (.getfield 171, (4, 0, 0, 100004)) := by decide +kernel
theorem s_X10_seat_74 {ca : Nat → List Value → tM → tO} {M : tM} {L : tL} {b : Nat} {S : List Value} : rn ca C_X10_seat 74 L (.ref b :: S) M = if clsO b = some 4 then rn ca C_X10_seat 77 L (fv M b 0 :: S) M else none := (rn_at k_X10_seat_74).trans rnx_ite
theorem k_X10_seat_77 : lk 77 C_X10_seat = some (.if_icmp .ge 40, (117, 0, 0, 0)) := by decide +kernel
theorem s_X10_seat_77 {ca : Nat → List Value → tM → tO} {M : tM} {L : tL} {x y : Int32} {S : List Value} : rn ca C_X10_seat 77 L (.int y :: .int x :: S) M = if y ≤ x then rn ca C_X10_seat 117 L S M else rn ca C_X10_seat 80 L S M := (rn_at k_X10_seat_77).trans rnx_ite
theorem k_X10_seat_80 : lk 80 C_X10_seat = some (.aload_n 0, (0, 0, 0, 0)) := by decide +kernel
theorem s_X10_seat_80 {ca : Nat → List Value → tM → tO} {M : tM} {a1 a2 a3 a4 : Option Value} {x : Nat} {S : List Value} : rn ca C_X10_seat 80 [some (.ref x), a1, a2, a3, a4] S M = rn ca C_X10_seat 81 [some (.ref x), a1, a2, a3, a4] (.ref x :: S) M := (rn_at k_X10_seat_80).trans rfl
theorem k_X10_seat_81 : lk 81 C_X10_seat = some (.getfield 32, (10, 4, 0, 26)) := by decide +kernel
theorem s_X10_seat_81 {ca : Nat → List Value → tM → tO} {M : tM} {L : tL} {b : Nat} {S : List Value} : rn ca C_X10_seat 81 L (.ref b :: S) M = if clsO b = some 10 then rn ca C_X10_seat 84 L (fv M b 4 :: S) M else none := (rn_at k_X10_seat_81).trans rnx_ite
theorem k_X10_seat_84 : lk 84 C_X10_seat = some (.aload_n 0, (0, 0, 0, 0)) := by decide +kernel
theorem s_X10_seat_84 {ca : Nat → List Value → tM → tO} {M : tM} {a1 a2 a3 a4 : Option Value} {x : Nat} {S : List Value} : rn ca C_X10_seat 84 [some (.ref x), a1, a2, a3, a4] S M = rn ca C_X10_seat 85 [some (.ref x), a1, a2, a3, a4] (.ref x :: S) M := (rn_at k_X10_seat_84).trans rfl
theorem k_X10_seat_85 : lk 85 C_X10_seat = some (.getfield 10, (10, 0, 0, 16)) := by decide +kernel
theorem s_X10_seat_85 {ca : Nat → List Value → tM → tO} {M : tM} {L : tL} {b : Nat} {S : List Value} : rn ca C_X10_seat 85 L (.ref b :: S) M = if clsO b = some 10 then rn ca C_X10_seat 88 L (fv M b 0 :: S) M else none := (rn_at k_X10_seat_85).trans rnx_ite
theorem k_X10_seat_88 : lk 88 C_X10_seat = some (.iload 4, (0, 0, 0, 0)) := by decide +kernel
theorem s_X10_seat_88 {ca : Nat → List Value → tM → tO} {M : tM} {a0 a1 a2 a3 : Option Value} {x : Int32} {S : List Value} : rn ca C_X10_seat 88 [a0, a1, a2, a3, some (.int x)] S M = rn ca C_X10_seat 90 [a0, a1, a2, a3, some (.int x)] (.int x :: S) M := (rn_at k_X10_seat_88).trans rfl
theorem k_X10_seat_90 : lk 90 C_X10_seat = some (.invokevirtual 329, (94, 2, 9, 1048)) := by decide +kernel
theorem s_X10_seat_90 {ca : Nat → List Value → tM → tO} {M : tM} {L : tL} {v1 v2 : Value} {b : Nat} : rn ca C_X10_seat 90 L [v2, v1, .ref b] M = if clsO b = some 9 then rnk ca C_X10_seat 93 L [] (ca m_X9_longestFrom [.ref b, v1, v2] M) else none := (rn_at k_X10_seat_90).trans rnx_ite
theorem k_X10_seat_93 : lk 93 C_X10_seat = some (.aload_n 0, (0, 0, 0, 0)) := by decide +kernel
theorem s_X10_seat_93 {ca : Nat → List Value → tM → tO} {M : tM} {a1 a2 a3 a4 : Option Value} {x : Nat} {S : List Value} : rn ca C_X10_seat 93 [some (.ref x), a1, a2, a3, a4] S M = rn ca C_X10_seat 94 [some (.ref x), a1, a2, a3, a4] (.ref x :: S) M := (rn_at k_X10_seat_93).trans rfl
theorem k_X10_seat_94 : lk 94 C_X10_seat = some (.getfield 32, (10, 4, 0, 26)) := by decide +kernel
theorem s_X10_seat_94 {ca : Nat → List Value → tM → tO} {M : tM} {L : tL} {b : Nat} {S : List Value} : rn ca C_X10_seat 94 L (.ref b :: S) M = if clsO b = some 10 then rn ca C_X10_seat 97 L (fv M b 4 :: S) M else none := (rn_at k_X10_seat_94).trans rnx_ite
theorem k_X10_seat_97 : lk 97 C_X10_seat = some (.aload_n 0, (0, 0, 0, 0)) := by decide +kernel
theorem s_X10_seat_97 {ca : Nat → List Value → tM → tO} {M : tM} {a1 a2 a3 a4 : Option Value} {x : Nat} {S : List Value} : rn ca C_X10_seat 97 [some (.ref x), a1, a2, a3, a4] S M = rn ca C_X10_seat 98 [some (.ref x), a1, a2, a3, a4] (.ref x :: S) M := (rn_at k_X10_seat_97).trans rfl
theorem k_X10_seat_98 : lk 98 C_X10_seat = some (.getfield 10, (10, 0, 0, 16)) := by decide +kernel
theorem s_X10_seat_98 {ca : Nat → List Value → tM → tO} {M : tM} {L : tL} {b : Nat} {S : List Value} : rn ca C_X10_seat 98 L (.ref b :: S) M = if clsO b = some 10 then rn ca C_X10_seat 101 L (fv M b 0 :: S) M else none := (rn_at k_X10_seat_98).trans rnx_ite
theorem k_X10_seat_101 : lk 101 C_X10_seat = some (.iload_n 3, (0, 0, 0, 0)) := by decide +kernel
theorem s_X10_seat_101 {ca : Nat → List Value → tM → tO} {M : tM} {a0 a1 a2 a4 : Option Value} {x : Int32} {S : List Value} : rn ca C_X10_seat 101 [a0, a1, a2, some (.int x), a4] S M = rn ca C_X10_seat 102 [a0, a1, a2, some (.int x), a4] (.int x :: S) M := (rn_at k_X10_seat_101).trans rfl
theorem k_X10_seat_102 : lk 102 C_X10_seat = some (.invokevirtual 329, (94, 2, 9, 1048)) := by decide +kernel
theorem s_X10_seat_102 {ca : Nat → List Value → tM → tO} {M : tM} {L : tL} {v1 v2 : Value} {r0 : Int32} {b : Nat} : rn ca C_X10_seat 102 L [v2, v1, .ref b, .int r0] M = if clsO b = some 9 then rnk ca C_X10_seat 105 L [.int r0] (ca m_X9_longestFrom [.ref b, v1, v2] M) else none := (rn_at k_X10_seat_102).trans rnx_ite
theorem k_X10_seat_105 : lk 105 C_X10_seat = some (.if_icmp .ge 6, (111, 0, 0, 0)) := by decide +kernel
theorem s_X10_seat_105 {ca : Nat → List Value → tM → tO} {M : tM} {L : tL} {x y : Int32} {S : List Value} : rn ca C_X10_seat 105 L (.int y :: .int x :: S) M = if y ≤ x then rn ca C_X10_seat 111 L S M else rn ca C_X10_seat 108 L S M := (rn_at k_X10_seat_105).trans rnx_ite
theorem k_X10_seat_108 : lk 108 C_X10_seat = some (.iload 4, (0, 0, 0, 0)) := by decide +kernel
theorem s_X10_seat_108 {ca : Nat → List Value → tM → tO} {M : tM} {a0 a1 a2 a3 : Option Value} {x : Int32} {S : List Value} : rn ca C_X10_seat 108 [a0, a1, a2, a3, some (.int x)] S M = rn ca C_X10_seat 110 [a0, a1, a2, a3, some (.int x)] (.int x :: S) M := (rn_at k_X10_seat_108).trans rfl
theorem k_X10_seat_110 : lk 110 C_X10_seat = some (.istore_n 3, (0, 0, 0, 0)) := by decide +kernel
theorem s_X10_seat_110 {ca : Nat → List Value → tM → tO} {M : tM} {a0 a1 a2 a3 a4 : Option Value} {x : Int32} {S : List Value} : rn ca C_X10_seat 110 [a0, a1, a2, a3, a4] (.int x :: S) M = rn ca C_X10_seat 111 [a0, a1, a2, some (.int x), a4] S M := (rn_at k_X10_seat_110).trans rfl
theorem k_X10_seat_111 : lk 111 C_X10_seat = some (.iinc 4 1, (0, 0, 0, 0)) := by decide +kernel
theorem s_X10_seat_111 {ca : Nat → List Value → tM → tO} {M : tM} {a0 a1 a2 a3 : Option Value} {x : Int32} {S : List Value} : rn ca C_X10_seat 111 [a0, a1, a2, a3, some (.int x)] S M = rn ca C_X10_seat 114 [a0, a1, a2, a3, some (.int (x + iI 1))] S M := (rn_at k_X10_seat_111).trans rfl
theorem k_X10_seat_114 : lk 114 C_X10_seat = some (.goto (-46), (68, 0, 0, 0)) := by decide +kernel
theorem s_X10_seat_114 {ca : Nat → List Value → tM → tO} {M : tM} {L : tL} {S : List Value} : rn ca C_X10_seat 114 L S M = rn ca C_X10_seat 68 L S M := (rn_at k_X10_seat_114).trans rfl
theorem k_X10_seat_117 : lk 117 C_X10_seat = some (.iload_n 2, (0, 0, 0, 0)) := by decide +kernel
theorem s_X10_seat_117 {ca : Nat → List Value → tM → tO} {M : tM} {a0 a1 a3 a4 : Option Value} {x : Int32} {S : List Value} : rn ca C_X10_seat 117 [a0, a1, some (.int x), a3, a4] S M = rn ca C_X10_seat 118 [a0, a1, some (.int x), a3, a4] (.int x :: S) M := (rn_at k_X10_seat_117).trans rfl
theorem k_X10_seat_118 : lk 118 C_X10_seat = some (.ifCond .ne 7, (125, 0, 0, 0)) := by decide +kernel
theorem s_X10_seat_118 {ca : Nat → List Value → tM → tO} {M : tM} {L : tL} {x : Int32} {S : List Value} : rn ca C_X10_seat 118 L (.int x :: S) M = if ¬ x = iI 0 then rn ca C_X10_seat 125 L S M else rn ca C_X10_seat 121 L S M := (rn_at k_X10_seat_118).trans rnx_ite
theorem k_X10_seat_121 : lk 121 C_X10_seat = some (.iload_n 3, (0, 0, 0, 0)) := by decide +kernel
theorem s_X10_seat_121 {ca : Nat → List Value → tM → tO} {M : tM} {a0 a1 a2 a4 : Option Value} {x : Int32} {S : List Value} : rn ca C_X10_seat 121 [a0, a1, a2, some (.int x), a4] S M = rn ca C_X10_seat 122 [a0, a1, a2, some (.int x), a4] (.int x :: S) M := (rn_at k_X10_seat_121).trans rfl
theorem k_X10_seat_122 : lk 122 C_X10_seat = some (.goto 15, (137, 0, 0, 0)) := by decide +kernel
theorem s_X10_seat_122 {ca : Nat → List Value → tM → tO} {M : tM} {L : tL} {S : List Value} : rn ca C_X10_seat 122 L S M = rn ca C_X10_seat 137 L S M := (rn_at k_X10_seat_122).trans rfl
theorem k_X10_seat_125 : lk 125 C_X10_seat = some (.aload_n 0, (0, 0, 0, 0)) := by decide +kernel
theorem s_X10_seat_125 {ca : Nat → List Value → tM → tO} {M : tM} {a1 a2 a3 a4 : Option Value} {x : Nat} {S : List Value} : rn ca C_X10_seat 125 [some (.ref x), a1, a2, a3, a4] S M = rn ca C_X10_seat 126 [some (.ref x), a1, a2, a3, a4] (.ref x :: S) M := (rn_at k_X10_seat_125).trans rfl
theorem k_X10_seat_126 : lk 126 C_X10_seat = some (.getfield 32, (10, 4, 0, 26)) := by decide +kernel
theorem s_X10_seat_126 {ca : Nat → List Value → tM → tO} {M : tM} {L : tL} {b : Nat} {S : List Value} : rn ca C_X10_seat 126 L (.ref b :: S) M = if clsO b = some 10 then rn ca C_X10_seat 129 L (fv M b 4 :: S) M else none := (rn_at k_X10_seat_126).trans rnx_ite
theorem k_X10_seat_129 : lk 129 C_X10_seat = some (.aload_n 0, (0, 0, 0, 0)) := by decide +kernel
theorem s_X10_seat_129 {ca : Nat → List Value → tM → tO} {M : tM} {a1 a2 a3 a4 : Option Value} {x : Nat} {S : List Value} : rn ca C_X10_seat 129 [some (.ref x), a1, a2, a3, a4] S M = rn ca C_X10_seat 130 [some (.ref x), a1, a2, a3, a4] (.ref x :: S) M := (rn_at k_X10_seat_129).trans rfl
theorem k_X10_seat_130 : lk 130 C_X10_seat = some (.getfield 10, (10, 0, 0, 16)) := by decide +kernel
theorem s_X10_seat_130 {ca : Nat → List Value → tM → tO} {M : tM} {L : tL} {b : Nat} {S : List Value} : rn ca C_X10_seat 130 L (.ref b :: S) M = if clsO b = some 10 then rn ca C_X10_seat 133 L (fv M b 0 :: S) M else none := (rn_at k_X10_seat_130).trans rnx_ite
theorem k_X10_seat_133 : lk 133 C_X10_seat = some (.iload_n 3, (0, 0, 0, 0)) := by decide +kernel
theorem s_X10_seat_133 {ca : Nat → List Value → tM → tO} {M : tM} {a0 a1 a2 a4 : Option Value} {x : Int32} {S : List Value} : rn ca C_X10_seat 133 [a0, a1, a2, some (.int x), a4] S M = rn ca C_X10_seat 134 [a0, a1, a2, some (.int x), a4] (.int x :: S) M := (rn_at k_X10_seat_133).trans rfl
theorem k_X10_seat_134 : lk 134 C_X10_seat = some (.invokevirtual 329, (94, 2, 9, 1048)) := by decide +kernel
theorem s_X10_seat_134 {ca : Nat → List Value → tM → tO} {M : tM} {L : tL} {v1 v2 : Value} {b : Nat} : rn ca C_X10_seat 134 L [v2, v1, .ref b] M = if clsO b = some 9 then rnk ca C_X10_seat 137 L [] (ca m_X9_longestFrom [.ref b, v1, v2] M) else none := (rn_at k_X10_seat_134).trans rnx_ite
theorem k_X10_seat_137 : lk 137 C_X10_seat = some (.ireturn, (0, 0, 0, 0)) := by decide +kernel
theorem s_X10_seat_137 {ca : Nat → List Value → tM → tO} {M : tM} {L : tL} {x : Int32} : rn ca C_X10_seat 137 L [.int x] M = some (some (.int x), M) := (rn_at k_X10_seat_137).trans rfl
theorem k_X10_judge_0 : lk 0 C_X10_judge = some (.aload_n 0, (0, 0, 0, 0)) := by decide +kernel
theorem s_X10_judge_0 {ca : Nat → List Value → tM → tO} {M : tM} {a1 a2 a3 : Option Value} {x : Nat} {S : List Value} : rn ca C_X10_judge 0 [some (.ref x), a1, a2, a3] S M = rn ca C_X10_judge 1 [some (.ref x), a1, a2, a3] (.ref x :: S) M := (rn_at k_X10_judge_0).trans rfl
theorem k_X10_judge_1 : lk 1 C_X10_judge = some (.iload_n 1, (0, 0, 0, 0)) := by decide +kernel
theorem s_X10_judge_1 {ca : Nat → List Value → tM → tO} {M : tM} {a0 a2 a3 : Option Value} {x : Int32} {S : List Value} : rn ca C_X10_judge 1 [a0, some (.int x), a2, a3] S M = rn ca C_X10_judge 2 [a0, some (.int x), a2, a3] (.int x :: S) M := (rn_at k_X10_judge_1).trans rfl
theorem k_X10_judge_2 : lk 2 C_X10_judge = some (.iload_n 2, (0, 0, 0, 0)) := by decide +kernel
theorem s_X10_judge_2 {ca : Nat → List Value → tM → tO} {M : tM} {a0 a1 a3 : Option Value} {x : Int32} {S : List Value} : rn ca C_X10_judge 2 [a0, a1, some (.int x), a3] S M = rn ca C_X10_judge 3 [a0, a1, some (.int x), a3] (.int x :: S) M := (rn_at k_X10_judge_2).trans rfl
theorem k_X10_judge_3 : lk 3 C_X10_judge = some (.invokevirtual 332, (138, 2, 10, 1060)) := by decide +kernel
theorem s_X10_judge_3 {ca : Nat → List Value → tM → tO} {M : tM} {L : tL} {v1 v2 : Value} {b : Nat} : rn ca C_X10_judge 3 L [v2, v1, .ref b] M = if clsO b = some 10 then rnk ca C_X10_judge 6 L [] (ca m_X10_legsRefusal [.ref b, v1, v2] M) else none := (rn_at k_X10_judge_3).trans rnx_ite
theorem k_X10_judge_6 : lk 6 C_X10_judge = some (.istore_n 3, (0, 0, 0, 0)) := by decide +kernel
theorem s_X10_judge_6 {ca : Nat → List Value → tM → tO} {M : tM} {a0 a1 a2 a3 : Option Value} {x : Int32} {S : List Value} : rn ca C_X10_judge 6 [a0, a1, a2, a3] (.int x :: S) M = rn ca C_X10_judge 7 [a0, a1, a2, some (.int x)] S M := (rn_at k_X10_judge_6).trans rfl
theorem k_X10_judge_7 : lk 7 C_X10_judge = some (.iload_n 3, (0, 0, 0, 0)) := by decide +kernel
theorem s_X10_judge_7 {ca : Nat → List Value → tM → tO} {M : tM} {a0 a1 a2 : Option Value} {x : Int32} {S : List Value} : rn ca C_X10_judge 7 [a0, a1, a2, some (.int x)] S M = rn ca C_X10_judge 8 [a0, a1, a2, some (.int x)] (.int x :: S) M := (rn_at k_X10_judge_7).trans rfl
theorem k_X10_judge_8 : lk 8 C_X10_judge = some (.ifCond .ne 12, (20, 0, 0, 0)) := by decide +kernel
theorem s_X10_judge_8 {ca : Nat → List Value → tM → tO} {M : tM} {L : tL} {x : Int32} {S : List Value} : rn ca C_X10_judge 8 L (.int x :: S) M = if ¬ x = iI 0 then rn ca C_X10_judge 20 L S M else rn ca C_X10_judge 11 L S M := (rn_at k_X10_judge_8).trans rnx_ite
theorem k_X10_judge_11 : lk 11 C_X10_judge = some (.iload_n 2, (0, 0, 0, 0)) := by decide +kernel
theorem s_X10_judge_11 {ca : Nat → List Value → tM → tO} {M : tM} {a0 a1 a3 : Option Value} {x : Int32} {S : List Value} : rn ca C_X10_judge 11 [a0, a1, some (.int x), a3] S M = rn ca C_X10_judge 12 [a0, a1, some (.int x), a3] (.int x :: S) M := (rn_at k_X10_judge_11).trans rfl
theorem k_X10_judge_12 : lk 12 C_X10_judge = some (.bipush 40, (0, 0, 0, 0)) := by decide +kernel
theorem s_X10_judge_12 {ca : Nat → List Value → tM → tO} {M : tM} {L : tL} {S : List Value} : rn ca C_X10_judge 12 L S M = rn ca C_X10_judge 14 L (.int (iI 40) :: S) M := (rn_at k_X10_judge_12).trans rfl
theorem k_X10_judge_14 : lk 14 C_X10_judge = some (.if_icmp .le 6, (20, 0, 0, 0)) := by decide +kernel
theorem s_X10_judge_14 {ca : Nat → List Value → tM → tO} {M : tM} {L : tL} {x y : Int32} {S : List Value} : rn ca C_X10_judge 14 L (.int y :: .int x :: S) M = if x ≤ y then rn ca C_X10_judge 20 L S M else rn ca C_X10_judge 17 L S M := (rn_at k_X10_judge_14).trans rnx_ite
theorem k_X10_judge_17 : lk 17 C_X10_judge = some (.bipush (-6), (0, 0, 0, 0)) := by decide +kernel
theorem s_X10_judge_17 {ca : Nat → List Value → tM → tO} {M : tM} {L : tL} {S : List Value} : rn ca C_X10_judge 17 L S M = rn ca C_X10_judge 19 L (.int (iI (-6)) :: S) M := (rn_at k_X10_judge_17).trans rfl
theorem k_X10_judge_19 : lk 19 C_X10_judge = some (.istore_n 3, (0, 0, 0, 0)) := by decide +kernel
theorem s_X10_judge_19 {ca : Nat → List Value → tM → tO} {M : tM} {a0 a1 a2 a3 : Option Value} {x : Int32} {S : List Value} : rn ca C_X10_judge 19 [a0, a1, a2, a3] (.int x :: S) M = rn ca C_X10_judge 20 [a0, a1, a2, some (.int x)] S M := (rn_at k_X10_judge_19).trans rfl
theorem k_X10_judge_20 : lk 20 C_X10_judge = some (.iload_n 3, (0, 0, 0, 0)) := by decide +kernel
theorem s_X10_judge_20 {ca : Nat → List Value → tM → tO} {M : tM} {a0 a1 a2 : Option Value} {x : Int32} {S : List Value} : rn ca C_X10_judge 20 [a0, a1, a2, some (.int x)] S M = rn ca C_X10_judge 21 [a0, a1, a2, some (.int x)] (.int x :: S) M := (rn_at k_X10_judge_20).trans rfl
theorem k_X10_judge_21 : lk 21 C_X10_judge = some (.ifCond .ge 12, (33, 0, 0, 0)) := by decide +kernel
theorem s_X10_judge_21 {ca : Nat → List Value → tM → tO} {M : tM} {L : tL} {x : Int32} {S : List Value} : rn ca C_X10_judge 21 L (.int x :: S) M = if iI 0 ≤ x then rn ca C_X10_judge 33 L S M else rn ca C_X10_judge 24 L S M := (rn_at k_X10_judge_21).trans rnx_ite
theorem k_X10_judge_24 : lk 24 C_X10_judge = some (.aload_n 0, (0, 0, 0, 0)) := by decide +kernel
theorem s_X10_judge_24 {ca : Nat → List Value → tM → tO} {M : tM} {a1 a2 a3 : Option Value} {x : Nat} {S : List Value} : rn ca C_X10_judge 24 [some (.ref x), a1, a2, a3] S M = rn ca C_X10_judge 25 [some (.ref x), a1, a2, a3] (.ref x :: S) M := (rn_at k_X10_judge_24).trans rfl
theorem k_X10_judge_25 : lk 25 C_X10_judge = some (.bipush (-10), (0, 0, 0, 0)) := by decide +kernel
theorem s_X10_judge_25 {ca : Nat → List Value → tM → tO} {M : tM} {L : tL} {S : List Value} : rn ca C_X10_judge 25 L S M = rn ca C_X10_judge 27 L (.int (iI (-10)) :: S) M := (rn_at k_X10_judge_25).trans rfl
theorem k_X10_judge_27 : lk 27 C_X10_judge = some (.iload_n 3, (0, 0, 0, 0)) := by decide +kernel
theorem s_X10_judge_27 {ca : Nat → List Value → tM → tO} {M : tM} {a0 a1 a2 : Option Value} {x : Int32} {S : List Value} : rn ca C_X10_judge 27 [a0, a1, a2, some (.int x)] S M = rn ca C_X10_judge 28 [a0, a1, a2, some (.int x)] (.int x :: S) M := (rn_at k_X10_judge_27).trans rfl
theorem k_X10_judge_28 : lk 28 C_X10_judge = some (.iadd, (0, 0, 0, 0)) := by decide +kernel
theorem s_X10_judge_28 {ca : Nat → List Value → tM → tO} {M : tM} {L : tL} {x y : Int32} {S : List Value} : rn ca C_X10_judge 28 L (.int y :: .int x :: S) M = rn ca C_X10_judge 29 L (.int (x + y) :: S) M := (rn_at k_X10_judge_28).trans rfl
theorem k_X10_judge_29 : lk 29 C_X10_judge = some (.invokevirtual 101, (134, 1, 10, 175)) := by decide +kernel
theorem s_X10_judge_29 {ca : Nat → List Value → tM → tO} {M : tM} {L : tL} {v1 : Value} {b : Nat} : rn ca C_X10_judge 29 L [v1, .ref b] M = if clsO b = some 10 then rnk ca C_X10_judge 32 L [] (ca m_X10_refuse [.ref b, v1] M) else none := (rn_at k_X10_judge_29).trans rnx_ite
theorem k_X10_judge_32 : lk 32 C_X10_judge = some (.ireturn, (0, 0, 0, 0)) := by decide +kernel
theorem s_X10_judge_32 {ca : Nat → List Value → tM → tO} {M : tM} {L : tL} {x : Int32} : rn ca C_X10_judge 32 L [.int x] M = some (some (.int x), M) := (rn_at k_X10_judge_32).trans rfl
theorem k_X10_judge_33 : lk 33 C_X10_judge = some (.aload_n 0, (0, 0, 0, 0)) := by decide +kernel
theorem s_X10_judge_33 {ca : Nat → List Value → tM → tO} {M : tM} {a1 a2 a3 : Option Value} {x : Nat} {S : List Value} : rn ca C_X10_judge 33 [some (.ref x), a1, a2, a3] S M = rn ca C_X10_judge 34 [some (.ref x), a1, a2, a3] (.ref x :: S) M := (rn_at k_X10_judge_33).trans rfl
theorem k_X10_judge_34 : lk 34 C_X10_judge = some (.getfield 19, (10, 2, 0, 18)) := by decide +kernel
theorem s_X10_judge_34 {ca : Nat → List Value → tM → tO} {M : tM} {L : tL} {b : Nat} {S : List Value} : rn ca C_X10_judge 34 L (.ref b :: S) M = if clsO b = some 10 then rn ca C_X10_judge 37 L (fv M b 2 :: S) M else none := (rn_at k_X10_judge_34).trans rnx_ite
theorem k_X10_judge_37 : lk 37 C_X10_judge = some (.aload_n 0, (0, 0, 0, 0)) := by decide +kernel
theorem s_X10_judge_37 {ca : Nat → List Value → tM → tO} {M : tM} {a1 a2 a3 : Option Value} {x : Nat} {S : List Value} : rn ca C_X10_judge 37 [some (.ref x), a1, a2, a3] S M = rn ca C_X10_judge 38 [some (.ref x), a1, a2, a3] (.ref x :: S) M := (rn_at k_X10_judge_37).trans rfl
theorem k_X10_judge_38 : lk 38 C_X10_judge = some (.getfield 10, (10, 0, 0, 16)) := by decide +kernel
theorem s_X10_judge_38 {ca : Nat → List Value → tM → tO} {M : tM} {L : tL} {b : Nat} {S : List Value} : rn ca C_X10_judge 38 L (.ref b :: S) M = if clsO b = some 10 then rn ca C_X10_judge 41 L (fv M b 0 :: S) M else none := (rn_at k_X10_judge_38).trans rnx_ite
theorem k_X10_judge_41 : lk 41 C_X10_judge = some (.invokevirtual 224, (29, 1, 4, 481)) := by decide +kernel
theorem s_X10_judge_41 {ca : Nat → List Value → tM → tO} {M : tM} {L : tL} {v1 : Value} {b : Nat} : rn ca C_X10_judge 41 L [v1, .ref b] M = if clsO b = some 4 then rnk ca C_X10_judge 44 L [] (ca m_X4_takeOver [.ref b, v1] M) else none := (rn_at k_X10_judge_41).trans rnx_ite
theorem k_X10_judge_44 : lk 44 C_X10_judge = some (.aload_n 0, (0, 0, 0, 0)) := by decide +kernel
theorem s_X10_judge_44 {ca : Nat → List Value → tM → tO} {M : tM} {a1 a2 a3 : Option Value} {x : Nat} {S : List Value} : rn ca C_X10_judge 44 [some (.ref x), a1, a2, a3] S M = rn ca C_X10_judge 45 [some (.ref x), a1, a2, a3] (.ref x :: S) M := (rn_at k_X10_judge_44).trans rfl
theorem k_X10_judge_45 : lk 45 C_X10_judge = some (.getfield 74, (10, 10, 0, 50)) := by decide +kernel
theorem s_X10_judge_45 {ca : Nat → List Value → tM → tO} {M : tM} {L : tL} {b : Nat} {S : List Value} : rn ca C_X10_judge 45 L (.ref b :: S) M = if clsO b = some 10 then rn ca C_X10_judge 48 L (fv M b 10 :: S) M else none := (rn_at k_X10_judge_45).trans rnx_ite
theorem k_X10_judge_48 : lk 48 C_X10_judge = some (.aload_n 0, (0, 0, 0, 0)) := by decide +kernel
theorem s_X10_judge_48 {ca : Nat → List Value → tM → tO} {M : tM} {a1 a2 a3 : Option Value} {x : Nat} {S : List Value} : rn ca C_X10_judge 48 [some (.ref x), a1, a2, a3] S M = rn ca C_X10_judge 49 [some (.ref x), a1, a2, a3] (.ref x :: S) M := (rn_at k_X10_judge_48).trans rfl
theorem k_X10_judge_49 : lk 49 C_X10_judge = some (.getfield 19, (10, 2, 0, 18)) := by decide +kernel
theorem s_X10_judge_49 {ca : Nat → List Value → tM → tO} {M : tM} {L : tL} {b : Nat} {S : List Value} : rn ca C_X10_judge 49 L (.ref b :: S) M = if clsO b = some 10 then rn ca C_X10_judge 52 L (fv M b 2 :: S) M else none := (rn_at k_X10_judge_49).trans rnx_ite
theorem k_X10_judge_52 : lk 52 C_X10_judge = some (.aload_n 0, (0, 0, 0, 0)) := by decide +kernel
theorem s_X10_judge_52 {ca : Nat → List Value → tM → tO} {M : tM} {a1 a2 a3 : Option Value} {x : Nat} {S : List Value} : rn ca C_X10_judge 52 [some (.ref x), a1, a2, a3] S M = rn ca C_X10_judge 53 [some (.ref x), a1, a2, a3] (.ref x :: S) M := (rn_at k_X10_judge_52).trans rfl
theorem k_X10_judge_53 : lk 53 C_X10_judge = some (.getfield 32, (10, 4, 0, 26)) := by decide +kernel
theorem s_X10_judge_53 {ca : Nat → List Value → tM → tO} {M : tM} {L : tL} {b : Nat} {S : List Value} : rn ca C_X10_judge 53 L (.ref b :: S) M = if clsO b = some 10 then rn ca C_X10_judge 56 L (fv M b 4 :: S) M else none := (rn_at k_X10_judge_53).trans rnx_ite
theorem k_X10_judge_56 : lk 56 C_X10_judge = some (.aload_n 0, (0, 0, 0, 0)) := by decide +kernel
theorem s_X10_judge_56 {ca : Nat → List Value → tM → tO} {M : tM} {a1 a2 a3 : Option Value} {x : Nat} {S : List Value} : rn ca C_X10_judge 56 [some (.ref x), a1, a2, a3] S M = rn ca C_X10_judge 57 [some (.ref x), a1, a2, a3] (.ref x :: S) M := (rn_at k_X10_judge_56).trans rfl
theorem k_X10_judge_57 : lk 57 C_X10_judge = some (.getfield 25, (10, 3, 0, 22)) := by decide +kernel
theorem s_X10_judge_57 {ca : Nat → List Value → tM → tO} {M : tM} {L : tL} {b : Nat} {S : List Value} : rn ca C_X10_judge 57 L (.ref b :: S) M = if clsO b = some 10 then rn ca C_X10_judge 60 L (fv M b 3 :: S) M else none := (rn_at k_X10_judge_57).trans rnx_ite
theorem k_X10_judge_60 : lk 60 C_X10_judge = some (.iload_n 1, (0, 0, 0, 0)) := by decide +kernel
theorem s_X10_judge_60 {ca : Nat → List Value → tM → tO} {M : tM} {a0 a2 a3 : Option Value} {x : Int32} {S : List Value} : rn ca C_X10_judge 60 [a0, some (.int x), a2, a3] S M = rn ca C_X10_judge 61 [a0, some (.int x), a2, a3] (.int x :: S) M := (rn_at k_X10_judge_60).trans rfl
theorem k_X10_judge_61 : lk 61 C_X10_judge = some (.iload_n 2, (0, 0, 0, 0)) := by decide +kernel
theorem s_X10_judge_61 {ca : Nat → List Value → tM → tO} {M : tM} {a0 a1 a3 : Option Value} {x : Int32} {S : List Value} : rn ca C_X10_judge 61 [a0, a1, some (.int x), a3] S M = rn ca C_X10_judge 62 [a0, a1, some (.int x), a3] (.int x :: S) M := (rn_at k_X10_judge_61).trans rfl
theorem k_X10_judge_62 : lk 62 C_X10_judge = some (.invokevirtual 335, (6, 5, 1, 1064)) := by decide +kernel
theorem s_X10_judge_62 {ca : Nat → List Value → tM → tO} {M : tM} {L : tL} {v1 v2 v3 v4 v5 : Value} {b : Nat} : rn ca C_X10_judge 62 L [v5, v4, v3, v2, v1, .ref b] M = if clsO b = some 1 then rnk ca C_X10_judge 65 L [] (ca m_X1_findWrong [.ref b, v1, v2, v3, v4, v5] M) else none := (rn_at k_X10_judge_62).trans rnx_ite
theorem k_X10_judge_65 : lk 65 C_X10_judge = some (.ireturn, (0, 0, 0, 0)) := by decide +kernel
theorem s_X10_judge_65 {ca : Nat → List Value → tM → tO} {M : tM} {L : tL} {x : Int32} : rn ca C_X10_judge 65 L [.int x] M = some (some (.int x), M) := (rn_at k_X10_judge_65).trans rfl
theorem k_X10_behind_0 : lk 0 C_X10_behind = some (.aload_n 0, (0, 0, 0, 0)) := by decide +kernel
theorem s_X10_behind_0 {ca : Nat → List Value → tM → tO} {M : tM} {a1 a2 a3 a4 : Option Value} {x : Nat} {S : List Value} : rn ca C_X10_behind 0 [some (.ref x), a1, a2, a3, a4] S M = rn ca C_X10_behind 1 [some (.ref x), a1, a2, a3, a4] (.ref x :: S) M := (rn_at k_X10_behind_0).trans rfl
theorem k_X10_behind_1 : lk 1 C_X10_behind = some (.iload_n 1, (0, 0, 0, 0)) := by decide +kernel
theorem s_X10_behind_1 {ca : Nat → List Value → tM → tO} {M : tM} {a0 a2 a3 a4 : Option Value} {x : Int32} {S : List Value} : rn ca C_X10_behind 1 [a0, some (.int x), a2, a3, a4] S M = rn ca C_X10_behind 2 [a0, some (.int x), a2, a3, a4] (.int x :: S) M := (rn_at k_X10_behind_1).trans rfl
theorem k_X10_behind_2 : lk 2 C_X10_behind = some (.iload_n 2, (0, 0, 0, 0)) := by decide +kernel
theorem s_X10_behind_2 {ca : Nat → List Value → tM → tO} {M : tM} {a0 a1 a3 a4 : Option Value} {x : Int32} {S : List Value} : rn ca C_X10_behind 2 [a0, a1, some (.int x), a3, a4] S M = rn ca C_X10_behind 3 [a0, a1, some (.int x), a3, a4] (.int x :: S) M := (rn_at k_X10_behind_2).trans rfl
theorem k_X10_behind_3 : lk 3 C_X10_behind = some (.invokevirtual 332, (138, 2, 10, 1060)) := by decide +kernel
theorem s_X10_behind_3 {ca : Nat → List Value → tM → tO} {M : tM} {L : tL} {v1 v2 : Value} {b : Nat} : rn ca C_X10_behind 3 L [v2, v1, .ref b] M = if clsO b = some 10 then rnk ca C_X10_behind 6 L [] (ca m_X10_legsRefusal [.ref b, v1, v2] M) else none := (rn_at k_X10_behind_3).trans rnx_ite
theorem k_X10_behind_6 : lk 6 C_X10_behind = some (.istore 4, (0, 0, 0, 0)) := by decide +kernel
theorem s_X10_behind_6 {ca : Nat → List Value → tM → tO} {M : tM} {a0 a1 a2 a3 a4 : Option Value} {x : Int32} {S : List Value} : rn ca C_X10_behind 6 [a0, a1, a2, a3, a4] (.int x :: S) M = rn ca C_X10_behind 8 [a0, a1, a2, a3, some (.int x)] S M := (rn_at k_X10_behind_6).trans rfl
theorem k_X10_behind_8 : lk 8 C_X10_behind = some (.iload 4, (0, 0, 0, 0)) := by decide +kernel
theorem s_X10_behind_8 {ca : Nat → List Value → tM → tO} {M : tM} {a0 a1 a2 a3 : Option Value} {x : Int32} {S : List Value} : rn ca C_X10_behind 8 [a0, a1, a2, a3, some (.int x)] S M = rn ca C_X10_behind 10 [a0, a1, a2, a3, some (.int x)] (.int x :: S) M := (rn_at k_X10_behind_8).trans rfl
theorem k_X10_behind_10 : lk 10 C_X10_behind = some (.ifCond .ge 10, (20, 0, 0, 0)) := by decide +kernel
theorem s_X10_behind_10 {ca : Nat → List Value → tM → tO} {M : tM} {L : tL} {x : Int32} {S : List Value} : rn ca C_X10_behind 10 L (.int x :: S) M = if iI 0 ≤ x then rn ca C_X10_behind 20 L S M else rn ca C_X10_behind 13 L S M := (rn_at k_X10_behind_10).trans rnx_ite
theorem k_X10_behind_13 : lk 13 C_X10_behind = some (.aload_n 0, (0, 0, 0, 0)) := by decide +kernel
theorem s_X10_behind_13 {ca : Nat → List Value → tM → tO} {M : tM} {a1 a2 a3 a4 : Option Value} {x : Nat} {S : List Value} : rn ca C_X10_behind 13 [some (.ref x), a1, a2, a3, a4] S M = rn ca C_X10_behind 14 [some (.ref x), a1, a2, a3, a4] (.ref x :: S) M := (rn_at k_X10_behind_13).trans rfl
theorem k_X10_behind_14 : lk 14 C_X10_behind = some (.iload 4, (0, 0, 0, 0)) := by decide +kernel
theorem s_X10_behind_14 {ca : Nat → List Value → tM → tO} {M : tM} {a0 a1 a2 a3 : Option Value} {x : Int32} {S : List Value} : rn ca C_X10_behind 14 [a0, a1, a2, a3, some (.int x)] S M = rn ca C_X10_behind 16 [a0, a1, a2, a3, some (.int x)] (.int x :: S) M := (rn_at k_X10_behind_14).trans rfl
theorem k_X10_behind_16 : lk 16 C_X10_behind = some (.invokevirtual 101, (134, 1, 10, 175)) := by decide +kernel
theorem s_X10_behind_16 {ca : Nat → List Value → tM → tO} {M : tM} {L : tL} {v1 : Value} {b : Nat} : rn ca C_X10_behind 16 L [v1, .ref b] M = if clsO b = some 10 then rnk ca C_X10_behind 19 L [] (ca m_X10_refuse [.ref b, v1] M) else none := (rn_at k_X10_behind_16).trans rnx_ite
theorem k_X10_behind_19 : lk 19 C_X10_behind = some (.ireturn, (0, 0, 0, 0)) := by decide +kernel
theorem s_X10_behind_19 {ca : Nat → List Value → tM → tO} {M : tM} {L : tL} {x : Int32} : rn ca C_X10_behind 19 L [.int x] M = some (some (.int x), M) := (rn_at k_X10_behind_19).trans rfl
theorem k_X10_behind_20 : lk 20 C_X10_behind = some (.iload_n 3, (0, 0, 0, 0)) := by decide +kernel
theorem s_X10_behind_20 {ca : Nat → List Value → tM → tO} {M : tM} {a0 a1 a2 a4 : Option Value} {x : Int32} {S : List Value} : rn ca C_X10_behind 20 [a0, a1, a2, some (.int x), a4] S M = rn ca C_X10_behind 21 [a0, a1, a2, some (.int x), a4] (.int x :: S) M := (rn_at k_X10_behind_20).trans rfl
theorem k_X10_behind_21 : lk 21 C_X10_behind = some (.ifCond .lt 23, (44, 0, 0, 0)) := by decide +kernel
theorem s_X10_behind_21 {ca : Nat → List Value → tM → tO} {M : tM} {L : tL} {x : Int32} {S : List Value} : rn ca C_X10_behind 21 L (.int x :: S) M = if x < iI 0 then rn ca C_X10_behind 44 L S M else rn ca C_X10_behind 24 L S M := (rn_at k_X10_behind_21).trans rnx_ite
theorem k_X10_behind_24 : lk 24 C_X10_behind = some (.iload_n 3, (0, 0, 0, 0)) := by decide +kernel
theorem s_X10_behind_24 {ca : Nat → List Value → tM → tO} {M : tM} {a0 a1 a2 a4 : Option Value} {x : Int32} {S : List Value} : rn ca C_X10_behind 24 [a0, a1, a2, some (.int x), a4] S M = rn ca C_X10_behind 25 [a0, a1, a2, some (.int x), a4] (.int x :: S) M := (rn_at k_X10_behind_24).trans rfl
theorem k_X10_behind_25 : lk 25 C_X10_behind = some (.iconst 2, (0, 0, 0, 0)) := by decide +kernel
theorem s_X10_behind_25 {ca : Nat → List Value → tM → tO} {M : tM} {L : tL} {S : List Value} : rn ca C_X10_behind 25 L S M = rn ca C_X10_behind 26 L (.int (iI 2) :: S) M := (rn_at k_X10_behind_25).trans rfl
theorem k_X10_behind_26 : lk 26 C_X10_behind = some (.if_icmp .gt 18, (44, 0, 0, 0)) := by decide +kernel
theorem s_X10_behind_26 {ca : Nat → List Value → tM → tO} {M : tM} {L : tL} {x y : Int32} {S : List Value} : rn ca C_X10_behind 26 L (.int y :: .int x :: S) M = if y < x then rn ca C_X10_behind 44 L S M else rn ca C_X10_behind 29 L S M := (rn_at k_X10_behind_26).trans rnx_ite
theorem k_X10_behind_29 : lk 29 C_X10_behind = some (.iload_n 3, (0, 0, 0, 0)) := by decide +kernel
theorem s_X10_behind_29 {ca : Nat → List Value → tM → tO} {M : tM} {a0 a1 a2 a4 : Option Value} {x : Int32} {S : List Value} : rn ca C_X10_behind 29 [a0, a1, a2, some (.int x), a4] S M = rn ca C_X10_behind 30 [a0, a1, a2, some (.int x), a4] (.int x :: S) M := (rn_at k_X10_behind_29).trans rfl
theorem k_X10_behind_30 : lk 30 C_X10_behind = some (.iconst 2, (0, 0, 0, 0)) := by decide +kernel
theorem s_X10_behind_30 {ca : Nat → List Value → tM → tO} {M : tM} {L : tL} {S : List Value} : rn ca C_X10_behind 30 L S M = rn ca C_X10_behind 31 L (.int (iI 2) :: S) M := (rn_at k_X10_behind_30).trans rfl
theorem k_X10_behind_31 : lk 31 C_X10_behind = some (.if_icmp .ne 20, (51, 0, 0, 0)) := by decide +kernel
theorem s_X10_behind_31 {ca : Nat → List Value → tM → tO} {M : tM} {L : tL} {x y : Int32} {S : List Value} : rn ca C_X10_behind 31 L (.int y :: .int x :: S) M = if ¬ x = y then rn ca C_X10_behind 51 L S M else rn ca C_X10_behind 34 L S M := (rn_at k_X10_behind_31).trans rnx_ite
theorem k_X10_behind_34 : lk 34 C_X10_behind = some (.aload_n 0, (0, 0, 0, 0)) := by decide +kernel
theorem s_X10_behind_34 {ca : Nat → List Value → tM → tO} {M : tM} {a1 a2 a3 a4 : Option Value} {x : Nat} {S : List Value} : rn ca C_X10_behind 34 [some (.ref x), a1, a2, a3, a4] S M = rn ca C_X10_behind 35 [some (.ref x), a1, a2, a3, a4] (.ref x :: S) M := (rn_at k_X10_behind_34).trans rfl
theorem k_X10_behind_35 : lk 35 C_X10_behind = some (.getfield 10, (10, 0, 0, 16)) := by decide +kernel
theorem s_X10_behind_35 {ca : Nat → List Value → tM → tO} {M : tM} {L : tL} {b : Nat} {S : List Value} : rn ca C_X10_behind 35 L (.ref b :: S) M = if clsO b = some 10 then rn ca C_X10_behind 38 L (fv M b 0 :: S) M else none := (rn_at k_X10_behind_35).trans rnx_ite
theorem k_X10_behind_38 : lk 38 C_X10_behind = some (.getfield 193, (4, 8, 0, 100026)) := by decide +kernel
theorem s_X10_behind_38 {ca : Nat → List Value → tM → tO} {M : tM} {L : tL} {b : Nat} {S : List Value} : rn ca C_X10_behind 38 L (.ref b :: S) M = if clsO b = some 4 then rn ca C_X10_behind 41 L (fv M b 8 :: S) M else none := (rn_at k_X10_behind_38).trans rnx_ite
theorem k_X10_behind_41 : lk 41 C_X10_behind = some (.ifCond .ne 10, (51, 0, 0, 0)) := by decide +kernel
theorem s_X10_behind_41 {ca : Nat → List Value → tM → tO} {M : tM} {L : tL} {x : Int32} {S : List Value} : rn ca C_X10_behind 41 L (.int x :: S) M = if ¬ x = iI 0 then rn ca C_X10_behind 51 L S M else rn ca C_X10_behind 44 L S M := (rn_at k_X10_behind_41).trans rnx_ite
theorem k_X10_behind_44 : lk 44 C_X10_behind = some (.aload_n 0, (0, 0, 0, 0)) := by decide +kernel
theorem s_X10_behind_44 {ca : Nat → List Value → tM → tO} {M : tM} {a1 a2 a3 a4 : Option Value} {x : Nat} {S : List Value} : rn ca C_X10_behind 44 [some (.ref x), a1, a2, a3, a4] S M = rn ca C_X10_behind 45 [some (.ref x), a1, a2, a3, a4] (.ref x :: S) M := (rn_at k_X10_behind_44).trans rfl
theorem k_X10_behind_45 : lk 45 C_X10_behind = some (.bipush (-5), (0, 0, 0, 0)) := by decide +kernel
theorem s_X10_behind_45 {ca : Nat → List Value → tM → tO} {M : tM} {L : tL} {S : List Value} : rn ca C_X10_behind 45 L S M = rn ca C_X10_behind 47 L (.int (iI (-5)) :: S) M := (rn_at k_X10_behind_45).trans rfl
theorem k_X10_behind_47 : lk 47 C_X10_behind = some (.invokevirtual 101, (134, 1, 10, 175)) := by decide +kernel
theorem s_X10_behind_47 {ca : Nat → List Value → tM → tO} {M : tM} {L : tL} {v1 : Value} {b : Nat} : rn ca C_X10_behind 47 L [v1, .ref b] M = if clsO b = some 10 then rnk ca C_X10_behind 50 L [] (ca m_X10_refuse [.ref b, v1] M) else none := (rn_at k_X10_behind_47).trans rnx_ite
theorem k_X10_behind_50 : lk 50 C_X10_behind = some (.ireturn, (0, 0, 0, 0)) := by decide +kernel
theorem s_X10_behind_50 {ca : Nat → List Value → tM → tO} {M : tM} {L : tL} {x : Int32} : rn ca C_X10_behind 50 L [.int x] M = some (some (.int x), M) := (rn_at k_X10_behind_50).trans rfl
theorem k_X10_behind_51 : lk 51 C_X10_behind = some (.aload_n 0, (0, 0, 0, 0)) := by decide +kernel
theorem s_X10_behind_51 {ca : Nat → List Value → tM → tO} {M : tM} {a1 a2 a3 a4 : Option Value} {x : Nat} {S : List Value} : rn ca C_X10_behind 51 [some (.ref x), a1, a2, a3, a4] S M = rn ca C_X10_behind 52 [some (.ref x), a1, a2, a3, a4] (.ref x :: S) M := (rn_at k_X10_behind_51).trans rfl
theorem k_X10_behind_52 : lk 52 C_X10_behind = some (.iload_n 1, (0, 0, 0, 0)) := by decide +kernel
theorem s_X10_behind_52 {ca : Nat → List Value → tM → tO} {M : tM} {a0 a2 a3 a4 : Option Value} {x : Int32} {S : List Value} : rn ca C_X10_behind 52 [a0, some (.int x), a2, a3, a4] S M = rn ca C_X10_behind 53 [a0, some (.int x), a2, a3, a4] (.int x :: S) M := (rn_at k_X10_behind_52).trans rfl
theorem k_X10_behind_53 : lk 53 C_X10_behind = some (.iload_n 2, (0, 0, 0, 0)) := by decide +kernel
theorem s_X10_behind_53 {ca : Nat → List Value → tM → tO} {M : tM} {a0 a1 a3 a4 : Option Value} {x : Int32} {S : List Value} : rn ca C_X10_behind 53 [a0, a1, some (.int x), a3, a4] S M = rn ca C_X10_behind 54 [a0, a1, some (.int x), a3, a4] (.int x :: S) M := (rn_at k_X10_behind_53).trans rfl
theorem k_X10_behind_54 : lk 54 C_X10_behind = some (.invokevirtual 339, (139, 2, 10, 1103)) := by decide +kernel
theorem s_X10_behind_54 {ca : Nat → List Value → tM → tO} {M : tM} {L : tL} {v1 v2 : Value} {b : Nat} : rn ca C_X10_behind 54 L [v2, v1, .ref b] M = if clsO b = some 10 then rnk ca C_X10_behind 57 L [] (ca m_X10_standsOnDraft [.ref b, v1, v2] M) else none := (rn_at k_X10_behind_54).trans rnx_ite
theorem k_X10_behind_57 : lk 57 C_X10_behind = some (.ifCond .ne 10, (67, 0, 0, 0)) := by decide +kernel
theorem s_X10_behind_57 {ca : Nat → List Value → tM → tO} {M : tM} {L : tL} {x : Int32} {S : List Value} : rn ca C_X10_behind 57 L (.int x :: S) M = if ¬ x = iI 0 then rn ca C_X10_behind 67 L S M else rn ca C_X10_behind 60 L S M := (rn_at k_X10_behind_57).trans rnx_ite
theorem k_X10_behind_60 : lk 60 C_X10_behind = some (.aload_n 0, (0, 0, 0, 0)) := by decide +kernel
theorem s_X10_behind_60 {ca : Nat → List Value → tM → tO} {M : tM} {a1 a2 a3 a4 : Option Value} {x : Nat} {S : List Value} : rn ca C_X10_behind 60 [some (.ref x), a1, a2, a3, a4] S M = rn ca C_X10_behind 61 [some (.ref x), a1, a2, a3, a4] (.ref x :: S) M := (rn_at k_X10_behind_60).trans rfl
theorem k_X10_behind_61 : lk 61 C_X10_behind = some (.bipush (-6), (0, 0, 0, 0)) := by decide +kernel
theorem s_X10_behind_61 {ca : Nat → List Value → tM → tO} {M : tM} {L : tL} {S : List Value} : rn ca C_X10_behind 61 L S M = rn ca C_X10_behind 63 L (.int (iI (-6)) :: S) M := (rn_at k_X10_behind_61).trans rfl
theorem k_X10_behind_63 : lk 63 C_X10_behind = some (.invokevirtual 101, (134, 1, 10, 175)) := by decide +kernel
theorem s_X10_behind_63 {ca : Nat → List Value → tM → tO} {M : tM} {L : tL} {v1 : Value} {b : Nat} : rn ca C_X10_behind 63 L [v1, .ref b] M = if clsO b = some 10 then rnk ca C_X10_behind 66 L [] (ca m_X10_refuse [.ref b, v1] M) else none := (rn_at k_X10_behind_63).trans rnx_ite
theorem k_X10_behind_66 : lk 66 C_X10_behind = some (.ireturn, (0, 0, 0, 0)) := by decide +kernel
theorem s_X10_behind_66 {ca : Nat → List Value → tM → tO} {M : tM} {L : tL} {x : Int32} : rn ca C_X10_behind 66 L [.int x] M = some (some (.int x), M) := (rn_at k_X10_behind_66).trans rfl
theorem k_X10_behind_67 : lk 67 C_X10_behind = some (.iload_n 3, (0, 0, 0, 0)) := by decide +kernel
theorem s_X10_behind_67 {ca : Nat → List Value → tM → tO} {M : tM} {a0 a1 a2 a4 : Option Value} {x : Int32} {S : List Value} : rn ca C_X10_behind 67 [a0, a1, a2, some (.int x), a4] S M = rn ca C_X10_behind 68 [a0, a1, a2, some (.int x), a4] (.int x :: S) M := (rn_at k_X10_behind_67).trans rfl
theorem k_X10_behind_68 : lk 68 C_X10_behind = some (.ifCond .ne 11, (79, 0, 0, 0)) := by decide +kernel
theorem s_X10_behind_68 {ca : Nat → List Value → tM → tO} {M : tM} {L : tL} {x : Int32} {S : List Value} : rn ca C_X10_behind 68 L (.int x :: S) M = if ¬ x = iI 0 then rn ca C_X10_behind 79 L S M else rn ca C_X10_behind 71 L S M := (rn_at k_X10_behind_68).trans rnx_ite
theorem k_X10_behind_71 : lk 71 C_X10_behind = some (.aload_n 0, (0, 0, 0, 0)) := by decide +kernel
theorem s_X10_behind_71 {ca : Nat → List Value → tM → tO} {M : tM} {a1 a2 a3 a4 : Option Value} {x : Nat} {S : List Value} : rn ca C_X10_behind 71 [some (.ref x), a1, a2, a3, a4] S M = rn ca C_X10_behind 72 [some (.ref x), a1, a2, a3, a4] (.ref x :: S) M := (rn_at k_X10_behind_71).trans rfl
theorem k_X10_behind_72 : lk 72 C_X10_behind = some (.getfield 74, (10, 10, 0, 50)) := by decide +kernel
theorem s_X10_behind_72 {ca : Nat → List Value → tM → tO} {M : tM} {L : tL} {b : Nat} {S : List Value} : rn ca C_X10_behind 72 L (.ref b :: S) M = if clsO b = some 10 then rn ca C_X10_behind 75 L (fv M b 10 :: S) M else none := (rn_at k_X10_behind_72).trans rnx_ite
theorem k_X10_behind_75 : lk 75 C_X10_behind = some (.getfield 342, (1, 0, 0, 100043)) := by decide +kernel
theorem s_X10_behind_75 {ca : Nat → List Value → tM → tO} {M : tM} {L : tL} {b : Nat} {S : List Value} : rn ca C_X10_behind 75 L (.ref b :: S) M = if clsO b = some 1 then rn ca C_X10_behind 78 L (fv M b 0 :: S) M else none := (rn_at k_X10_behind_75).trans rnx_ite
theorem k_X10_behind_78 : lk 78 C_X10_behind = some (.ireturn, (0, 0, 0, 0)) := by decide +kernel
theorem s_X10_behind_78 {ca : Nat → List Value → tM → tO} {M : tM} {L : tL} {x : Int32} : rn ca C_X10_behind 78 L [.int x] M = some (some (.int x), M) := (rn_at k_X10_behind_78).trans rfl
theorem k_X10_behind_79 : lk 79 C_X10_behind = some (.iload_n 3, (0, 0, 0, 0)) := by decide +kernel
theorem s_X10_behind_79 {ca : Nat → List Value → tM → tO} {M : tM} {a0 a1 a2 a4 : Option Value} {x : Int32} {S : List Value} : rn ca C_X10_behind 79 [a0, a1, a2, some (.int x), a4] S M = rn ca C_X10_behind 80 [a0, a1, a2, some (.int x), a4] (.int x :: S) M := (rn_at k_X10_behind_79).trans rfl
theorem k_X10_behind_80 : lk 80 C_X10_behind = some (.iconst 1, (0, 0, 0, 0)) := by decide +kernel
theorem s_X10_behind_80 {ca : Nat → List Value → tM → tO} {M : tM} {L : tL} {S : List Value} : rn ca C_X10_behind 80 L S M = rn ca C_X10_behind 81 L (.int (iI 1) :: S) M := (rn_at k_X10_behind_80).trans rfl
theorem k_X10_behind_81 : lk 81 C_X10_behind = some (.if_icmp .ne 13, (94, 0, 0, 0)) := by decide +kernel
theorem s_X10_behind_81 {ca : Nat → List Value → tM → tO} {M : tM} {L : tL} {x y : Int32} {S : List Value} : rn ca C_X10_behind 81 L (.int y :: .int x :: S) M = if ¬ x = y then rn ca C_X10_behind 94 L S M else rn ca C_X10_behind 84 L S M := (rn_at k_X10_behind_81).trans rnx_ite
theorem k_X10_behind_84 : lk 84 C_X10_behind = some (.aload_n 0, (0, 0, 0, 0)) := by decide +kernel
theorem s_X10_behind_84 {ca : Nat → List Value → tM → tO} {M : tM} {a1 a2 a3 a4 : Option Value} {x : Nat} {S : List Value} : rn ca C_X10_behind 84 [some (.ref x), a1, a2, a3, a4] S M = rn ca C_X10_behind 85 [some (.ref x), a1, a2, a3, a4] (.ref x :: S) M := (rn_at k_X10_behind_84).trans rfl
theorem k_X10_behind_85 : lk 85 C_X10_behind = some (.getfield 74, (10, 10, 0, 50)) := by decide +kernel
theorem s_X10_behind_85 {ca : Nat → List Value → tM → tO} {M : tM} {L : tL} {b : Nat} {S : List Value} : rn ca C_X10_behind 85 L (.ref b :: S) M = if clsO b = some 10 then rn ca C_X10_behind 88 L (fv M b 10 :: S) M else none := (rn_at k_X10_behind_85).trans rnx_ite
theorem k_X10_behind_88 : lk 88 C_X10_behind = some (.getfield 345, (1, 1, 0, 100044)) := by decide +kernel
theorem s_X10_behind_88 {ca : Nat → List Value → tM → tO} {M : tM} {L : tL} {b : Nat} {S : List Value} : rn ca C_X10_behind 88 L (.ref b :: S) M = if clsO b = some 1 then rn ca C_X10_behind 91 L (fv M b 1 :: S) M else none := (rn_at k_X10_behind_88).trans rnx_ite
theorem k_X10_behind_91 : lk 91 C_X10_behind = some (.goto 12, (103, 0, 0, 0)) := by decide +kernel
theorem s_X10_behind_91 {ca : Nat → List Value → tM → tO} {M : tM} {L : tL} {S : List Value} : rn ca C_X10_behind 91 L S M = rn ca C_X10_behind 103 L S M := (rn_at k_X10_behind_91).trans rfl
theorem k_X10_behind_94 : lk 94 C_X10_behind = some (.aload_n 0, (0, 0, 0, 0)) := by decide +kernel
theorem s_X10_behind_94 {ca : Nat → List Value → tM → tO} {M : tM} {a1 a2 a3 a4 : Option Value} {x : Nat} {S : List Value} : rn ca C_X10_behind 94 [some (.ref x), a1, a2, a3, a4] S M = rn ca C_X10_behind 95 [some (.ref x), a1, a2, a3, a4] (.ref x :: S) M := (rn_at k_X10_behind_94).trans rfl
theorem k_X10_behind_95 : lk 95 C_X10_behind = some (.getfield 19, (10, 2, 0, 18)) := by decide +kernel
theorem s_X10_behind_95 {ca : Nat → List Value → tM → tO} {M : tM} {L : tL} {b : Nat} {S : List Value} : rn ca C_X10_behind 95 L (.ref b :: S) M = if clsO b = some 10 then rn ca C_X10_behind 98 L (fv M b 2 :: S) M else none := (rn_at k_X10_behind_95).trans rnx_ite
theorem k_X10_behind_98 : lk 98 C_X10_behind = some (.getfield 161, (4, 12, 0, 100030)) := by decide +kernel
theorem s_X10_behind_98 {ca : Nat → List Value → tM → tO} {M : tM} {L : tL} {b : Nat} {S : List Value} : rn ca C_X10_behind 98 L (.ref b :: S) M = if clsO b = some 4 then rn ca C_X10_behind 101 L (fv M b 12 :: S) M else none := (rn_at k_X10_behind_98).trans rnx_ite
theorem k_X10_behind_101 : lk 101 C_X10_behind = some (.iconst 0, (0, 0, 0, 0)) := by decide +kernel
theorem s_X10_behind_101 {ca : Nat → List Value → tM → tO} {M : tM} {L : tL} {S : List Value} : rn ca C_X10_behind 101 L S M = rn ca C_X10_behind 102 L (.int (iI 0) :: S) M := (rn_at k_X10_behind_101).trans rfl
theorem k_X10_behind_102 : lk 102 C_X10_behind = some (.iaload, (0, 0, 0, 0)) := by decide +kernel
theorem s_X10_behind_102 {ca : Nat → List Value → tM → tO} {M : tM} {L : tL} {a : Nat} {i : Int32} {S : List Value} : rn ca C_X10_behind 102 L (.int i :: .ref a :: S) M = if (akind a = 0 ∨ akind a = 6 ∨ akind a = 7) ∧ inb i (alen M a) then rn ca C_X10_behind 103 L (.int (M.1 a i.toInt.toNat) :: S) M else none := (rn_at k_X10_behind_102).trans rnx_ite
theorem k_X10_behind_103 : lk 103 C_X10_behind = some (.ireturn, (0, 0, 0, 0)) := by decide +kernel
theorem s_X10_behind_103 {ca : Nat → List Value → tM → tO} {M : tM} {L : tL} {x : Int32} : rn ca C_X10_behind 103 L [.int x] M = some (some (.int x), M) := (rn_at k_X10_behind_103).trans rfl
theorem k_X10_done_0 : lk 0 C_X10_done = some (.aload_n 0, (0, 0, 0, 0)) := by decide +kernel
theorem s_X10_done_0 {ca : Nat → List Value → tM → tO} {M : tM} {a1 a2 a3 : Option Value} {x : Nat} {S : List Value} : rn ca C_X10_done 0 [some (.ref x), a1, a2, a3] S M = rn ca C_X10_done 1 [some (.ref x), a1, a2, a3] (.ref x :: S) M := (rn_at k_X10_done_0).trans rfl
theorem k_X10_done_1 : lk 1 C_X10_done = some (.iload_n 1, (0, 0, 0, 0)) := by decide +kernel
theorem s_X10_done_1 {ca : Nat → List Value → tM → tO} {M : tM} {a0 a2 a3 : Option Value} {x : Int32} {S : List Value} : rn ca C_X10_done 1 [a0, some (.int x), a2, a3] S M = rn ca C_X10_done 2 [a0, some (.int x), a2, a3] (.int x :: S) M := (rn_at k_X10_done_1).trans rfl
theorem k_X10_done_2 : lk 2 C_X10_done = some (.iload_n 2, (0, 0, 0, 0)) := by decide +kernel
theorem s_X10_done_2 {ca : Nat → List Value → tM → tO} {M : tM} {a0 a1 a3 : Option Value} {x : Int32} {S : List Value} : rn ca C_X10_done 2 [a0, a1, some (.int x), a3] S M = rn ca C_X10_done 3 [a0, a1, some (.int x), a3] (.int x :: S) M := (rn_at k_X10_done_2).trans rfl
theorem k_X10_done_3 : lk 3 C_X10_done = some (.invokevirtual 332, (138, 2, 10, 1060)) := by decide +kernel
theorem s_X10_done_3 {ca : Nat → List Value → tM → tO} {M : tM} {L : tL} {v1 v2 : Value} {b : Nat} : rn ca C_X10_done 3 L [v2, v1, .ref b] M = if clsO b = some 10 then rnk ca C_X10_done 6 L [] (ca m_X10_legsRefusal [.ref b, v1, v2] M) else none := (rn_at k_X10_done_3).trans rnx_ite
theorem k_X10_done_6 : lk 6 C_X10_done = some (.istore_n 3, (0, 0, 0, 0)) := by decide +kernel
theorem s_X10_done_6 {ca : Nat → List Value → tM → tO} {M : tM} {a0 a1 a2 a3 : Option Value} {x : Int32} {S : List Value} : rn ca C_X10_done 6 [a0, a1, a2, a3] (.int x :: S) M = rn ca C_X10_done 7 [a0, a1, a2, some (.int x)] S M := (rn_at k_X10_done_6).trans rfl
theorem k_X10_done_7 : lk 7 C_X10_done = some (.iload_n 3, (0, 0, 0, 0)) := by decide +kernel
theorem s_X10_done_7 {ca : Nat → List Value → tM → tO} {M : tM} {a0 a1 a2 : Option Value} {x : Int32} {S : List Value} : rn ca C_X10_done 7 [a0, a1, a2, some (.int x)] S M = rn ca C_X10_done 8 [a0, a1, a2, some (.int x)] (.int x :: S) M := (rn_at k_X10_done_7).trans rfl
theorem k_X10_done_8 : lk 8 C_X10_done = some (.ifCond .ge 9, (17, 0, 0, 0)) := by decide +kernel
theorem s_X10_done_8 {ca : Nat → List Value → tM → tO} {M : tM} {L : tL} {x : Int32} {S : List Value} : rn ca C_X10_done 8 L (.int x :: S) M = if iI 0 ≤ x then rn ca C_X10_done 17 L S M else rn ca C_X10_done 11 L S M := (rn_at k_X10_done_8).trans rnx_ite
theorem k_X10_done_11 : lk 11 C_X10_done = some (.aload_n 0, (0, 0, 0, 0)) := by decide +kernel
theorem s_X10_done_11 {ca : Nat → List Value → tM → tO} {M : tM} {a1 a2 a3 : Option Value} {x : Nat} {S : List Value} : rn ca C_X10_done 11 [some (.ref x), a1, a2, a3] S M = rn ca C_X10_done 12 [some (.ref x), a1, a2, a3] (.ref x :: S) M := (rn_at k_X10_done_11).trans rfl
theorem k_X10_done_12 : lk 12 C_X10_done = some (.iload_n 3, (0, 0, 0, 0)) := by decide +kernel
theorem s_X10_done_12 {ca : Nat → List Value → tM → tO} {M : tM} {a0 a1 a2 : Option Value} {x : Int32} {S : List Value} : rn ca C_X10_done 12 [a0, a1, a2, some (.int x)] S M = rn ca C_X10_done 13 [a0, a1, a2, some (.int x)] (.int x :: S) M := (rn_at k_X10_done_12).trans rfl
theorem k_X10_done_13 : lk 13 C_X10_done = some (.invokevirtual 101, (134, 1, 10, 175)) := by decide +kernel
theorem s_X10_done_13 {ca : Nat → List Value → tM → tO} {M : tM} {L : tL} {v1 : Value} {b : Nat} : rn ca C_X10_done 13 L [v1, .ref b] M = if clsO b = some 10 then rnk ca C_X10_done 16 L [] (ca m_X10_refuse [.ref b, v1] M) else none := (rn_at k_X10_done_13).trans rnx_ite
theorem k_X10_done_16 : lk 16 C_X10_done = some (.ireturn, (0, 0, 0, 0)) := by decide +kernel
theorem s_X10_done_16 {ca : Nat → List Value → tM → tO} {M : tM} {L : tL} {x : Int32} : rn ca C_X10_done 16 L [.int x] M = some (some (.int x), M) := (rn_at k_X10_done_16).trans rfl
theorem k_X10_done_17 : lk 17 C_X10_done = some (.aload_n 0, (0, 0, 0, 0)) := by decide +kernel
theorem s_X10_done_17 {ca : Nat → List Value → tM → tO} {M : tM} {a1 a2 a3 : Option Value} {x : Nat} {S : List Value} : rn ca C_X10_done 17 [some (.ref x), a1, a2, a3] S M = rn ca C_X10_done 18 [some (.ref x), a1, a2, a3] (.ref x :: S) M := (rn_at k_X10_done_17).trans rfl
theorem k_X10_done_18 : lk 18 C_X10_done = some (.iload_n 1, (0, 0, 0, 0)) := by decide +kernel
theorem s_X10_done_18 {ca : Nat → List Value → tM → tO} {M : tM} {a0 a2 a3 : Option Value} {x : Int32} {S : List Value} : rn ca C_X10_done 18 [a0, some (.int x), a2, a3] S M = rn ca C_X10_done 19 [a0, some (.int x), a2, a3] (.int x :: S) M := (rn_at k_X10_done_18).trans rfl
theorem k_X10_done_19 : lk 19 C_X10_done = some (.iload_n 2, (0, 0, 0, 0)) := by decide +kernel
theorem s_X10_done_19 {ca : Nat → List Value → tM → tO} {M : tM} {a0 a1 a3 : Option Value} {x : Int32} {S : List Value} : rn ca C_X10_done 19 [a0, a1, some (.int x), a3] S M = rn ca C_X10_done 20 [a0, a1, some (.int x), a3] (.int x :: S) M := (rn_at k_X10_done_19).trans rfl
theorem k_X10_done_20 : lk 20 C_X10_done = some (.invokevirtual 339, (139, 2, 10, 1103)) := by decide +kernel
theorem s_X10_done_20 {ca : Nat → List Value → tM → tO} {M : tM} {L : tL} {v1 v2 : Value} {b : Nat} : rn ca C_X10_done 20 L [v2, v1, .ref b] M = if clsO b = some 10 then rnk ca C_X10_done 23 L [] (ca m_X10_standsOnDraft [.ref b, v1, v2] M) else none := (rn_at k_X10_done_20).trans rnx_ite
theorem k_X10_done_23 : lk 23 C_X10_done = some (.ifCond .ne 10, (33, 0, 0, 0)) := by decide +kernel
theorem s_X10_done_23 {ca : Nat → List Value → tM → tO} {M : tM} {L : tL} {x : Int32} {S : List Value} : rn ca C_X10_done 23 L (.int x :: S) M = if ¬ x = iI 0 then rn ca C_X10_done 33 L S M else rn ca C_X10_done 26 L S M := (rn_at k_X10_done_23).trans rnx_ite
theorem k_X10_done_26 : lk 26 C_X10_done = some (.aload_n 0, (0, 0, 0, 0)) := by decide +kernel
theorem s_X10_done_26 {ca : Nat → List Value → tM → tO} {M : tM} {a1 a2 a3 : Option Value} {x : Nat} {S : List Value} : rn ca C_X10_done 26 [some (.ref x), a1, a2, a3] S M = rn ca C_X10_done 27 [some (.ref x), a1, a2, a3] (.ref x :: S) M := (rn_at k_X10_done_26).trans rfl
theorem k_X10_done_27 : lk 27 C_X10_done = some (.bipush (-6), (0, 0, 0, 0)) := by decide +kernel
theorem s_X10_done_27 {ca : Nat → List Value → tM → tO} {M : tM} {L : tL} {S : List Value} : rn ca C_X10_done 27 L S M = rn ca C_X10_done 29 L (.int (iI (-6)) :: S) M := (rn_at k_X10_done_27).trans rfl
theorem k_X10_done_29 : lk 29 C_X10_done = some (.invokevirtual 101, (134, 1, 10, 175)) := by decide +kernel
theorem s_X10_done_29 {ca : Nat → List Value → tM → tO} {M : tM} {L : tL} {v1 : Value} {b : Nat} : rn ca C_X10_done 29 L [v1, .ref b] M = if clsO b = some 10 then rnk ca C_X10_done 32 L [] (ca m_X10_refuse [.ref b, v1] M) else none := (rn_at k_X10_done_29).trans rnx_ite
theorem k_X10_done_32 : lk 32 C_X10_done = some (.ireturn, (0, 0, 0, 0)) := by decide +kernel
theorem s_X10_done_32 {ca : Nat → List Value → tM → tO} {M : tM} {L : tL} {x : Int32} : rn ca C_X10_done 32 L [.int x] M = some (some (.int x), M) := (rn_at k_X10_done_32).trans rfl
theorem k_X10_done_33 : lk 33 C_X10_done = some (.aload_n 0, (0, 0, 0, 0)) := by decide +kernel
theorem s_X10_done_33 {ca : Nat → List Value → tM → tO} {M : tM} {a1 a2 a3 : Option Value} {x : Nat} {S : List Value} : rn ca C_X10_done 33 [some (.ref x), a1, a2, a3] S M = rn ca C_X10_done 34 [some (.ref x), a1, a2, a3] (.ref x :: S) M := (rn_at k_X10_done_33).trans rfl
theorem k_X10_done_34 : lk 34 C_X10_done = some (.getfield 10, (10, 0, 0, 16)) := by decide +kernel
theorem s_X10_done_34 {ca : Nat → List Value → tM → tO} {M : tM} {L : tL} {b : Nat} {S : List Value} : rn ca C_X10_done 34 L (.ref b :: S) M = if clsO b = some 10 then rn ca C_X10_done 37 L (fv M b 0 :: S) M else none := (rn_at k_X10_done_34).trans rnx_ite
theorem k_X10_done_37 : lk 37 C_X10_done = some (.aload_n 0, (0, 0, 0, 0)) := by decide +kernel
theorem s_X10_done_37 {ca : Nat → List Value → tM → tO} {M : tM} {a1 a2 a3 : Option Value} {x : Nat} {S : List Value} : rn ca C_X10_done 37 [some (.ref x), a1, a2, a3] S M = rn ca C_X10_done 38 [some (.ref x), a1, a2, a3] (.ref x :: S) M := (rn_at k_X10_done_37).trans rfl
theorem k_X10_done_38 : lk 38 C_X10_done = some (.getfield 19, (10, 2, 0, 18)) := by decide +kernel
theorem s_X10_done_38 {ca : Nat → List Value → tM → tO} {M : tM} {L : tL} {b : Nat} {S : List Value} : rn ca C_X10_done 38 L (.ref b :: S) M = if clsO b = some 10 then rn ca C_X10_done 41 L (fv M b 2 :: S) M else none := (rn_at k_X10_done_38).trans rnx_ite
theorem k_X10_done_41 : lk 41 C_X10_done = some (.invokevirtual 224, (29, 1, 4, 481)) := by decide +kernel
theorem s_X10_done_41 {ca : Nat → List Value → tM → tO} {M : tM} {L : tL} {v1 : Value} {b : Nat} : rn ca C_X10_done 41 L [v1, .ref b] M = if clsO b = some 4 then rnk ca C_X10_done 44 L [] (ca m_X4_takeOver [.ref b, v1] M) else none := (rn_at k_X10_done_41).trans rnx_ite
theorem k_X10_done_44 : lk 44 C_X10_done = some (.aload_n 0, (0, 0, 0, 0)) := by decide +kernel
theorem s_X10_done_44 {ca : Nat → List Value → tM → tO} {M : tM} {a1 a2 a3 : Option Value} {x : Nat} {S : List Value} : rn ca C_X10_done 44 [some (.ref x), a1, a2, a3] S M = rn ca C_X10_done 45 [some (.ref x), a1, a2, a3] (.ref x :: S) M := (rn_at k_X10_done_44).trans rfl
theorem k_X10_done_45 : lk 45 C_X10_done = some (.getfield 10, (10, 0, 0, 16)) := by decide +kernel
theorem s_X10_done_45 {ca : Nat → List Value → tM → tO} {M : tM} {L : tL} {b : Nat} {S : List Value} : rn ca C_X10_done 45 L (.ref b :: S) M = if clsO b = some 10 then rn ca C_X10_done 48 L (fv M b 0 :: S) M else none := (rn_at k_X10_done_45).trans rnx_ite
theorem k_X10_done_48 : lk 48 C_X10_done = some (.getfield 348, (4, 14, 0, 100036)) := by decide +kernel
theorem s_X10_done_48 {ca : Nat → List Value → tM → tO} {M : tM} {L : tL} {b : Nat} {S : List Value} : rn ca C_X10_done 48 L (.ref b :: S) M = if clsO b = some 4 then rn ca C_X10_done 51 L (fv M b 14 :: S) M else none := (rn_at k_X10_done_48).trans rnx_ite
theorem k_X10_done_51 : lk 51 C_X10_done = some (.ireturn, (0, 0, 0, 0)) := by decide +kernel
theorem s_X10_done_51 {ca : Nat → List Value → tM → tO} {M : tM} {L : tL} {x : Int32} : rn ca C_X10_done 51 L [.int x] M = some (some (.int x), M) := (rn_at k_X10_done_51).trans rfl
theorem k_X10_send_0 : lk 0 C_X10_send = some (.aload_n 0, (0, 0, 0, 0)) := by decide +kernel
theorem s_X10_send_0 {ca : Nat → List Value → tM → tO} {M : tM} {a1 a2 a3 a4 : Option Value} {x : Nat} {S : List Value} : rn ca C_X10_send 0 [some (.ref x), a1, a2, a3, a4] S M = rn ca C_X10_send 1 [some (.ref x), a1, a2, a3, a4] (.ref x :: S) M := (rn_at k_X10_send_0).trans rfl
theorem k_X10_send_1 : lk 1 C_X10_send = some (.getfield 10, (10, 0, 0, 16)) := by decide +kernel
theorem s_X10_send_1 {ca : Nat → List Value → tM → tO} {M : tM} {L : tL} {b : Nat} {S : List Value} : rn ca C_X10_send 1 L (.ref b :: S) M = if clsO b = some 10 then rn ca C_X10_send 4 L (fv M b 0 :: S) M else none := (rn_at k_X10_send_1).trans rnx_ite
theorem k_X10_send_4 : lk 4 C_X10_send = some (.iload_n 1, (0, 0, 0, 0)) := by decide +kernel
theorem s_X10_send_4 {ca : Nat → List Value → tM → tO} {M : tM} {a0 a2 a3 a4 : Option Value} {x : Int32} {S : List Value} : rn ca C_X10_send 4 [a0, some (.int x), a2, a3, a4] S M = rn ca C_X10_send 5 [a0, some (.int x), a2, a3, a4] (.int x :: S) M := (rn_at k_X10_send_4).trans rfl
theorem k_X10_send_5 : lk 5 C_X10_send = some (.invokevirtual 135, (20, 1, 4, 290)) := by decide +kernel
theorem s_X10_send_5 {ca : Nat → List Value → tM → tO} {M : tM} {L : tL} {v1 : Value} {b : Nat} : rn ca C_X10_send 5 L [v1, .ref b] M = if clsO b = some 4 then rnk ca C_X10_send 8 L [] (ca m_X4_hasCapsule [.ref b, v1] M) else none := (rn_at k_X10_send_5).trans rnx_ite
theorem k_X10_send_8 : lk 8 C_X10_send = some (.ifCond .eq 14, (22, 0, 0, 0)) := by decide +kernel
theorem s_X10_send_8 {ca : Nat → List Value → tM → tO} {M : tM} {L : tL} {x : Int32} {S : List Value} : rn ca C_X10_send 8 L (.int x :: S) M = if x = iI 0 then rn ca C_X10_send 22 L S M else rn ca C_X10_send 11 L S M := (rn_at k_X10_send_8).trans rnx_ite
theorem k_X10_send_11 : lk 11 C_X10_send = some (.aload_n 0, (0, 0, 0, 0)) := by decide +kernel
theorem s_X10_send_11 {ca : Nat → List Value → tM → tO} {M : tM} {a1 a2 a3 a4 : Option Value} {x : Nat} {S : List Value} : rn ca C_X10_send 11 [some (.ref x), a1, a2, a3, a4] S M = rn ca C_X10_send 12 [some (.ref x), a1, a2, a3, a4] (.ref x :: S) M := (rn_at k_X10_send_11).trans rfl
theorem k_X10_send_12 : lk 12 C_X10_send = some (.getfield 10, (10, 0, 0, 16)) := by decide +kernel
theorem s_X10_send_12 {ca : Nat → List Value → tM → tO} {M : tM} {L : tL} {b : Nat} {S : List Value} : rn ca C_X10_send 12 L (.ref b :: S) M = if clsO b = some 10 then rn ca C_X10_send 15 L (fv M b 0 :: S) M else none := (rn_at k_X10_send_12).trans rnx_ite
theorem k_X10_send_15 : lk 15 C_X10_send = some (.iload_n 2, (0, 0, 0, 0)) := by decide +kernel
theorem s_X10_send_15 {ca : Nat → List Value → tM → tO} {M : tM} {a0 a1 a3 a4 : Option Value} {x : Int32} {S : List Value} : rn ca C_X10_send 15 [a0, a1, some (.int x), a3, a4] S M = rn ca C_X10_send 16 [a0, a1, some (.int x), a3, a4] (.int x :: S) M := (rn_at k_X10_send_15).trans rfl
theorem k_X10_send_16 : lk 16 C_X10_send = some (.invokevirtual 174, (18, 1, 4, 368)) := by decide +kernel
theorem s_X10_send_16 {ca : Nat → List Value → tM → tO} {M : tM} {L : tL} {v1 : Value} {b : Nat} : rn ca C_X10_send 16 L [v1, .ref b] M = if clsO b = some 4 then rnk ca C_X10_send 19 L [] (ca m_X4_hasDesk [.ref b, v1] M) else none := (rn_at k_X10_send_16).trans rnx_ite
theorem k_X10_send_19 : lk 19 C_X10_send = some (.ifCond .ne 9, (28, 0, 0, 0)) := by decide +kernel
theorem s_X10_send_19 {ca : Nat → List Value → tM → tO} {M : tM} {L : tL} {x : Int32} {S : List Value} : rn ca C_X10_send 19 L (.int x :: S) M = if ¬ x = iI 0 then rn ca C_X10_send 28 L S M else rn ca C_X10_send 22 L S M := (rn_at k_X10_send_19).trans rnx_ite
theorem k_X10_send_22 : lk 22 C_X10_send = some (.aload_n 0, (0, 0, 0, 0)) := by decide +kernel
theorem s_X10_send_22 {ca : Nat → List Value → tM → tO} {M : tM} {a1 a2 a3 a4 : Option Value} {x : Nat} {S : List Value} : rn ca C_X10_send 22 [some (.ref x), a1, a2, a3, a4] S M = rn ca C_X10_send 23 [some (.ref x), a1, a2, a3, a4] (.ref x :: S) M := (rn_at k_X10_send_22).trans rfl
theorem k_X10_send_23 : lk 23 C_X10_send = some (.iconst (-1), (0, 0, 0, 0)) := by decide +kernel
theorem s_X10_send_23 {ca : Nat → List Value → tM → tO} {M : tM} {L : tL} {S : List Value} : rn ca C_X10_send 23 L S M = rn ca C_X10_send 24 L (.int (iI (-1)) :: S) M := (rn_at k_X10_send_23).trans rfl
theorem k_X10_send_24 : lk 24 C_X10_send = some (.invokevirtual 101, (134, 1, 10, 175)) := by decide +kernel
theorem s_X10_send_24 {ca : Nat → List Value → tM → tO} {M : tM} {L : tL} {v1 : Value} {b : Nat} : rn ca C_X10_send 24 L [v1, .ref b] M = if clsO b = some 10 then rnk ca C_X10_send 27 L [] (ca m_X10_refuse [.ref b, v1] M) else none := (rn_at k_X10_send_24).trans rnx_ite
theorem k_X10_send_27 : lk 27 C_X10_send = some (.ireturn, (0, 0, 0, 0)) := by decide +kernel
theorem s_X10_send_27 {ca : Nat → List Value → tM → tO} {M : tM} {L : tL} {x : Int32} : rn ca C_X10_send 27 L [.int x] M = some (some (.int x), M) := (rn_at k_X10_send_27).trans rfl
theorem k_X10_send_28 : lk 28 C_X10_send = some (.aload_n 0, (0, 0, 0, 0)) := by decide +kernel
theorem s_X10_send_28 {ca : Nat → List Value → tM → tO} {M : tM} {a1 a2 a3 a4 : Option Value} {x : Nat} {S : List Value} : rn ca C_X10_send 28 [some (.ref x), a1, a2, a3, a4] S M = rn ca C_X10_send 29 [some (.ref x), a1, a2, a3, a4] (.ref x :: S) M := (rn_at k_X10_send_28).trans rfl
theorem k_X10_send_29 : lk 29 C_X10_send = some (.getfield 32, (10, 4, 0, 26)) := by decide +kernel
theorem s_X10_send_29 {ca : Nat → List Value → tM → tO} {M : tM} {L : tL} {b : Nat} {S : List Value} : rn ca C_X10_send 29 L (.ref b :: S) M = if clsO b = some 10 then rn ca C_X10_send 32 L (fv M b 4 :: S) M else none := (rn_at k_X10_send_29).trans rnx_ite
theorem k_X10_send_32 : lk 32 C_X10_send = some (.aload_n 0, (0, 0, 0, 0)) := by decide +kernel
theorem s_X10_send_32 {ca : Nat → List Value → tM → tO} {M : tM} {a1 a2 a3 a4 : Option Value} {x : Nat} {S : List Value} : rn ca C_X10_send 32 [some (.ref x), a1, a2, a3, a4] S M = rn ca C_X10_send 33 [some (.ref x), a1, a2, a3, a4] (.ref x :: S) M := (rn_at k_X10_send_32).trans rfl
theorem k_X10_send_33 : lk 33 C_X10_send = some (.getfield 10, (10, 0, 0, 16)) := by decide +kernel
theorem s_X10_send_33 {ca : Nat → List Value → tM → tO} {M : tM} {L : tL} {b : Nat} {S : List Value} : rn ca C_X10_send 33 L (.ref b :: S) M = if clsO b = some 10 then rn ca C_X10_send 36 L (fv M b 0 :: S) M else none := (rn_at k_X10_send_33).trans rnx_ite
theorem k_X10_send_36 : lk 36 C_X10_send = some (.iload_n 1, (0, 0, 0, 0)) := by decide +kernel
theorem s_X10_send_36 {ca : Nat → List Value → tM → tO} {M : tM} {a0 a2 a3 a4 : Option Value} {x : Int32} {S : List Value} : rn ca C_X10_send 36 [a0, some (.int x), a2, a3, a4] S M = rn ca C_X10_send 37 [a0, some (.int x), a2, a3, a4] (.int x :: S) M := (rn_at k_X10_send_36).trans rfl
theorem k_X10_send_37 : lk 37 C_X10_send = some (.iload_n 2, (0, 0, 0, 0)) := by decide +kernel
theorem s_X10_send_37 {ca : Nat → List Value → tM → tO} {M : tM} {a0 a1 a3 a4 : Option Value} {x : Int32} {S : List Value} : rn ca C_X10_send 37 [a0, a1, some (.int x), a3, a4] S M = rn ca C_X10_send 38 [a0, a1, some (.int x), a3, a4] (.int x :: S) M := (rn_at k_X10_send_37).trans rfl
theorem k_X10_send_38 : lk 38 C_X10_send = some (.aload_n 0, (0, 0, 0, 0)) := by decide +kernel
theorem s_X10_send_38 {ca : Nat → List Value → tM → tO} {M : tM} {a1 a2 a3 a4 : Option Value} {x : Nat} {S : List Value} : rn ca C_X10_send 38 [some (.ref x), a1, a2, a3, a4] S M = rn ca C_X10_send 39 [some (.ref x), a1, a2, a3, a4] (.ref x :: S) M := (rn_at k_X10_send_38).trans rfl
theorem k_X10_send_39 : lk 39 C_X10_send = some (.getfield 10, (10, 0, 0, 16)) := by decide +kernel
theorem s_X10_send_39 {ca : Nat → List Value → tM → tO} {M : tM} {L : tL} {b : Nat} {S : List Value} : rn ca C_X10_send 39 L (.ref b :: S) M = if clsO b = some 10 then rn ca C_X10_send 42 L (fv M b 0 :: S) M else none := (rn_at k_X10_send_39).trans rnx_ite
theorem k_X10_send_42 : lk 42 C_X10_send = some (.getfield 206, (4, 13, 0, 100034)) := by decide +kernel
theorem s_X10_send_42 {ca : Nat → List Value → tM → tO} {M : tM} {L : tL} {b : Nat} {S : List Value} : rn ca C_X10_send 42 L (.ref b :: S) M = if clsO b = some 4 then rn ca C_X10_send 45 L (fv M b 13 :: S) M else none := (rn_at k_X10_send_42).trans rnx_ite
theorem k_X10_send_45 : lk 45 C_X10_send = some (.invokevirtual 239, (86, 4, 9, 695)) := by decide +kernel
theorem s_X10_send_45 {ca : Nat → List Value → tM → tO} {M : tM} {L : tL} {v1 v2 v3 v4 : Value} {b : Nat} : rn ca C_X10_send 45 L [v4, v3, v2, v1, .ref b] M = if clsO b = some 9 then rnk ca C_X10_send 48 L [] (ca m_X9_minutesTo [.ref b, v1, v2, v3, v4] M) else none := (rn_at k_X10_send_45).trans rnx_ite
theorem k_X10_send_48 : lk 48 C_X10_send = some (.istore 4, (0, 0, 0, 0)) := by decide +kernel
theorem s_X10_send_48 {ca : Nat → List Value → tM → tO} {M : tM} {a0 a1 a2 a3 a4 : Option Value} {x : Int32} {S : List Value} : rn ca C_X10_send 48 [a0, a1, a2, a3, a4] (.int x :: S) M = rn ca C_X10_send 50 [a0, a1, a2, a3, some (.int x)] S M := (rn_at k_X10_send_48).trans rfl
theorem k_X10_send_50 : lk 50 C_X10_send = some (.iload 4, (0, 0, 0, 0)) := by decide +kernel
theorem s_X10_send_50 {ca : Nat → List Value → tM → tO} {M : tM} {a0 a1 a2 a3 : Option Value} {x : Int32} {S : List Value} : rn ca C_X10_send 50 [a0, a1, a2, a3, some (.int x)] S M = rn ca C_X10_send 52 [a0, a1, a2, a3, some (.int x)] (.int x :: S) M := (rn_at k_X10_send_50).trans rfl
theorem k_X10_send_52 : lk 52 C_X10_send = some (.iconst (-1), (0, 0, 0, 0)) := by decide +kernel
theorem s_X10_send_52 {ca : Nat → List Value → tM → tO} {M : tM} {L : tL} {S : List Value} : rn ca C_X10_send 52 L S M = rn ca C_X10_send 53 L (.int (iI (-1)) :: S) M := (rn_at k_X10_send_52).trans rfl
theorem k_X10_send_53 : lk 53 C_X10_send = some (.if_icmp .ne 10, (63, 0, 0, 0)) := by decide +kernel
theorem s_X10_send_53 {ca : Nat → List Value → tM → tO} {M : tM} {L : tL} {x y : Int32} {S : List Value} : rn ca C_X10_send 53 L (.int y :: .int x :: S) M = if ¬ x = y then rn ca C_X10_send 63 L S M else rn ca C_X10_send 56 L S M := (rn_at k_X10_send_53).trans rnx_ite
theorem k_X10_send_56 : lk 56 C_X10_send = some (.aload_n 0, (0, 0, 0, 0)) := by decide +kernel
theorem s_X10_send_56 {ca : Nat → List Value → tM → tO} {M : tM} {a1 a2 a3 a4 : Option Value} {x : Nat} {S : List Value} : rn ca C_X10_send 56 [some (.ref x), a1, a2, a3, a4] S M = rn ca C_X10_send 57 [some (.ref x), a1, a2, a3, a4] (.ref x :: S) M := (rn_at k_X10_send_56).trans rfl
theorem k_X10_send_57 : lk 57 C_X10_send = some (.bipush (-6), (0, 0, 0, 0)) := by decide +kernel
theorem s_X10_send_57 {ca : Nat → List Value → tM → tO} {M : tM} {L : tL} {S : List Value} : rn ca C_X10_send 57 L S M = rn ca C_X10_send 59 L (.int (iI (-6)) :: S) M := (rn_at k_X10_send_57).trans rfl
theorem k_X10_send_59 : lk 59 C_X10_send = some (.invokevirtual 101, (134, 1, 10, 175)) := by decide +kernel
theorem s_X10_send_59 {ca : Nat → List Value → tM → tO} {M : tM} {L : tL} {v1 : Value} {b : Nat} : rn ca C_X10_send 59 L [v1, .ref b] M = if clsO b = some 10 then rnk ca C_X10_send 62 L [] (ca m_X10_refuse [.ref b, v1] M) else none := (rn_at k_X10_send_59).trans rnx_ite
theorem k_X10_send_62 : lk 62 C_X10_send = some (.ireturn, (0, 0, 0, 0)) := by decide +kernel
theorem s_X10_send_62 {ca : Nat → List Value → tM → tO} {M : tM} {L : tL} {x : Int32} : rn ca C_X10_send 62 L [.int x] M = some (some (.int x), M) := (rn_at k_X10_send_62).trans rfl
theorem k_X10_send_63 : lk 63 C_X10_send = some (.aload_n 0, (0, 0, 0, 0)) := by decide +kernel
theorem s_X10_send_63 {ca : Nat → List Value → tM → tO} {M : tM} {a1 a2 a3 a4 : Option Value} {x : Nat} {S : List Value} : rn ca C_X10_send 63 [some (.ref x), a1, a2, a3, a4] S M = rn ca C_X10_send 64 [some (.ref x), a1, a2, a3, a4] (.ref x :: S) M := (rn_at k_X10_send_63).trans rfl
theorem k_X10_send_64 : lk 64 C_X10_send = some (.getfield 10, (10, 0, 0, 16)) := by decide +kernel
theorem s_X10_send_64 {ca : Nat → List Value → tM → tO} {M : tM} {L : tL} {b : Nat} {S : List Value} : rn ca C_X10_send 64 L (.ref b :: S) M = if clsO b = some 10 then rn ca C_X10_send 67 L (fv M b 0 :: S) M else none := (rn_at k_X10_send_64).trans rnx_ite
theorem k_X10_send_67 : lk 67 C_X10_send = some (.iload_n 1, (0, 0, 0, 0)) := by decide +kernel
theorem s_X10_send_67 {ca : Nat → List Value → tM → tO} {M : tM} {a0 a2 a3 a4 : Option Value} {x : Int32} {S : List Value} : rn ca C_X10_send 67 [a0, some (.int x), a2, a3, a4] S M = rn ca C_X10_send 68 [a0, some (.int x), a2, a3, a4] (.int x :: S) M := (rn_at k_X10_send_67).trans rfl
theorem k_X10_send_68 : lk 68 C_X10_send = some (.iload_n 2, (0, 0, 0, 0)) := by decide +kernel
theorem s_X10_send_68 {ca : Nat → List Value → tM → tO} {M : tM} {a0 a1 a3 a4 : Option Value} {x : Int32} {S : List Value} : rn ca C_X10_send 68 [a0, a1, some (.int x), a3, a4] S M = rn ca C_X10_send 69 [a0, a1, some (.int x), a3, a4] (.int x :: S) M := (rn_at k_X10_send_68).trans rfl
theorem k_X10_send_69 : lk 69 C_X10_send = some (.iload 4, (0, 0, 0, 0)) := by decide +kernel
theorem s_X10_send_69 {ca : Nat → List Value → tM → tO} {M : tM} {a0 a1 a2 a3 : Option Value} {x : Int32} {S : List Value} : rn ca C_X10_send 69 [a0, a1, a2, a3, some (.int x)] S M = rn ca C_X10_send 71 [a0, a1, a2, a3, some (.int x)] (.int x :: S) M := (rn_at k_X10_send_69).trans rfl
theorem k_X10_send_71 : lk 71 C_X10_send = some (.iload_n 3, (0, 0, 0, 0)) := by decide +kernel
theorem s_X10_send_71 {ca : Nat → List Value → tM → tO} {M : tM} {a0 a1 a2 a4 : Option Value} {x : Int32} {S : List Value} : rn ca C_X10_send 71 [a0, a1, a2, some (.int x), a4] S M = rn ca C_X10_send 72 [a0, a1, a2, some (.int x), a4] (.int x :: S) M := (rn_at k_X10_send_71).trans rfl
theorem k_X10_send_72 : lk 72 C_X10_send = some (.invokevirtual 349, (33, 4, 4, 1127)) := by decide +kernel
theorem s_X10_send_72 {ca : Nat → List Value → tM → tO} {M : tM} {L : tL} {v1 v2 v3 v4 : Value} {b : Nat} : rn ca C_X10_send 72 L [v4, v3, v2, v1, .ref b] M = if clsO b = some 4 then rnk ca C_X10_send 75 L [] (ca m_X4_goTo [.ref b, v1, v2, v3, v4] M) else none := (rn_at k_X10_send_72).trans rnx_ite
theorem k_X10_send_75 : lk 75 C_X10_send = some (.iload 4, (0, 0, 0, 0)) := by decide +kernel
theorem s_X10_send_75 {ca : Nat → List Value → tM → tO} {M : tM} {a0 a1 a2 a3 : Option Value} {x : Int32} {S : List Value} : rn ca C_X10_send 75 [a0, a1, a2, a3, some (.int x)] S M = rn ca C_X10_send 77 [a0, a1, a2, a3, some (.int x)] (.int x :: S) M := (rn_at k_X10_send_75).trans rfl
theorem k_X10_send_77 : lk 77 C_X10_send = some (.ireturn, (0, 0, 0, 0)) := by decide +kernel
theorem s_X10_send_77 {ca : Nat → List Value → tM → tO} {M : tM} {L : tL} {x : Int32} : rn ca C_X10_send 77 L [.int x] M = some (some (.int x), M) := (rn_at k_X10_send_77).trans rfl
theorem k_X10_months_0 : lk 0 C_X10_months = some (.aload_n 0, (0, 0, 0, 0)) := by decide +kernel
theorem s_X10_months_0 {ca : Nat → List Value → tM → tO} {M : tM} {a1 a2 : Option Value} {x : Nat} {S : List Value} : rn ca C_X10_months 0 [some (.ref x), a1, a2] S M = rn ca C_X10_months 1 [some (.ref x), a1, a2] (.ref x :: S) M := (rn_at k_X10_months_0).trans rfl
theorem k_X10_months_1 : lk 1 C_X10_months = some (.getfield 10, (10, 0, 0, 16)) := by decide +kernel
theorem s_X10_months_1 {ca : Nat → List Value → tM → tO} {M : tM} {L : tL} {b : Nat} {S : List Value} : rn ca C_X10_months 1 L (.ref b :: S) M = if clsO b = some 10 then rn ca C_X10_months 4 L (fv M b 0 :: S) M else none := (rn_at k_X10_months_1).trans rnx_ite
theorem k_X10_months_4 : lk 4 C_X10_months = some (.getfield 193, (4, 8, 0, 100026)) := by decide +kernel
theorem s_X10_months_4 {ca : Nat → List Value → tM → tO} {M : tM} {L : tL} {b : Nat} {S : List Value} : rn ca C_X10_months 4 L (.ref b :: S) M = if clsO b = some 4 then rn ca C_X10_months 7 L (fv M b 8 :: S) M else none := (rn_at k_X10_months_4).trans rnx_ite
theorem k_X10_months_7 : lk 7 C_X10_months = some (.ifCond .ne 10, (17, 0, 0, 0)) := by decide +kernel
theorem s_X10_months_7 {ca : Nat → List Value → tM → tO} {M : tM} {L : tL} {x : Int32} {S : List Value} : rn ca C_X10_months 7 L (.int x :: S) M = if ¬ x = iI 0 then rn ca C_X10_months 17 L S M else rn ca C_X10_months 10 L S M := (rn_at k_X10_months_7).trans rnx_ite
theorem k_X10_months_10 : lk 10 C_X10_months = some (.aload_n 0, (0, 0, 0, 0)) := by decide +kernel
theorem s_X10_months_10 {ca : Nat → List Value → tM → tO} {M : tM} {a1 a2 : Option Value} {x : Nat} {S : List Value} : rn ca C_X10_months 10 [some (.ref x), a1, a2] S M = rn ca C_X10_months 11 [some (.ref x), a1, a2] (.ref x :: S) M := (rn_at k_X10_months_10).trans rfl
theorem k_X10_months_11 : lk 11 C_X10_months = some (.bipush (-5), (0, 0, 0, 0)) := by decide +kernel
theorem s_X10_months_11 {ca : Nat → List Value → tM → tO} {M : tM} {L : tL} {S : List Value} : rn ca C_X10_months 11 L S M = rn ca C_X10_months 13 L (.int (iI (-5)) :: S) M := (rn_at k_X10_months_11).trans rfl
theorem k_X10_months_13 : lk 13 C_X10_months = some (.invokevirtual 101, (134, 1, 10, 175)) := by decide +kernel
theorem s_X10_months_13 {ca : Nat → List Value → tM → tO} {M : tM} {L : tL} {v1 : Value} {b : Nat} : rn ca C_X10_months 13 L [v1, .ref b] M = if clsO b = some 10 then rnk ca C_X10_months 16 L [] (ca m_X10_refuse [.ref b, v1] M) else none := (rn_at k_X10_months_13).trans rnx_ite
theorem k_X10_months_16 : lk 16 C_X10_months = some (.ireturn, (0, 0, 0, 0)) := by decide +kernel
theorem s_X10_months_16 {ca : Nat → List Value → tM → tO} {M : tM} {L : tL} {x : Int32} : rn ca C_X10_months 16 L [.int x] M = some (some (.int x), M) := (rn_at k_X10_months_16).trans rfl
theorem k_X10_months_17 : lk 17 C_X10_months = some (.iload_n 1, (0, 0, 0, 0)) := by decide +kernel
theorem s_X10_months_17 {ca : Nat → List Value → tM → tO} {M : tM} {a0 a2 : Option Value} {x : Int32} {S : List Value} : rn ca C_X10_months 17 [a0, some (.int x), a2] S M = rn ca C_X10_months 18 [a0, some (.int x), a2] (.int x :: S) M := (rn_at k_X10_months_17).trans rfl
theorem k_X10_months_18 : lk 18 C_X10_months = some (.iconst 1, (0, 0, 0, 0)) := by decide +kernel
theorem s_X10_months_18 {ca : Nat → List Value → tM → tO} {M : tM} {L : tL} {S : List Value} : rn ca C_X10_months 18 L S M = rn ca C_X10_months 19 L (.int (iI 1) :: S) M := (rn_at k_X10_months_18).trans rfl
theorem k_X10_months_19 : lk 19 C_X10_months = some (.if_icmp .lt 9, (28, 0, 0, 0)) := by decide +kernel
theorem s_X10_months_19 {ca : Nat → List Value → tM → tO} {M : tM} {L : tL} {x y : Int32} {S : List Value} : rn ca C_X10_months 19 L (.int y :: .int x :: S) M = if x < y then rn ca C_X10_months 28 L S M else rn ca C_X10_months 22 L S M := (rn_at k_X10_months_19).trans rnx_ite
theorem k_X10_months_22 : lk 22 C_X10_months = some (.iload_n 1, (0, 0, 0, 0)) := by decide +kernel
theorem s_X10_months_22 {ca : Nat → List Value → tM → tO} {M : tM} {a0 a2 : Option Value} {x : Int32} {S : List Value} : rn ca C_X10_months 22 [a0, some (.int x), a2] S M = rn ca C_X10_months 23 [a0, some (.int x), a2] (.int x :: S) M := (rn_at k_X10_months_22).trans rfl
theorem k_X10_months_23 : lk 23 C_X10_months = some (.bipush 60, (0, 0, 0, 0)) := by decide +kernel
theorem s_X10_months_23 {ca : Nat → List Value → tM → tO} {M : tM} {L : tL} {S : List Value} : rn ca C_X10_months 23 L S M = rn ca C_X10_months 25 L (.int (iI 60) :: S) M := (rn_at k_X10_months_23).trans rfl
theorem k_X10_months_25 : lk 25 C_X10_months = some (.if_icmp .le 10, (35, 0, 0, 0)) := by decide +kernel
theorem s_X10_months_25 {ca : Nat → List Value → tM → tO} {M : tM} {L : tL} {x y : Int32} {S : List Value} : rn ca C_X10_months 25 L (.int y :: .int x :: S) M = if x ≤ y then rn ca C_X10_months 35 L S M else rn ca C_X10_months 28 L S M := (rn_at k_X10_months_25).trans rnx_ite
theorem k_X10_months_28 : lk 28 C_X10_months = some (.aload_n 0, (0, 0, 0, 0)) := by decide +kernel
theorem s_X10_months_28 {ca : Nat → List Value → tM → tO} {M : tM} {a1 a2 : Option Value} {x : Nat} {S : List Value} : rn ca C_X10_months 28 [some (.ref x), a1, a2] S M = rn ca C_X10_months 29 [some (.ref x), a1, a2] (.ref x :: S) M := (rn_at k_X10_months_28).trans rfl
theorem k_X10_months_29 : lk 29 C_X10_months = some (.bipush (-6), (0, 0, 0, 0)) := by decide +kernel
theorem s_X10_months_29 {ca : Nat → List Value → tM → tO} {M : tM} {L : tL} {S : List Value} : rn ca C_X10_months 29 L S M = rn ca C_X10_months 31 L (.int (iI (-6)) :: S) M := (rn_at k_X10_months_29).trans rfl
theorem k_X10_months_31 : lk 31 C_X10_months = some (.invokevirtual 101, (134, 1, 10, 175)) := by decide +kernel
theorem s_X10_months_31 {ca : Nat → List Value → tM → tO} {M : tM} {L : tL} {v1 : Value} {b : Nat} : rn ca C_X10_months 31 L [v1, .ref b] M = if clsO b = some 10 then rnk ca C_X10_months 34 L [] (ca m_X10_refuse [.ref b, v1] M) else none := (rn_at k_X10_months_31).trans rnx_ite
theorem k_X10_months_34 : lk 34 C_X10_months = some (.ireturn, (0, 0, 0, 0)) := by decide +kernel
theorem s_X10_months_34 {ca : Nat → List Value → tM → tO} {M : tM} {L : tL} {x : Int32} : rn ca C_X10_months 34 L [.int x] M = some (some (.int x), M) := (rn_at k_X10_months_34).trans rfl
theorem k_X10_months_35 : lk 35 C_X10_months = some (.iconst 0, (0, 0, 0, 0)) := by decide +kernel
theorem s_X10_months_35 {ca : Nat → List Value → tM → tO} {M : tM} {L : tL} {S : List Value} : rn ca C_X10_months 35 L S M = rn ca C_X10_months 36 L (.int (iI 0) :: S) M := (rn_at k_X10_months_35).trans rfl
theorem k_X10_months_36 : lk 36 C_X10_months = some (.istore_n 2, (0, 0, 0, 0)) := by decide +kernel
theorem s_X10_months_36 {ca : Nat → List Value → tM → tO} {M : tM} {a0 a1 a2 : Option Value} {x : Int32} {S : List Value} : rn ca C_X10_months 36 [a0, a1, a2] (.int x :: S) M = rn ca C_X10_months 37 [a0, a1, some (.int x)] S M := (rn_at k_X10_months_36).trans rfl
theorem k_X10_months_37 : lk 37 C_X10_months = some (.iload_n 2, (0, 0, 0, 0)) := by decide +kernel
theorem s_X10_months_37 {ca : Nat → List Value → tM → tO} {M : tM} {a0 a1 : Option Value} {x : Int32} {S : List Value} : rn ca C_X10_months 37 [a0, a1, some (.int x)] S M = rn ca C_X10_months 38 [a0, a1, some (.int x)] (.int x :: S) M := (rn_at k_X10_months_37).trans rfl
theorem k_X10_months_38 : lk 38 C_X10_months = some (.iload_n 1, (0, 0, 0, 0)) := by decide +kernel
theorem s_X10_months_38 {ca : Nat → List Value → tM → tO} {M : tM} {a0 a2 : Option Value} {x : Int32} {S : List Value} : rn ca C_X10_months 38 [a0, some (.int x), a2] S M = rn ca C_X10_months 39 [a0, some (.int x), a2] (.int x :: S) M := (rn_at k_X10_months_38).trans rfl
theorem k_X10_months_39 : lk 39 C_X10_months = some (.if_icmp .ge 24, (63, 0, 0, 0)) := by decide +kernel
theorem s_X10_months_39 {ca : Nat → List Value → tM → tO} {M : tM} {L : tL} {x y : Int32} {S : List Value} : rn ca C_X10_months 39 L (.int y :: .int x :: S) M = if y ≤ x then rn ca C_X10_months 63 L S M else rn ca C_X10_months 42 L S M := (rn_at k_X10_months_39).trans rnx_ite
theorem k_X10_months_42 : lk 42 C_X10_months = some (.aload_n 0, (0, 0, 0, 0)) := by decide +kernel
theorem s_X10_months_42 {ca : Nat → List Value → tM → tO} {M : tM} {a1 a2 : Option Value} {x : Nat} {S : List Value} : rn ca C_X10_months 42 [some (.ref x), a1, a2] S M = rn ca C_X10_months 43 [some (.ref x), a1, a2] (.ref x :: S) M := (rn_at k_X10_months_42).trans rfl
theorem k_X10_months_43 : lk 43 C_X10_months = some (.getfield 74, (10, 10, 0, 50)) := by decide +kernel
theorem s_X10_months_43 {ca : Nat → List Value → tM → tO} {M : tM} {L : tL} {b : Nat} {S : List Value} : rn ca C_X10_months 43 L (.ref b :: S) M = if clsO b = some 10 then rn ca C_X10_months 46 L (fv M b 10 :: S) M else none := (rn_at k_X10_months_43).trans rnx_ite
theorem k_X10_months_46 : lk 46 C_X10_months = some (.aload_n 0, (0, 0, 0, 0)) := by decide +kernel
theorem s_X10_months_46 {ca : Nat → List Value → tM → tO} {M : tM} {a1 a2 : Option Value} {x : Nat} {S : List Value} : rn ca C_X10_months 46 [some (.ref x), a1, a2] S M = rn ca C_X10_months 47 [some (.ref x), a1, a2] (.ref x :: S) M := (rn_at k_X10_months_46).trans rfl
theorem k_X10_months_47 : lk 47 C_X10_months = some (.getfield 10, (10, 0, 0, 16)) := by decide +kernel
theorem s_X10_months_47 {ca : Nat → List Value → tM → tO} {M : tM} {L : tL} {b : Nat} {S : List Value} : rn ca C_X10_months 47 L (.ref b :: S) M = if clsO b = some 10 then rn ca C_X10_months 50 L (fv M b 0 :: S) M else none := (rn_at k_X10_months_47).trans rnx_ite
theorem k_X10_months_50 : lk 50 C_X10_months = some (.aload_n 0, (0, 0, 0, 0)) := by decide +kernel
theorem s_X10_months_50 {ca : Nat → List Value → tM → tO} {M : tM} {a1 a2 : Option Value} {x : Nat} {S : List Value} : rn ca C_X10_months 50 [some (.ref x), a1, a2] S M = rn ca C_X10_months 51 [some (.ref x), a1, a2] (.ref x :: S) M := (rn_at k_X10_months_50).trans rfl
theorem k_X10_months_51 : lk 51 C_X10_months = some (.getfield 32, (10, 4, 0, 26)) := by decide +kernel
theorem s_X10_months_51 {ca : Nat → List Value → tM → tO} {M : tM} {L : tL} {b : Nat} {S : List Value} : rn ca C_X10_months 51 L (.ref b :: S) M = if clsO b = some 10 then rn ca C_X10_months 54 L (fv M b 4 :: S) M else none := (rn_at k_X10_months_51).trans rnx_ite
theorem k_X10_months_54 : lk 54 C_X10_months = some (.invokevirtual 353, (8, 2, 1, 1136)) := by decide +kernel
theorem s_X10_months_54 {ca : Nat → List Value → tM → tO} {M : tM} {L : tL} {v1 v2 : Value} {b : Nat} : rn ca C_X10_months 54 L [v2, v1, .ref b] M = if clsO b = some 1 then rnk ca C_X10_months 57 L [] (ca m_X1_takeDrawnLeg [.ref b, v1, v2] M) else none := (rn_at k_X10_months_54).trans rnx_ite
theorem k_X10_months_57 : lk 57 C_X10_months = some (.iinc 2 1, (0, 0, 0, 0)) := by decide +kernel
theorem s_X10_months_57 {ca : Nat → List Value → tM → tO} {M : tM} {a0 a1 : Option Value} {x : Int32} {S : List Value} : rn ca C_X10_months 57 [a0, a1, some (.int x)] S M = rn ca C_X10_months 60 [a0, a1, some (.int (x + iI 1))] S M := (rn_at k_X10_months_57).trans rfl
theorem k_X10_months_60 : lk 60 C_X10_months = some (.goto (-23), (37, 0, 0, 0)) := by decide +kernel
theorem s_X10_months_60 {ca : Nat → List Value → tM → tO} {M : tM} {L : tL} {S : List Value} : rn ca C_X10_months 60 L S M = rn ca C_X10_months 37 L S M := (rn_at k_X10_months_60).trans rfl
theorem k_X10_months_63 : lk 63 C_X10_months = some (.aload_n 0, (0, 0, 0, 0)) := by decide +kernel
theorem s_X10_months_63 {ca : Nat → List Value → tM → tO} {M : tM} {a1 a2 : Option Value} {x : Nat} {S : List Value} : rn ca C_X10_months 63 [some (.ref x), a1, a2] S M = rn ca C_X10_months 64 [some (.ref x), a1, a2] (.ref x :: S) M := (rn_at k_X10_months_63).trans rfl
theorem k_X10_months_64 : lk 64 C_X10_months = some (.getfield 10, (10, 0, 0, 16)) := by decide +kernel
theorem s_X10_months_64 {ca : Nat → List Value → tM → tO} {M : tM} {L : tL} {b : Nat} {S : List Value} : rn ca C_X10_months 64 L (.ref b :: S) M = if clsO b = some 10 then rn ca C_X10_months 67 L (fv M b 0 :: S) M else none := (rn_at k_X10_months_64).trans rnx_ite
theorem k_X10_months_67 : lk 67 C_X10_months = some (.getfield 348, (4, 14, 0, 100036)) := by decide +kernel
theorem s_X10_months_67 {ca : Nat → List Value → tM → tO} {M : tM} {L : tL} {b : Nat} {S : List Value} : rn ca C_X10_months 67 L (.ref b :: S) M = if clsO b = some 4 then rn ca C_X10_months 70 L (fv M b 14 :: S) M else none := (rn_at k_X10_months_67).trans rnx_ite
theorem k_X10_months_70 : lk 70 C_X10_months = some (.ireturn, (0, 0, 0, 0)) := by decide +kernel
theorem s_X10_months_70 {ca : Nat → List Value → tM → tO} {M : tM} {L : tL} {x : Int32} : rn ca C_X10_months 70 L [.int x] M = some (some (.int x), M) := (rn_at k_X10_months_70).trans rfl
theorem k_X10_seed_0 : lk 0 C_X10_seed = some (.aload_n 0, (0, 0, 0, 0)) := by decide +kernel
theorem s_X10_seed_0 {ca : Nat → List Value → tM → tO} {M : tM} {a1 a2 : Option Value} {x : Nat} {S : List Value} : rn ca C_X10_seed 0 [some (.ref x), a1, a2] S M = rn ca C_X10_seed 1 [some (.ref x), a1, a2] (.ref x :: S) M := (rn_at k_X10_seed_0).trans rfl
theorem k_X10_seed_1 : lk 1 C_X10_seed = some (.getfield 10, (10, 0, 0, 16)) := by decide +kernel
theorem s_X10_seed_1 {ca : Nat → List Value → tM → tO} {M : tM} {L : tL} {b : Nat} {S : List Value} : rn ca C_X10_seed 1 L (.ref b :: S) M = if clsO b = some 10 then rn ca C_X10_seed 4 L (fv M b 0 :: S) M else none := (rn_at k_X10_seed_1).trans rnx_ite
theorem k_X10_seed_4 : lk 4 C_X10_seed = some (.getfield 356, (4, 15, 0, 100037)) := by decide +kernel
theorem s_X10_seed_4 {ca : Nat → List Value → tM → tO} {M : tM} {L : tL} {b : Nat} {S : List Value} : rn ca C_X10_seed 4 L (.ref b :: S) M = if clsO b = some 4 then rn ca C_X10_seed 7 L (fv M b 15 :: S) M else none := (rn_at k_X10_seed_4).trans rnx_ite
theorem k_X10_seed_7 : lk 7 C_X10_seed = some (.istore_n 2, (0, 0, 0, 0)) := by decide +kernel
theorem s_X10_seed_7 {ca : Nat → List Value → tM → tO} {M : tM} {a0 a1 a2 : Option Value} {x : Int32} {S : List Value} : rn ca C_X10_seed 7 [a0, a1, a2] (.int x :: S) M = rn ca C_X10_seed 8 [a0, a1, some (.int x)] S M := (rn_at k_X10_seed_7).trans rfl
theorem k_X10_seed_8 : lk 8 C_X10_seed = some (.aload_n 0, (0, 0, 0, 0)) := by decide +kernel
theorem s_X10_seed_8 {ca : Nat → List Value → tM → tO} {M : tM} {a1 a2 : Option Value} {x : Nat} {S : List Value} : rn ca C_X10_seed 8 [some (.ref x), a1, a2] S M = rn ca C_X10_seed 9 [some (.ref x), a1, a2] (.ref x :: S) M := (rn_at k_X10_seed_8).trans rfl
theorem k_X10_seed_9 : lk 9 C_X10_seed = some (.getfield 10, (10, 0, 0, 16)) := by decide +kernel
theorem s_X10_seed_9 {ca : Nat → List Value → tM → tO} {M : tM} {L : tL} {b : Nat} {S : List Value} : rn ca C_X10_seed 9 L (.ref b :: S) M = if clsO b = some 10 then rn ca C_X10_seed 12 L (fv M b 0 :: S) M else none := (rn_at k_X10_seed_9).trans rnx_ite
theorem k_X10_seed_12 : lk 12 C_X10_seed = some (.iload_n 1, (0, 0, 0, 0)) := by decide +kernel
theorem s_X10_seed_12 {ca : Nat → List Value → tM → tO} {M : tM} {a0 a2 : Option Value} {x : Int32} {S : List Value} : rn ca C_X10_seed 12 [a0, some (.int x), a2] S M = rn ca C_X10_seed 13 [a0, some (.int x), a2] (.int x :: S) M := (rn_at k_X10_seed_12).trans rfl
theorem k_X10_seed_13 : lk 13 C_X10_seed = some (.putfield 356, (4, 15, 0, 100037)) := by decide +kernel
theorem s_X10_seed_13 {ca : Nat → List Value → tM → tO} {M : tM} {L : tL} {b : Nat} {v : Int32} {S : List Value} : rn ca C_X10_seed 13 L (.int v :: .ref b :: S) M = if clsO b = some 4 then rn ca C_X10_seed 16 L S (sI M b 15 v) else none := (rn_at k_X10_seed_13).trans rnx_ite
theorem k_X10_seed_16 : lk 16 C_X10_seed = some (.iload_n 2, (0, 0, 0, 0)) := by decide +kernel
theorem s_X10_seed_16 {ca : Nat → List Value → tM → tO} {M : tM} {a0 a1 : Option Value} {x : Int32} {S : List Value} : rn ca C_X10_seed 16 [a0, a1, some (.int x)] S M = rn ca C_X10_seed 17 [a0, a1, some (.int x)] (.int x :: S) M := (rn_at k_X10_seed_16).trans rfl
theorem k_X10_seed_17 : lk 17 C_X10_seed = some (.ireturn, (0, 0, 0, 0)) := by decide +kernel
theorem s_X10_seed_17 {ca : Nat → List Value → tM → tO} {M : tM} {L : tL} {x : Int32} : rn ca C_X10_seed 17 L [.int x] M = some (some (.int x), M) := (rn_at k_X10_seed_17).trans rfl
theorem k_X10_act_0 : lk 0 C_X10_act = some (.aload_n 0, (0, 0, 0, 0)) := by decide +kernel
theorem s_X10_act_0 {ca : Nat → List Value → tM → tO} {M : tM} {a1 a2 a3 : Option Value} {x : Nat} {S : List Value} : rn ca C_X10_act 0 [some (.ref x), a1, a2, a3] S M = rn ca C_X10_act 1 [some (.ref x), a1, a2, a3] (.ref x :: S) M := (rn_at k_X10_act_0).trans rfl
theorem k_X10_act_1 : lk 1 C_X10_act = some (.getfield 81, (10, 11, 0, 54)) := by decide +kernel
theorem s_X10_act_1 {ca : Nat → List Value → tM → tO} {M : tM} {L : tL} {b : Nat} {S : List Value} : rn ca C_X10_act 1 L (.ref b :: S) M = if clsO b = some 10 then rn ca C_X10_act 4 L (fv M b 11 :: S) M else none := (rn_at k_X10_act_1).trans rnx_ite
theorem k_X10_act_4 : lk 4 C_X10_act = some (.invokevirtual 359, (37, 0, 5, 1166)) := by decide +kernel
theorem s_X10_act_4 {ca : Nat → List Value → tM → tO} {M : tM} {L : tL} {b : Nat} : rn ca C_X10_act 4 L [.ref b] M = if clsO b = some 5 then rnk ca C_X10_act 7 L [] (ca m_X5_forget [.ref b] M) else none := (rn_at k_X10_act_4).trans rnx_ite
theorem k_X10_act_7 : lk 7 C_X10_act = some (.aload_n 0, (0, 0, 0, 0)) := by decide +kernel
theorem s_X10_act_7 {ca : Nat → List Value → tM → tO} {M : tM} {a1 a2 a3 : Option Value} {x : Nat} {S : List Value} : rn ca C_X10_act 7 [some (.ref x), a1, a2, a3] S M = rn ca C_X10_act 8 [some (.ref x), a1, a2, a3] (.ref x :: S) M := (rn_at k_X10_act_7).trans rfl
theorem k_X10_act_8 : lk 8 C_X10_act = some (.getfield 10, (10, 0, 0, 16)) := by decide +kernel
theorem s_X10_act_8 {ca : Nat → List Value → tM → tO} {M : tM} {L : tL} {b : Nat} {S : List Value} : rn ca C_X10_act 8 L (.ref b :: S) M = if clsO b = some 10 then rn ca C_X10_act 11 L (fv M b 0 :: S) M else none := (rn_at k_X10_act_8).trans rnx_ite
theorem k_X10_act_11 : lk 11 C_X10_act = some (.iload_n 1, (0, 0, 0, 0)) := by decide +kernel
theorem s_X10_act_11 {ca : Nat → List Value → tM → tO} {M : tM} {a0 a2 a3 : Option Value} {x : Int32} {S : List Value} : rn ca C_X10_act 11 [a0, some (.int x), a2, a3] S M = rn ca C_X10_act 12 [a0, some (.int x), a2, a3] (.int x :: S) M := (rn_at k_X10_act_11).trans rfl
theorem k_X10_act_12 : lk 12 C_X10_act = some (.invokevirtual 135, (20, 1, 4, 290)) := by decide +kernel
theorem s_X10_act_12 {ca : Nat → List Value → tM → tO} {M : tM} {L : tL} {v1 : Value} {b : Nat} : rn ca C_X10_act 12 L [v1, .ref b] M = if clsO b = some 4 then rnk ca C_X10_act 15 L [] (ca m_X4_hasCapsule [.ref b, v1] M) else none := (rn_at k_X10_act_12).trans rnx_ite
theorem k_X10_act_15 : lk 15 C_X10_act = some (.ifCond .ne 5, (20, 0, 0, 0)) := by decide +kernel
theorem s_X10_act_15 {ca : Nat → List Value → tM → tO} {M : tM} {L : tL} {x : Int32} {S : List Value} : rn ca C_X10_act 15 L (.int x :: S) M = if ¬ x = iI 0 then rn ca C_X10_act 20 L S M else rn ca C_X10_act 18 L S M := (rn_at k_X10_act_15).trans rnx_ite
theorem k_X10_act_18 : lk 18 C_X10_act = some (.iconst 0, (0, 0, 0, 0)) := by decide +kernel
theorem s_X10_act_18 {ca : Nat → List Value → tM → tO} {M : tM} {L : tL} {S : List Value} : rn ca C_X10_act 18 L S M = rn ca C_X10_act 19 L (.int (iI 0) :: S) M := (rn_at k_X10_act_18).trans rfl
theorem k_X10_act_19 : lk 19 C_X10_act = some (.ireturn, (0, 0, 0, 0)) := by decide +kernel
theorem s_X10_act_19 {ca : Nat → List Value → tM → tO} {M : tM} {L : tL} {x : Int32} : rn ca C_X10_act 19 L [.int x] M = some (some (.int x), M) := (rn_at k_X10_act_19).trans rfl
theorem k_X10_act_20 : lk 20 C_X10_act = some (.aload_n 0, (0, 0, 0, 0)) := by decide +kernel
theorem s_X10_act_20 {ca : Nat → List Value → tM → tO} {M : tM} {a1 a2 a3 : Option Value} {x : Nat} {S : List Value} : rn ca C_X10_act 20 [some (.ref x), a1, a2, a3] S M = rn ca C_X10_act 21 [some (.ref x), a1, a2, a3] (.ref x :: S) M := (rn_at k_X10_act_20).trans rfl
theorem k_X10_act_21 : lk 21 C_X10_act = some (.getfield 81, (10, 11, 0, 54)) := by decide +kernel
theorem s_X10_act_21 {ca : Nat → List Value → tM → tO} {M : tM} {L : tL} {b : Nat} {S : List Value} : rn ca C_X10_act 21 L (.ref b :: S) M = if clsO b = some 10 then rn ca C_X10_act 24 L (fv M b 11 :: S) M else none := (rn_at k_X10_act_21).trans rnx_ite
theorem k_X10_act_24 : lk 24 C_X10_act = some (.aload_n 0, (0, 0, 0, 0)) := by decide +kernel
theorem s_X10_act_24 {ca : Nat → List Value → tM → tO} {M : tM} {a1 a2 a3 : Option Value} {x : Nat} {S : List Value} : rn ca C_X10_act 24 [some (.ref x), a1, a2, a3] S M = rn ca C_X10_act 25 [some (.ref x), a1, a2, a3] (.ref x :: S) M := (rn_at k_X10_act_24).trans rfl
theorem k_X10_act_25 : lk 25 C_X10_act = some (.getfield 10, (10, 0, 0, 16)) := by decide +kernel
theorem s_X10_act_25 {ca : Nat → List Value → tM → tO} {M : tM} {L : tL} {b : Nat} {S : List Value} : rn ca C_X10_act 25 L (.ref b :: S) M = if clsO b = some 10 then rn ca C_X10_act 28 L (fv M b 0 :: S) M else none := (rn_at k_X10_act_25).trans rnx_ite
theorem k_X10_act_28 : lk 28 C_X10_act = some (.getfield 145, (4, 9, 0, 100027)) := by decide +kernel
theorem s_X10_act_28 {ca : Nat → List Value → tM → tO} {M : tM} {L : tL} {b : Nat} {S : List Value} : rn ca C_X10_act 28 L (.ref b :: S) M = if clsO b = some 4 then rn ca C_X10_act 31 L (fv M b 9 :: S) M else none := (rn_at k_X10_act_28).trans rnx_ite
theorem k_X10_act_31 : lk 31 C_X10_act = some (.iload_n 1, (0, 0, 0, 0)) := by decide +kernel
theorem s_X10_act_31 {ca : Nat → List Value → tM → tO} {M : tM} {a0 a2 a3 : Option Value} {x : Int32} {S : List Value} : rn ca C_X10_act 31 [a0, some (.int x), a2, a3] S M = rn ca C_X10_act 32 [a0, some (.int x), a2, a3] (.int x :: S) M := (rn_at k_X10_act_31).trans rfl
theorem k_X10_act_32 : lk 32 C_X10_act = some (.iaload, (0, 0, 0, 0)) := by decide +kernel
theorem s_X10_act_32 {ca : Nat → List Value → tM → tO} {M : tM} {L : tL} {a : Nat} {i : Int32} {S : List Value} : rn ca C_X10_act 32 L (.int i :: .ref a :: S) M = if (akind a = 0 ∨ akind a = 6 ∨ akind a = 7) ∧ inb i (alen M a) then rn ca C_X10_act 33 L (.int (M.1 a i.toInt.toNat) :: S) M else none := (rn_at k_X10_act_32).trans rnx_ite
theorem k_X10_act_33 : lk 33 C_X10_act = some (.iload_n 1, (0, 0, 0, 0)) := by decide +kernel
theorem s_X10_act_33 {ca : Nat → List Value → tM → tO} {M : tM} {a0 a2 a3 : Option Value} {x : Int32} {S : List Value} : rn ca C_X10_act 33 [a0, some (.int x), a2, a3] S M = rn ca C_X10_act 34 [a0, some (.int x), a2, a3] (.int x :: S) M := (rn_at k_X10_act_33).trans rfl
theorem k_X10_act_34 : lk 34 C_X10_act = some (.aload_n 0, (0, 0, 0, 0)) := by decide +kernel
theorem s_X10_act_34 {ca : Nat → List Value → tM → tO} {M : tM} {a1 a2 a3 : Option Value} {x : Nat} {S : List Value} : rn ca C_X10_act 34 [some (.ref x), a1, a2, a3] S M = rn ca C_X10_act 35 [some (.ref x), a1, a2, a3] (.ref x :: S) M := (rn_at k_X10_act_34).trans rfl
theorem k_X10_act_35 : lk 35 C_X10_act = some (.getfield 10, (10, 0, 0, 16)) := by decide +kernel
theorem s_X10_act_35 {ca : Nat → List Value → tM → tO} {M : tM} {L : tL} {b : Nat} {S : List Value} : rn ca C_X10_act 35 L (.ref b :: S) M = if clsO b = some 10 then rn ca C_X10_act 38 L (fv M b 0 :: S) M else none := (rn_at k_X10_act_35).trans rnx_ite
theorem k_X10_act_38 : lk 38 C_X10_act = some (.getfield 155, (4, 10, 0, 100028)) := by decide +kernel
theorem s_X10_act_38 {ca : Nat → List Value → tM → tO} {M : tM} {L : tL} {b : Nat} {S : List Value} : rn ca C_X10_act 38 L (.ref b :: S) M = if clsO b = some 4 then rn ca C_X10_act 41 L (fv M b 10 :: S) M else none := (rn_at k_X10_act_38).trans rnx_ite
theorem k_X10_act_41 : lk 41 C_X10_act = some (.iload_n 1, (0, 0, 0, 0)) := by decide +kernel
theorem s_X10_act_41 {ca : Nat → List Value → tM → tO} {M : tM} {a0 a2 a3 : Option Value} {x : Int32} {S : List Value} : rn ca C_X10_act 41 [a0, some (.int x), a2, a3] S M = rn ca C_X10_act 42 [a0, some (.int x), a2, a3] (.int x :: S) M := (rn_at k_X10_act_41).trans rfl
theorem k_X10_act_42 : lk 42 C_X10_act = some (.iaload, (0, 0, 0, 0)) := by decide +kernel
theorem s_X10_act_42 {ca : Nat → List Value → tM → tO} {M : tM} {L : tL} {a : Nat} {i : Int32} {S : List Value} : rn ca C_X10_act 42 L (.int i :: .ref a :: S) M = if (akind a = 0 ∨ akind a = 6 ∨ akind a = 7) ∧ inb i (alen M a) then rn ca C_X10_act 43 L (.int (M.1 a i.toInt.toNat) :: S) M else none := (rn_at k_X10_act_42).trans rnx_ite
theorem k_X10_act_43 : lk 43 C_X10_act = some (.iload_n 2, (0, 0, 0, 0)) := by decide +kernel
theorem s_X10_act_43 {ca : Nat → List Value → tM → tO} {M : tM} {a0 a1 a3 : Option Value} {x : Int32} {S : List Value} : rn ca C_X10_act 43 [a0, a1, some (.int x), a3] S M = rn ca C_X10_act 44 [a0, a1, some (.int x), a3] (.int x :: S) M := (rn_at k_X10_act_43).trans rfl
theorem k_X10_act_44 : lk 44 C_X10_act = some (.iload_n 3, (0, 0, 0, 0)) := by decide +kernel
theorem s_X10_act_44 {ca : Nat → List Value → tM → tO} {M : tM} {a0 a1 a2 : Option Value} {x : Int32} {S : List Value} : rn ca C_X10_act 44 [a0, a1, a2, some (.int x)] S M = rn ca C_X10_act 45 [a0, a1, a2, some (.int x)] (.int x :: S) M := (rn_at k_X10_act_44).trans rfl
theorem k_X10_act_45 : lk 45 C_X10_act = some (.invokevirtual 362, (39, 5, 5, 1170)) := by decide +kernel
theorem s_X10_act_45 {ca : Nat → List Value → tM → tO} {M : tM} {L : tL} {v1 v2 v3 v4 v5 : Value} {b : Nat} : rn ca C_X10_act 45 L [v5, v4, v3, v2, v1, .ref b] M = if clsO b = some 5 then rnk ca C_X10_act 48 L [] (ca m_X5_run [.ref b, v1, v2, v3, v4, v5] M) else none := (rn_at k_X10_act_45).trans rnx_ite
theorem k_X10_act_48 : lk 48 C_X10_act = some (.ireturn, (0, 0, 0, 0)) := by decide +kernel
theorem s_X10_act_48 {ca : Nat → List Value → tM → tO} {M : tM} {L : tL} {x : Int32} : rn ca C_X10_act 48 L [.int x] M = some (some (.int x), M) := (rn_at k_X10_act_48).trans rfl
theorem k_X10_trace_0 : lk 0 C_X10_trace = some (.aload_n 0, (0, 0, 0, 0)) := by decide +kernel
theorem s_X10_trace_0 {ca : Nat → List Value → tM → tO} {M : tM} {a1 : Option Value} {x : Nat} {S : List Value} : rn ca C_X10_trace 0 [some (.ref x), a1] S M = rn ca C_X10_trace 1 [some (.ref x), a1] (.ref x :: S) M := (rn_at k_X10_trace_0).trans rfl
theorem k_X10_trace_1 : lk 1 C_X10_trace = some (.getfield 81, (10, 11, 0, 54)) := by decide +kernel
theorem s_X10_trace_1 {ca : Nat → List Value → tM → tO} {M : tM} {L : tL} {b : Nat} {S : List Value} : rn ca C_X10_trace 1 L (.ref b :: S) M = if clsO b = some 10 then rn ca C_X10_trace 4 L (fv M b 11 :: S) M else none := (rn_at k_X10_trace_1).trans rnx_ite
theorem k_X10_trace_4 : lk 4 C_X10_trace = some (.iload_n 1, (0, 0, 0, 0)) := by decide +kernel
theorem s_X10_trace_4 {ca : Nat → List Value → tM → tO} {M : tM} {a0 : Option Value} {x : Int32} {S : List Value} : rn ca C_X10_trace 4 [a0, some (.int x)] S M = rn ca C_X10_trace 5 [a0, some (.int x)] (.int x :: S) M := (rn_at k_X10_trace_4).trans rfl
theorem k_X10_trace_5 : lk 5 C_X10_trace = some (.invokevirtual 366, (38, 1, 5, 1218)) := by decide +kernel
theorem s_X10_trace_5 {ca : Nat → List Value → tM → tO} {M : tM} {L : tL} {v1 : Value} {b : Nat} : rn ca C_X10_trace 5 L [v1, .ref b] M = if clsO b = some 5 then rnk ca C_X10_trace 8 L [] (ca m_X5_bodyAt [.ref b, v1] M) else none := (rn_at k_X10_trace_5).trans rnx_ite
theorem k_X10_trace_8 : lk 8 C_X10_trace = some (.ireturn, (0, 0, 0, 0)) := by decide +kernel
theorem s_X10_trace_8 {ca : Nat → List Value → tM → tO} {M : tM} {L : tL} {x : Int32} : rn ca C_X10_trace 8 L [.int x] M = some (some (.int x), M) := (rn_at k_X10_trace_8).trans rfl
theorem k_X10_image_0 : lk 0 C_X10_image = some (.aload_n 0, (0, 0, 0, 0)) := by decide +kernel
theorem s_X10_image_0 {ca : Nat → List Value → tM → tO} {M : tM} {x : Nat} {S : List Value} : rn ca C_X10_image 0 [some (.ref x)] S M = rn ca C_X10_image 1 [some (.ref x)] (.ref x :: S) M := (rn_at k_X10_image_0).trans rfl
theorem k_X10_image_1 : lk 1 C_X10_image = some (.getfield 16, (10, 1, 0, 17)) := by decide +kernel
theorem s_X10_image_1 {ca : Nat → List Value → tM → tO} {M : tM} {L : tL} {b : Nat} {S : List Value} : rn ca C_X10_image 1 L (.ref b :: S) M = if clsO b = some 10 then rn ca C_X10_image 4 L (fv M b 1 :: S) M else none := (rn_at k_X10_image_1).trans rnx_ite
theorem k_X10_image_4 : lk 4 C_X10_image = some (.aload_n 0, (0, 0, 0, 0)) := by decide +kernel
theorem s_X10_image_4 {ca : Nat → List Value → tM → tO} {M : tM} {x : Nat} {S : List Value} : rn ca C_X10_image 4 [some (.ref x)] S M = rn ca C_X10_image 5 [some (.ref x)] (.ref x :: S) M := (rn_at k_X10_image_4).trans rfl
theorem k_X10_image_5 : lk 5 C_X10_image = some (.getfield 10, (10, 0, 0, 16)) := by decide +kernel
theorem s_X10_image_5 {ca : Nat → List Value → tM → tO} {M : tM} {L : tL} {b : Nat} {S : List Value} : rn ca C_X10_image 5 L (.ref b :: S) M = if clsO b = some 10 then rn ca C_X10_image 8 L (fv M b 0 :: S) M else none := (rn_at k_X10_image_5).trans rnx_ite
theorem k_X10_image_8 : lk 8 C_X10_image = some (.invokevirtual 224, (29, 1, 4, 481)) := by decide +kernel
theorem s_X10_image_8 {ca : Nat → List Value → tM → tO} {M : tM} {L : tL} {v1 : Value} {b : Nat} : rn ca C_X10_image 8 L [v1, .ref b] M = if clsO b = some 4 then rnk ca C_X10_image 11 L [] (ca m_X4_takeOver [.ref b, v1] M) else none := (rn_at k_X10_image_8).trans rnx_ite
theorem k_X10_image_11 : lk 11 C_X10_image = some (.aload_n 0, (0, 0, 0, 0)) := by decide +kernel
theorem s_X10_image_11 {ca : Nat → List Value → tM → tO} {M : tM} {x : Nat} {S : List Value} : rn ca C_X10_image 11 [some (.ref x)] S M = rn ca C_X10_image 12 [some (.ref x)] (.ref x :: S) M := (rn_at k_X10_image_11).trans rfl
theorem k_X10_image_12 : lk 12 C_X10_image = some (.iconst 1, (0, 0, 0, 0)) := by decide +kernel
theorem s_X10_image_12 {ca : Nat → List Value → tM → tO} {M : tM} {L : tL} {S : List Value} : rn ca C_X10_image 12 L S M = rn ca C_X10_image 13 L (.int (iI 1) :: S) M := (rn_at k_X10_image_12).trans rfl
theorem k_X10_image_13 : lk 13 C_X10_image = some (.putfield 89, (10, 13, 1, 57)) := by decide +kernel
theorem s_X10_image_13 {ca : Nat → List Value → tM → tO} {M : tM} {L : tL} {b : Nat} {v : Int32} {S : List Value} : rn ca C_X10_image 13 L (.int v :: .ref b :: S) M = if clsO b = some 10 then (if v = iI 0 ∨ v = iI 1 then rn ca C_X10_image 16 L S (sI M b 13 v) else none) else none := by rw [rn_at k_X10_image_13]; simp only [ta, rnx_ite]; rfl
theorem k_X10_image_16 : lk 16 C_X10_image = some (.aload_n 0, (0, 0, 0, 0)) := by decide +kernel
theorem s_X10_image_16 {ca : Nat → List Value → tM → tO} {M : tM} {x : Nat} {S : List Value} : rn ca C_X10_image 16 [some (.ref x)] S M = rn ca C_X10_image 17 [some (.ref x)] (.ref x :: S) M := (rn_at k_X10_image_16).trans rfl
theorem k_X10_image_17 : lk 17 C_X10_image = some (.getfield 16, (10, 1, 0, 17)) := by decide +kernel
theorem s_X10_image_17 {ca : Nat → List Value → tM → tO} {M : tM} {L : tL} {b : Nat} {S : List Value} : rn ca C_X10_image 17 L (.ref b :: S) M = if clsO b = some 10 then rn ca C_X10_image 20 L (fv M b 1 :: S) M else none := (rn_at k_X10_image_17).trans rnx_ite
theorem k_X10_image_20 : lk 20 C_X10_image = some (.getfield 193, (4, 8, 0, 100026)) := by decide +kernel
theorem s_X10_image_20 {ca : Nat → List Value → tM → tO} {M : tM} {L : tL} {b : Nat} {S : List Value} : rn ca C_X10_image 20 L (.ref b :: S) M = if clsO b = some 4 then rn ca C_X10_image 23 L (fv M b 8 :: S) M else none := (rn_at k_X10_image_20).trans rnx_ite
theorem k_X10_image_23 : lk 23 C_X10_image = some (.ireturn, (0, 0, 0, 0)) := by decide +kernel
theorem s_X10_image_23 {ca : Nat → List Value → tM → tO} {M : tM} {L : tL} {x : Int32} : rn ca C_X10_image 23 L [.int x] M = some (some (.int x), M) := (rn_at k_X10_image_23).trans rfl
theorem k_X10_restore_0 : lk 0 C_X10_restore = some (.aload_n 0, (0, 0, 0, 0)) := by decide +kernel
theorem s_X10_restore_0 {ca : Nat → List Value → tM → tO} {M : tM} {x : Nat} {S : List Value} : rn ca C_X10_restore 0 [some (.ref x)] S M = rn ca C_X10_restore 1 [some (.ref x)] (.ref x :: S) M := (rn_at k_X10_restore_0).trans rfl
theorem k_X10_restore_1 : lk 1 C_X10_restore = some (.getfield 89, (10, 13, 1, 57)) := by decide +kernel
theorem s_X10_restore_1 {ca : Nat → List Value → tM → tO} {M : tM} {L : tL} {b : Nat} {S : List Value} : rn ca C_X10_restore 1 L (.ref b :: S) M = if clsO b = some 10 then rn ca C_X10_restore 4 L (fv M b 13 :: S) M else none := (rn_at k_X10_restore_1).trans rnx_ite
theorem k_X10_restore_4 : lk 4 C_X10_restore = some (.ifCond .ne 10, (14, 0, 0, 0)) := by decide +kernel
theorem s_X10_restore_4 {ca : Nat → List Value → tM → tO} {M : tM} {L : tL} {x : Int32} {S : List Value} : rn ca C_X10_restore 4 L (.int x :: S) M = if ¬ x = iI 0 then rn ca C_X10_restore 14 L S M else rn ca C_X10_restore 7 L S M := (rn_at k_X10_restore_4).trans rnx_ite
theorem k_X10_restore_7 : lk 7 C_X10_restore = some (.aload_n 0, (0, 0, 0, 0)) := by decide +kernel
theorem s_X10_restore_7 {ca : Nat → List Value → tM → tO} {M : tM} {x : Nat} {S : List Value} : rn ca C_X10_restore 7 [some (.ref x)] S M = rn ca C_X10_restore 8 [some (.ref x)] (.ref x :: S) M := (rn_at k_X10_restore_7).trans rfl
theorem k_X10_restore_8 : lk 8 C_X10_restore = some (.bipush (-6), (0, 0, 0, 0)) := by decide +kernel
theorem s_X10_restore_8 {ca : Nat → List Value → tM → tO} {M : tM} {L : tL} {S : List Value} : rn ca C_X10_restore 8 L S M = rn ca C_X10_restore 10 L (.int (iI (-6)) :: S) M := (rn_at k_X10_restore_8).trans rfl
theorem k_X10_restore_10 : lk 10 C_X10_restore = some (.invokevirtual 101, (134, 1, 10, 175)) := by decide +kernel
theorem s_X10_restore_10 {ca : Nat → List Value → tM → tO} {M : tM} {L : tL} {v1 : Value} {b : Nat} : rn ca C_X10_restore 10 L [v1, .ref b] M = if clsO b = some 10 then rnk ca C_X10_restore 13 L [] (ca m_X10_refuse [.ref b, v1] M) else none := (rn_at k_X10_restore_10).trans rnx_ite
theorem k_X10_restore_13 : lk 13 C_X10_restore = some (.ireturn, (0, 0, 0, 0)) := by decide +kernel
theorem s_X10_restore_13 {ca : Nat → List Value → tM → tO} {M : tM} {L : tL} {x : Int32} : rn ca C_X10_restore 13 L [.int x] M = some (some (.int x), M) := (rn_at k_X10_restore_13).trans rfl
theorem k_X10_restore_14 : lk 14 C_X10_restore = some (.aload_n 0, (0, 0, 0, 0)) := by decide +kernel
theorem s_X10_restore_14 {ca : Nat → List Value → tM → tO} {M : tM} {x : Nat} {S : List Value} : rn ca C_X10_restore 14 [some (.ref x)] S M = rn ca C_X10_restore 15 [some (.ref x)] (.ref x :: S) M := (rn_at k_X10_restore_14).trans rfl
theorem k_X10_restore_15 : lk 15 C_X10_restore = some (.getfield 10, (10, 0, 0, 16)) := by decide +kernel
theorem s_X10_restore_15 {ca : Nat → List Value → tM → tO} {M : tM} {L : tL} {b : Nat} {S : List Value} : rn ca C_X10_restore 15 L (.ref b :: S) M = if clsO b = some 10 then rn ca C_X10_restore 18 L (fv M b 0 :: S) M else none := (rn_at k_X10_restore_15).trans rnx_ite
theorem k_X10_restore_18 : lk 18 C_X10_restore = some (.aload_n 0, (0, 0, 0, 0)) := by decide +kernel
theorem s_X10_restore_18 {ca : Nat → List Value → tM → tO} {M : tM} {x : Nat} {S : List Value} : rn ca C_X10_restore 18 [some (.ref x)] S M = rn ca C_X10_restore 19 [some (.ref x)] (.ref x :: S) M := (rn_at k_X10_restore_18).trans rfl
theorem k_X10_restore_19 : lk 19 C_X10_restore = some (.getfield 16, (10, 1, 0, 17)) := by decide +kernel
theorem s_X10_restore_19 {ca : Nat → List Value → tM → tO} {M : tM} {L : tL} {b : Nat} {S : List Value} : rn ca C_X10_restore 19 L (.ref b :: S) M = if clsO b = some 10 then rn ca C_X10_restore 22 L (fv M b 1 :: S) M else none := (rn_at k_X10_restore_19).trans rnx_ite
theorem k_X10_restore_22 : lk 22 C_X10_restore = some (.invokevirtual 224, (29, 1, 4, 481)) := by decide +kernel
theorem s_X10_restore_22 {ca : Nat → List Value → tM → tO} {M : tM} {L : tL} {v1 : Value} {b : Nat} : rn ca C_X10_restore 22 L [v1, .ref b] M = if clsO b = some 4 then rnk ca C_X10_restore 25 L [] (ca m_X4_takeOver [.ref b, v1] M) else none := (rn_at k_X10_restore_22).trans rnx_ite
theorem k_X10_restore_25 : lk 25 C_X10_restore = some (.aload_n 0, (0, 0, 0, 0)) := by decide +kernel
theorem s_X10_restore_25 {ca : Nat → List Value → tM → tO} {M : tM} {x : Nat} {S : List Value} : rn ca C_X10_restore 25 [some (.ref x)] S M = rn ca C_X10_restore 26 [some (.ref x)] (.ref x :: S) M := (rn_at k_X10_restore_25).trans rfl
theorem k_X10_restore_26 : lk 26 C_X10_restore = some (.getfield 25, (10, 3, 0, 22)) := by decide +kernel
theorem s_X10_restore_26 {ca : Nat → List Value → tM → tO} {M : tM} {L : tL} {b : Nat} {S : List Value} : rn ca C_X10_restore 26 L (.ref b :: S) M = if clsO b = some 10 then rn ca C_X10_restore 29 L (fv M b 3 :: S) M else none := (rn_at k_X10_restore_26).trans rnx_ite
theorem k_X10_restore_29 : lk 29 C_X10_restore = some (.aload_n 0, (0, 0, 0, 0)) := by decide +kernel
theorem s_X10_restore_29 {ca : Nat → List Value → tM → tO} {M : tM} {x : Nat} {S : List Value} : rn ca C_X10_restore 29 [some (.ref x)] S M = rn ca C_X10_restore 30 [some (.ref x)] (.ref x :: S) M := (rn_at k_X10_restore_29).trans rfl
theorem k_X10_restore_30 : lk 30 C_X10_restore = some (.getfield 10, (10, 0, 0, 16)) := by decide +kernel
theorem s_X10_restore_30 {ca : Nat → List Value → tM → tO} {M : tM} {L : tL} {b : Nat} {S : List Value} : rn ca C_X10_restore 30 L (.ref b :: S) M = if clsO b = some 10 then rn ca C_X10_restore 33 L (fv M b 0 :: S) M else none := (rn_at k_X10_restore_30).trans rnx_ite
theorem k_X10_restore_33 : lk 33 C_X10_restore = some (.getfield 193, (4, 8, 0, 100026)) := by decide +kernel
theorem s_X10_restore_33 {ca : Nat → List Value → tM → tO} {M : tM} {L : tL} {b : Nat} {S : List Value} : rn ca C_X10_restore 33 L (.ref b :: S) M = if clsO b = some 4 then rn ca C_X10_restore 36 L (fv M b 8 :: S) M else none := (rn_at k_X10_restore_33).trans rnx_ite
theorem k_X10_restore_36 : lk 36 C_X10_restore = some (.invokevirtual 369, (78, 1, 8, 1239)) := by decide +kernel
theorem s_X10_restore_36 {ca : Nat → List Value → tM → tO} {M : tM} {L : tL} {v1 : Value} {b : Nat} : rn ca C_X10_restore 36 L [v1, .ref b] M = if clsO b = some 8 then rnk ca C_X10_restore 39 L [] (ca m_X8_dropCapsulesFrom [.ref b, v1] M) else none := (rn_at k_X10_restore_36).trans rnx_ite
theorem k_X10_restore_39 : lk 39 C_X10_restore = some (.aload_n 0, (0, 0, 0, 0)) := by decide +kernel
theorem s_X10_restore_39 {ca : Nat → List Value → tM → tO} {M : tM} {x : Nat} {S : List Value} : rn ca C_X10_restore 39 [some (.ref x)] S M = rn ca C_X10_restore 40 [some (.ref x)] (.ref x :: S) M := (rn_at k_X10_restore_39).trans rfl
theorem k_X10_restore_40 : lk 40 C_X10_restore = some (.getfield 10, (10, 0, 0, 16)) := by decide +kernel
theorem s_X10_restore_40 {ca : Nat → List Value → tM → tO} {M : tM} {L : tL} {b : Nat} {S : List Value} : rn ca C_X10_restore 40 L (.ref b :: S) M = if clsO b = some 10 then rn ca C_X10_restore 43 L (fv M b 0 :: S) M else none := (rn_at k_X10_restore_40).trans rnx_ite
theorem k_X10_restore_43 : lk 43 C_X10_restore = some (.getfield 193, (4, 8, 0, 100026)) := by decide +kernel
theorem s_X10_restore_43 {ca : Nat → List Value → tM → tO} {M : tM} {L : tL} {b : Nat} {S : List Value} : rn ca C_X10_restore 43 L (.ref b :: S) M = if clsO b = some 4 then rn ca C_X10_restore 46 L (fv M b 8 :: S) M else none := (rn_at k_X10_restore_43).trans rnx_ite
theorem k_X10_restore_46 : lk 46 C_X10_restore = some (.ireturn, (0, 0, 0, 0)) := by decide +kernel
theorem s_X10_restore_46 {ca : Nat → List Value → tM → tO} {M : tM} {L : tL} {x : Int32} : rn ca C_X10_restore 46 L [.int x] M = some (some (.int x), M) := (rn_at k_X10_restore_46).trans rfl
theorem k_X10_status_0 : lk 0 C_X10_status = some (.iload_n 1, (0, 0, 0, 0)) := by decide +kernel
theorem s_X10_status_0 {ca : Nat → List Value → tM → tO} {M : tM} {a0 : Option Value} {x : Int32} {S : List Value} : rn ca C_X10_status 0 [a0, some (.int x)] S M = rn ca C_X10_status 1 [a0, some (.int x)] (.int x :: S) M := (rn_at k_X10_status_0).trans rfl
theorem k_X10_status_1 : lk 1 C_X10_status = some (.tableswitch 123 0 8 #[51, 59, 67, 75, 83, 91, 99, 107, 115], (0, 0, 0, 0)) := by decide +kernel
theorem s_X10_status_1 {ca : Nat → List Value → tM → tO} {M : tM} {L : tL} {x : Int32} {S : List Value} : rn ca C_X10_status 1 L (.int x :: S) M = if x = iI 0 then rn ca C_X10_status 52 L S M else if x = iI 1 then rn ca C_X10_status 60 L S M else if x = iI 2 then rn ca C_X10_status 68 L S M else if x = iI 3 then rn ca C_X10_status 76 L S M else if x = iI 4 then rn ca C_X10_status 84 L S M else if x = iI 5 then rn ca C_X10_status 92 L S M else if x = iI 6 then rn ca C_X10_status 100 L S M else if x = iI 7 then rn ca C_X10_status 108 L S M else if x = iI 8 then rn ca C_X10_status 116 L S M else rn ca C_X10_status 124 L S M := by rw [rn_at k_X10_status_1]; simp only [ta, tsw, lsw, rnx_ite]; rfl
theorem k_X10_status_52 : lk 52 C_X10_status = some (.aload_n 0, (0, 0, 0, 0)) := by decide +kernel
theorem s_X10_status_52 {ca : Nat → List Value → tM → tO} {M : tM} {a1 : Option Value} {x : Nat} {S : List Value} : rn ca C_X10_status 52 [some (.ref x), a1] S M = rn ca C_X10_status 53 [some (.ref x), a1] (.ref x :: S) M := (rn_at k_X10_status_52).trans rfl
theorem k_X10_status_53 : lk 53 C_X10_status = some (.getfield 10, (10, 0, 0, 16)) := by decide +kernel
theorem s_X10_status_53 {ca : Nat → List Value → tM → tO} {M : tM} {L : tL} {b : Nat} {S : List Value} : rn ca C_X10_status 53 L (.ref b :: S) M = if clsO b = some 10 then rn ca C_X10_status 56 L (fv M b 0 :: S) M else none := (rn_at k_X10_status_53).trans rnx_ite
theorem k_X10_status_56 : lk 56 C_X10_status = some (.getfield 171, (4, 0, 0, 100004)) := by decide +kernel
theorem s_X10_status_56 {ca : Nat → List Value → tM → tO} {M : tM} {L : tL} {b : Nat} {S : List Value} : rn ca C_X10_status 56 L (.ref b :: S) M = if clsO b = some 4 then rn ca C_X10_status 59 L (fv M b 0 :: S) M else none := (rn_at k_X10_status_56).trans rnx_ite
theorem k_X10_status_59 : lk 59 C_X10_status = some (.ireturn, (0, 0, 0, 0)) := by decide +kernel
theorem s_X10_status_59 {ca : Nat → List Value → tM → tO} {M : tM} {L : tL} {x : Int32} : rn ca C_X10_status 59 L [.int x] M = some (some (.int x), M) := (rn_at k_X10_status_59).trans rfl
theorem k_X10_status_60 : lk 60 C_X10_status = some (.aload_n 0, (0, 0, 0, 0)) := by decide +kernel
theorem s_X10_status_60 {ca : Nat → List Value → tM → tO} {M : tM} {a1 : Option Value} {x : Nat} {S : List Value} : rn ca C_X10_status 60 [some (.ref x), a1] S M = rn ca C_X10_status 61 [some (.ref x), a1] (.ref x :: S) M := (rn_at k_X10_status_60).trans rfl
theorem k_X10_status_61 : lk 61 C_X10_status = some (.getfield 10, (10, 0, 0, 16)) := by decide +kernel
theorem s_X10_status_61 {ca : Nat → List Value → tM → tO} {M : tM} {L : tL} {b : Nat} {S : List Value} : rn ca C_X10_status 61 L (.ref b :: S) M = if clsO b = some 10 then rn ca C_X10_status 64 L (fv M b 0 :: S) M else none := (rn_at k_X10_status_61).trans rnx_ite
theorem k_X10_status_64 : lk 64 C_X10_status = some (.getfield 158, (4, 2, 0, 100010)) := by decide +kernel
theorem s_X10_status_64 {ca : Nat → List Value → tM → tO} {M : tM} {L : tL} {b : Nat} {S : List Value} : rn ca C_X10_status 64 L (.ref b :: S) M = if clsO b = some 4 then rn ca C_X10_status 67 L (fv M b 2 :: S) M else none := (rn_at k_X10_status_64).trans rnx_ite
theorem k_X10_status_67 : lk 67 C_X10_status = some (.ireturn, (0, 0, 0, 0)) := by decide +kernel
theorem s_X10_status_67 {ca : Nat → List Value → tM → tO} {M : tM} {L : tL} {x : Int32} : rn ca C_X10_status 67 L [.int x] M = some (some (.int x), M) := (rn_at k_X10_status_67).trans rfl
theorem k_X10_status_68 : lk 68 C_X10_status = some (.aload_n 0, (0, 0, 0, 0)) := by decide +kernel
theorem s_X10_status_68 {ca : Nat → List Value → tM → tO} {M : tM} {a1 : Option Value} {x : Nat} {S : List Value} : rn ca C_X10_status 68 [some (.ref x), a1] S M = rn ca C_X10_status 69 [some (.ref x), a1] (.ref x :: S) M := (rn_at k_X10_status_68).trans rfl
theorem k_X10_status_69 : lk 69 C_X10_status = some (.getfield 10, (10, 0, 0, 16)) := by decide +kernel
theorem s_X10_status_69 {ca : Nat → List Value → tM → tO} {M : tM} {L : tL} {b : Nat} {S : List Value} : rn ca C_X10_status 69 L (.ref b :: S) M = if clsO b = some 10 then rn ca C_X10_status 72 L (fv M b 0 :: S) M else none := (rn_at k_X10_status_69).trans rnx_ite
theorem k_X10_status_72 : lk 72 C_X10_status = some (.getfield 193, (4, 8, 0, 100026)) := by decide +kernel
theorem s_X10_status_72 {ca : Nat → List Value → tM → tO} {M : tM} {L : tL} {b : Nat} {S : List Value} : rn ca C_X10_status 72 L (.ref b :: S) M = if clsO b = some 4 then rn ca C_X10_status 75 L (fv M b 8 :: S) M else none := (rn_at k_X10_status_72).trans rnx_ite
theorem k_X10_status_75 : lk 75 C_X10_status = some (.ireturn, (0, 0, 0, 0)) := by decide +kernel
theorem s_X10_status_75 {ca : Nat → List Value → tM → tO} {M : tM} {L : tL} {x : Int32} : rn ca C_X10_status 75 L [.int x] M = some (some (.int x), M) := (rn_at k_X10_status_75).trans rfl
theorem k_X10_status_76 : lk 76 C_X10_status = some (.aload_n 0, (0, 0, 0, 0)) := by decide +kernel
theorem s_X10_status_76 {ca : Nat → List Value → tM → tO} {M : tM} {a1 : Option Value} {x : Nat} {S : List Value} : rn ca C_X10_status 76 [some (.ref x), a1] S M = rn ca C_X10_status 77 [some (.ref x), a1] (.ref x :: S) M := (rn_at k_X10_status_76).trans rfl
theorem k_X10_status_77 : lk 77 C_X10_status = some (.getfield 10, (10, 0, 0, 16)) := by decide +kernel
theorem s_X10_status_77 {ca : Nat → List Value → tM → tO} {M : tM} {L : tL} {b : Nat} {S : List Value} : rn ca C_X10_status 77 L (.ref b :: S) M = if clsO b = some 10 then rn ca C_X10_status 80 L (fv M b 0 :: S) M else none := (rn_at k_X10_status_77).trans rnx_ite
theorem k_X10_status_80 : lk 80 C_X10_status = some (.getfield 206, (4, 13, 0, 100034)) := by decide +kernel
theorem s_X10_status_80 {ca : Nat → List Value → tM → tO} {M : tM} {L : tL} {b : Nat} {S : List Value} : rn ca C_X10_status 80 L (.ref b :: S) M = if clsO b = some 4 then rn ca C_X10_status 83 L (fv M b 13 :: S) M else none := (rn_at k_X10_status_80).trans rnx_ite
theorem k_X10_status_83 : lk 83 C_X10_status = some (.ireturn, (0, 0, 0, 0)) := by decide +kernel
theorem s_X10_status_83 {ca : Nat → List Value → tM → tO} {M : tM} {L : tL} {x : Int32} : rn ca C_X10_status 83 L [.int x] M = some (some (.int x), M) := (rn_at k_X10_status_83).trans rfl
theorem k_X10_status_84 : lk 84 C_X10_status = some (.aload_n 0, (0, 0, 0, 0)) := by decide +kernel
theorem s_X10_status_84 {ca : Nat → List Value → tM → tO} {M : tM} {a1 : Option Value} {x : Nat} {S : List Value} : rn ca C_X10_status 84 [some (.ref x), a1] S M = rn ca C_X10_status 85 [some (.ref x), a1] (.ref x :: S) M := (rn_at k_X10_status_84).trans rfl
theorem k_X10_status_85 : lk 85 C_X10_status = some (.getfield 10, (10, 0, 0, 16)) := by decide +kernel
theorem s_X10_status_85 {ca : Nat → List Value → tM → tO} {M : tM} {L : tL} {b : Nat} {S : List Value} : rn ca C_X10_status 85 L (.ref b :: S) M = if clsO b = some 10 then rn ca C_X10_status 88 L (fv M b 0 :: S) M else none := (rn_at k_X10_status_85).trans rnx_ite
theorem k_X10_status_88 : lk 88 C_X10_status = some (.getfield 348, (4, 14, 0, 100036)) := by decide +kernel
theorem s_X10_status_88 {ca : Nat → List Value → tM → tO} {M : tM} {L : tL} {b : Nat} {S : List Value} : rn ca C_X10_status 88 L (.ref b :: S) M = if clsO b = some 4 then rn ca C_X10_status 91 L (fv M b 14 :: S) M else none := (rn_at k_X10_status_88).trans rnx_ite
theorem k_X10_status_91 : lk 91 C_X10_status = some (.ireturn, (0, 0, 0, 0)) := by decide +kernel
theorem s_X10_status_91 {ca : Nat → List Value → tM → tO} {M : tM} {L : tL} {x : Int32} : rn ca C_X10_status 91 L [.int x] M = some (some (.int x), M) := (rn_at k_X10_status_91).trans rfl
theorem k_X10_status_92 : lk 92 C_X10_status = some (.aload_n 0, (0, 0, 0, 0)) := by decide +kernel
theorem s_X10_status_92 {ca : Nat → List Value → tM → tO} {M : tM} {a1 : Option Value} {x : Nat} {S : List Value} : rn ca C_X10_status 92 [some (.ref x), a1] S M = rn ca C_X10_status 93 [some (.ref x), a1] (.ref x :: S) M := (rn_at k_X10_status_92).trans rfl
theorem k_X10_status_93 : lk 93 C_X10_status = some (.getfield 10, (10, 0, 0, 16)) := by decide +kernel
theorem s_X10_status_93 {ca : Nat → List Value → tM → tO} {M : tM} {L : tL} {b : Nat} {S : List Value} : rn ca C_X10_status 93 L (.ref b :: S) M = if clsO b = some 10 then rn ca C_X10_status 96 L (fv M b 0 :: S) M else none := (rn_at k_X10_status_93).trans rnx_ite
theorem k_X10_status_96 : lk 96 C_X10_status = some (.invokevirtual 373, (35, 0, 4, 1251)) := by decide +kernel
theorem s_X10_status_96 {ca : Nat → List Value → tM → tO} {M : tM} {L : tL} {b : Nat} : rn ca C_X10_status 96 L [.ref b] M = if clsO b = some 4 then rnk ca C_X10_status 99 L [] (ca m_X4_signedTogether [.ref b] M) else none := (rn_at k_X10_status_96).trans rnx_ite
theorem k_X10_status_99 : lk 99 C_X10_status = some (.ireturn, (0, 0, 0, 0)) := by decide +kernel
theorem s_X10_status_99 {ca : Nat → List Value → tM → tO} {M : tM} {L : tL} {x : Int32} : rn ca C_X10_status 99 L [.int x] M = some (some (.int x), M) := (rn_at k_X10_status_99).trans rfl
theorem k_X10_status_100 : lk 100 C_X10_status = some (.aload_n 0, (0, 0, 0, 0)) := by decide +kernel
theorem s_X10_status_100 {ca : Nat → List Value → tM → tO} {M : tM} {a1 : Option Value} {x : Nat} {S : List Value} : rn ca C_X10_status 100 [some (.ref x), a1] S M = rn ca C_X10_status 101 [some (.ref x), a1] (.ref x :: S) M := (rn_at k_X10_status_100).trans rfl
theorem k_X10_status_101 : lk 101 C_X10_status = some (.getfield 10, (10, 0, 0, 16)) := by decide +kernel
theorem s_X10_status_101 {ca : Nat → List Value → tM → tO} {M : tM} {L : tL} {b : Nat} {S : List Value} : rn ca C_X10_status 101 L (.ref b :: S) M = if clsO b = some 10 then rn ca C_X10_status 104 L (fv M b 0 :: S) M else none := (rn_at k_X10_status_101).trans rnx_ite
theorem k_X10_status_104 : lk 104 C_X10_status = some (.invokevirtual 377, (36, 0, 4, 1255)) := by decide +kernel
theorem s_X10_status_104 {ca : Nat → List Value → tM → tO} {M : tM} {L : tL} {b : Nat} : rn ca C_X10_status 104 L [.ref b] M = if clsO b = some 4 then rnk ca C_X10_status 107 L [] (ca m_X4_shutTubes [.ref b] M) else none := (rn_at k_X10_status_104).trans rnx_ite
theorem k_X10_status_107 : lk 107 C_X10_status = some (.ireturn, (0, 0, 0, 0)) := by decide +kernel
theorem s_X10_status_107 {ca : Nat → List Value → tM → tO} {M : tM} {L : tL} {x : Int32} : rn ca C_X10_status 107 L [.int x] M = some (some (.int x), M) := (rn_at k_X10_status_107).trans rfl
theorem k_X10_status_108 : lk 108 C_X10_status = some (.aload_n 0, (0, 0, 0, 0)) := by decide +kernel
theorem s_X10_status_108 {ca : Nat → List Value → tM → tO} {M : tM} {a1 : Option Value} {x : Nat} {S : List Value} : rn ca C_X10_status 108 [some (.ref x), a1] S M = rn ca C_X10_status 109 [some (.ref x), a1] (.ref x :: S) M := (rn_at k_X10_status_108).trans rfl
theorem k_X10_status_109 : lk 109 C_X10_status = some (.getfield 10, (10, 0, 0, 16)) := by decide +kernel
theorem s_X10_status_109 {ca : Nat → List Value → tM → tO} {M : tM} {L : tL} {b : Nat} {S : List Value} : rn ca C_X10_status 109 L (.ref b :: S) M = if clsO b = some 10 then rn ca C_X10_status 112 L (fv M b 0 :: S) M else none := (rn_at k_X10_status_109).trans rnx_ite
theorem k_X10_status_112 : lk 112 C_X10_status = some (.getfield 356, (4, 15, 0, 100037)) := by decide +kernel
theorem s_X10_status_112 {ca : Nat → List Value → tM → tO} {M : tM} {L : tL} {b : Nat} {S : List Value} : rn ca C_X10_status 112 L (.ref b :: S) M = if clsO b = some 4 then rn ca C_X10_status 115 L (fv M b 15 :: S) M else none := (rn_at k_X10_status_112).trans rnx_ite
theorem k_X10_status_115 : lk 115 C_X10_status = some (.ireturn, (0, 0, 0, 0)) := by decide +kernel
theorem s_X10_status_115 {ca : Nat → List Value → tM → tO} {M : tM} {L : tL} {x : Int32} : rn ca C_X10_status 115 L [.int x] M = some (some (.int x), M) := (rn_at k_X10_status_115).trans rfl
theorem k_X10_status_116 : lk 116 C_X10_status = some (.aload_n 0, (0, 0, 0, 0)) := by decide +kernel
theorem s_X10_status_116 {ca : Nat → List Value → tM → tO} {M : tM} {a1 : Option Value} {x : Nat} {S : List Value} : rn ca C_X10_status 116 [some (.ref x), a1] S M = rn ca C_X10_status 117 [some (.ref x), a1] (.ref x :: S) M := (rn_at k_X10_status_116).trans rfl
theorem k_X10_status_117 : lk 117 C_X10_status = some (.getfield 81, (10, 11, 0, 54)) := by decide +kernel
theorem s_X10_status_117 {ca : Nat → List Value → tM → tO} {M : tM} {L : tL} {b : Nat} {S : List Value} : rn ca C_X10_status 117 L (.ref b :: S) M = if clsO b = some 10 then rn ca C_X10_status 120 L (fv M b 11 :: S) M else none := (rn_at k_X10_status_117).trans rnx_ite
theorem k_X10_status_120 : lk 120 C_X10_status = some (.getfield 380, (5, 1, 0, 100045)) := by decide +kernel
theorem s_X10_status_120 {ca : Nat → List Value → tM → tO} {M : tM} {L : tL} {b : Nat} {S : List Value} : rn ca C_X10_status 120 L (.ref b :: S) M = if clsO b = some 5 then rn ca C_X10_status 123 L (fv M b 1 :: S) M else none := (rn_at k_X10_status_120).trans rnx_ite
theorem k_X10_status_123 : lk 123 C_X10_status = some (.ireturn, (0, 0, 0, 0)) := by decide +kernel
theorem s_X10_status_123 {ca : Nat → List Value → tM → tO} {M : tM} {L : tL} {x : Int32} : rn ca C_X10_status 123 L [.int x] M = some (some (.int x), M) := (rn_at k_X10_status_123).trans rfl
theorem k_X10_status_124 : lk 124 C_X10_status = some (.iload_n 1, (0, 0, 0, 0)) := by decide +kernel
theorem s_X10_status_124 {ca : Nat → List Value → tM → tO} {M : tM} {a0 : Option Value} {x : Int32} {S : List Value} : rn ca C_X10_status 124 [a0, some (.int x)] S M = rn ca C_X10_status 125 [a0, some (.int x)] (.int x :: S) M := (rn_at k_X10_status_124).trans rfl
theorem k_X10_status_125 : lk 125 C_X10_status = some (.bipush 10, (0, 0, 0, 0)) := by decide +kernel
theorem s_X10_status_125 {ca : Nat → List Value → tM → tO} {M : tM} {L : tL} {S : List Value} : rn ca C_X10_status 125 L S M = rn ca C_X10_status 127 L (.int (iI 10) :: S) M := (rn_at k_X10_status_125).trans rfl
theorem k_X10_status_127 : lk 127 C_X10_status = some (.if_icmp .le 21, (148, 0, 0, 0)) := by decide +kernel
theorem s_X10_status_127 {ca : Nat → List Value → tM → tO} {M : tM} {L : tL} {x y : Int32} {S : List Value} : rn ca C_X10_status 127 L (.int y :: .int x :: S) M = if x ≤ y then rn ca C_X10_status 148 L S M else rn ca C_X10_status 130 L S M := (rn_at k_X10_status_127).trans rnx_ite
theorem k_X10_status_130 : lk 130 C_X10_status = some (.iload_n 1, (0, 0, 0, 0)) := by decide +kernel
theorem s_X10_status_130 {ca : Nat → List Value → tM → tO} {M : tM} {a0 : Option Value} {x : Int32} {S : List Value} : rn ca C_X10_status 130 [a0, some (.int x)] S M = rn ca C_X10_status 131 [a0, some (.int x)] (.int x :: S) M := (rn_at k_X10_status_130).trans rfl
theorem k_X10_status_131 : lk 131 C_X10_status = some (.bipush 17, (0, 0, 0, 0)) := by decide +kernel
theorem s_X10_status_131 {ca : Nat → List Value → tM → tO} {M : tM} {L : tL} {S : List Value} : rn ca C_X10_status 131 L S M = rn ca C_X10_status 133 L (.int (iI 17) :: S) M := (rn_at k_X10_status_131).trans rfl
theorem k_X10_status_133 : lk 133 C_X10_status = some (.if_icmp .gt 15, (148, 0, 0, 0)) := by decide +kernel
theorem s_X10_status_133 {ca : Nat → List Value → tM → tO} {M : tM} {L : tL} {x y : Int32} {S : List Value} : rn ca C_X10_status 133 L (.int y :: .int x :: S) M = if y < x then rn ca C_X10_status 148 L S M else rn ca C_X10_status 136 L S M := (rn_at k_X10_status_133).trans rnx_ite
theorem k_X10_status_136 : lk 136 C_X10_status = some (.aload_n 0, (0, 0, 0, 0)) := by decide +kernel
theorem s_X10_status_136 {ca : Nat → List Value → tM → tO} {M : tM} {a1 : Option Value} {x : Nat} {S : List Value} : rn ca C_X10_status 136 [some (.ref x), a1] S M = rn ca C_X10_status 137 [some (.ref x), a1] (.ref x :: S) M := (rn_at k_X10_status_136).trans rfl
theorem k_X10_status_137 : lk 137 C_X10_status = some (.getfield 85, (10, 12, 0, 56)) := by decide +kernel
theorem s_X10_status_137 {ca : Nat → List Value → tM → tO} {M : tM} {L : tL} {b : Nat} {S : List Value} : rn ca C_X10_status 137 L (.ref b :: S) M = if clsO b = some 10 then rn ca C_X10_status 140 L (fv M b 12 :: S) M else none := (rn_at k_X10_status_137).trans rnx_ite
theorem k_X10_status_140 : lk 140 C_X10_status = some (.iload_n 1, (0, 0, 0, 0)) := by decide +kernel
theorem s_X10_status_140 {ca : Nat → List Value → tM → tO} {M : tM} {a0 : Option Value} {x : Int32} {S : List Value} : rn ca C_X10_status 140 [a0, some (.int x)] S M = rn ca C_X10_status 141 [a0, some (.int x)] (.int x :: S) M := (rn_at k_X10_status_140).trans rfl
theorem k_X10_status_141 : lk 141 C_X10_status = some (.bipush 10, (0, 0, 0, 0)) := by decide +kernel
theorem s_X10_status_141 {ca : Nat → List Value → tM → tO} {M : tM} {L : tL} {S : List Value} : rn ca C_X10_status 141 L S M = rn ca C_X10_status 143 L (.int (iI 10) :: S) M := (rn_at k_X10_status_141).trans rfl
theorem k_X10_status_143 : lk 143 C_X10_status = some (.isub, (0, 0, 0, 0)) := by decide +kernel
theorem s_X10_status_143 {ca : Nat → List Value → tM → tO} {M : tM} {L : tL} {x y : Int32} {S : List Value} : rn ca C_X10_status 143 L (.int y :: .int x :: S) M = rn ca C_X10_status 144 L (.int (x - y) :: S) M := (rn_at k_X10_status_143).trans rfl
theorem k_X10_status_144 : lk 144 C_X10_status = some (.iaload, (0, 0, 0, 0)) := by decide +kernel
theorem s_X10_status_144 {ca : Nat → List Value → tM → tO} {M : tM} {L : tL} {a : Nat} {i : Int32} {S : List Value} : rn ca C_X10_status 144 L (.int i :: .ref a :: S) M = if (akind a = 0 ∨ akind a = 6 ∨ akind a = 7) ∧ inb i (alen M a) then rn ca C_X10_status 145 L (.int (M.1 a i.toInt.toNat) :: S) M else none := (rn_at k_X10_status_144).trans rnx_ite
theorem k_X10_status_145 : lk 145 C_X10_status = some (.goto 4, (149, 0, 0, 0)) := by decide +kernel
theorem s_X10_status_145 {ca : Nat → List Value → tM → tO} {M : tM} {L : tL} {S : List Value} : rn ca C_X10_status 145 L S M = rn ca C_X10_status 149 L S M := (rn_at k_X10_status_145).trans rfl
theorem k_X10_status_148 : lk 148 C_X10_status = some (.iconst (-1), (0, 0, 0, 0)) := by decide +kernel
theorem s_X10_status_148 {ca : Nat → List Value → tM → tO} {M : tM} {L : tL} {S : List Value} : rn ca C_X10_status 148 L S M = rn ca C_X10_status 149 L (.int (iI (-1)) :: S) M := (rn_at k_X10_status_148).trans rfl
theorem k_X10_status_149 : lk 149 C_X10_status = some (.ireturn, (0, 0, 0, 0)) := by decide +kernel
theorem s_X10_status_149 {ca : Nat → List Value → tM → tO} {M : tM} {L : tL} {x : Int32} : rn ca C_X10_status 149 L [.int x] M = some (some (.int x), M) := (rn_at k_X10_status_149).trans rfl
theorem k_X10_refuse_0 : lk 0 C_X10_refuse = some (.iload_n 1, (0, 0, 0, 0)) := by decide +kernel
theorem s_X10_refuse_0 {ca : Nat → List Value → tM → tO} {M : tM} {a0 a2 : Option Value} {x : Int32} {S : List Value} : rn ca C_X10_refuse 0 [a0, some (.int x), a2] S M = rn ca C_X10_refuse 1 [a0, some (.int x), a2] (.int x :: S) M := (rn_at k_X10_refuse_0).trans rfl
theorem k_X10_refuse_1 : lk 1 C_X10_refuse = some (.bipush (-10), (0, 0, 0, 0)) := by decide +kernel
theorem s_X10_refuse_1 {ca : Nat → List Value → tM → tO} {M : tM} {L : tL} {S : List Value} : rn ca C_X10_refuse 1 L S M = rn ca C_X10_refuse 3 L (.int (iI (-10)) :: S) M := (rn_at k_X10_refuse_1).trans rfl
theorem k_X10_refuse_3 : lk 3 C_X10_refuse = some (.if_icmp .ge 10, (13, 0, 0, 0)) := by decide +kernel
theorem s_X10_refuse_3 {ca : Nat → List Value → tM → tO} {M : tM} {L : tL} {x y : Int32} {S : List Value} : rn ca C_X10_refuse 3 L (.int y :: .int x :: S) M = if y ≤ x then rn ca C_X10_refuse 13 L S M else rn ca C_X10_refuse 6 L S M := (rn_at k_X10_refuse_3).trans rnx_ite
theorem k_X10_refuse_6 : lk 6 C_X10_refuse = some (.bipush (-10), (0, 0, 0, 0)) := by decide +kernel
theorem s_X10_refuse_6 {ca : Nat → List Value → tM → tO} {M : tM} {L : tL} {S : List Value} : rn ca C_X10_refuse 6 L S M = rn ca C_X10_refuse 8 L (.int (iI (-10)) :: S) M := (rn_at k_X10_refuse_6).trans rfl
theorem k_X10_refuse_8 : lk 8 C_X10_refuse = some (.iload_n 1, (0, 0, 0, 0)) := by decide +kernel
theorem s_X10_refuse_8 {ca : Nat → List Value → tM → tO} {M : tM} {a0 a2 : Option Value} {x : Int32} {S : List Value} : rn ca C_X10_refuse 8 [a0, some (.int x), a2] S M = rn ca C_X10_refuse 9 [a0, some (.int x), a2] (.int x :: S) M := (rn_at k_X10_refuse_8).trans rfl
theorem k_X10_refuse_9 : lk 9 C_X10_refuse = some (.isub, (0, 0, 0, 0)) := by decide +kernel
theorem s_X10_refuse_9 {ca : Nat → List Value → tM → tO} {M : tM} {L : tL} {x y : Int32} {S : List Value} : rn ca C_X10_refuse 9 L (.int y :: .int x :: S) M = rn ca C_X10_refuse 10 L (.int (x - y) :: S) M := (rn_at k_X10_refuse_9).trans rfl
theorem k_X10_refuse_10 : lk 10 C_X10_refuse = some (.goto 5, (15, 0, 0, 0)) := by decide +kernel
theorem s_X10_refuse_10 {ca : Nat → List Value → tM → tO} {M : tM} {L : tL} {S : List Value} : rn ca C_X10_refuse 10 L S M = rn ca C_X10_refuse 15 L S M := (rn_at k_X10_refuse_10).trans rfl
theorem k_X10_refuse_13 : lk 13 C_X10_refuse = some (.iload_n 1, (0, 0, 0, 0)) := by decide +kernel
theorem s_X10_refuse_13 {ca : Nat → List Value → tM → tO} {M : tM} {a0 a2 : Option Value} {x : Int32} {S : List Value} : rn ca C_X10_refuse 13 [a0, some (.int x), a2] S M = rn ca C_X10_refuse 14 [a0, some (.int x), a2] (.int x :: S) M := (rn_at k_X10_refuse_13).trans rfl
theorem k_X10_refuse_14 : lk 14 C_X10_refuse = some (.ineg, (0, 0, 0, 0)) := by decide +kernel
theorem s_X10_refuse_14 {ca : Nat → List Value → tM → tO} {M : tM} {L : tL} {x : Int32} {S : List Value} : rn ca C_X10_refuse 14 L (.int x :: S) M = rn ca C_X10_refuse 15 L (.int (-x) :: S) M := (rn_at k_X10_refuse_14).trans rfl
theorem k_X10_refuse_15 : lk 15 C_X10_refuse = some (.istore_n 2, (0, 0, 0, 0)) := by decide +kernel
theorem s_X10_refuse_15 {ca : Nat → List Value → tM → tO} {M : tM} {a0 a1 a2 : Option Value} {x : Int32} {S : List Value} : rn ca C_X10_refuse 15 [a0, a1, a2] (.int x :: S) M = rn ca C_X10_refuse 16 [a0, a1, some (.int x)] S M := (rn_at k_X10_refuse_15).trans rfl
theorem k_X10_refuse_16 : lk 16 C_X10_refuse = some (.iload_n 2, (0, 0, 0, 0)) := by decide +kernel
theorem s_X10_refuse_16 {ca : Nat → List Value → tM → tO} {M : tM} {a0 a1 : Option Value} {x : Int32} {S : List Value} : rn ca C_X10_refuse 16 [a0, a1, some (.int x)] S M = rn ca C_X10_refuse 17 [a0, a1, some (.int x)] (.int x :: S) M := (rn_at k_X10_refuse_16).trans rfl
theorem k_X10_refuse_17 : lk 17 C_X10_refuse = some (.iconst 1, (0, 0, 0, 0)) := by decide +kernel
theorem s_X10_refuse_17 {ca : Nat → List Value → tM → tO} {M : tM} {L : tL} {S : List Value} : rn ca C_X10_refuse 17 L S M = rn ca C_X10_refuse 18 L (.int (iI 1) :: S) M := (rn_at k_X10_refuse_17).trans rfl
theorem k_X10_refuse_18 : lk 18 C_X10_refuse = some (.if_icmp .lt 19, (37, 0, 0, 0)) := by decide +kernel
theorem s_X10_refuse_18 {ca : Nat → List Value → tM → tO} {M : tM} {L : tL} {x y : Int32} {S : List Value} : rn ca C_X10_refuse 18 L (.int y :: .int x :: S) M = if x < y then rn ca C_X10_refuse 37 L S M else rn ca C_X10_refuse 21 L S M := (rn_at k_X10_refuse_18).trans rnx_ite
theorem k_X10_refuse_21 : lk 21 C_X10_refuse = some (.iload_n 2, (0, 0, 0, 0)) := by decide +kernel
theorem s_X10_refuse_21 {ca : Nat → List Value → tM → tO} {M : tM} {a0 a1 : Option Value} {x : Int32} {S : List Value} : rn ca C_X10_refuse 21 [a0, a1, some (.int x)] S M = rn ca C_X10_refuse 22 [a0, a1, some (.int x)] (.int x :: S) M := (rn_at k_X10_refuse_21).trans rfl
theorem k_X10_refuse_22 : lk 22 C_X10_refuse = some (.bipush 7, (0, 0, 0, 0)) := by decide +kernel
theorem s_X10_refuse_22 {ca : Nat → List Value → tM → tO} {M : tM} {L : tL} {S : List Value} : rn ca C_X10_refuse 22 L S M = rn ca C_X10_refuse 24 L (.int (iI 7) :: S) M := (rn_at k_X10_refuse_22).trans rfl
theorem k_X10_refuse_24 : lk 24 C_X10_refuse = some (.if_icmp .gt 13, (37, 0, 0, 0)) := by decide +kernel
theorem s_X10_refuse_24 {ca : Nat → List Value → tM → tO} {M : tM} {L : tL} {x y : Int32} {S : List Value} : rn ca C_X10_refuse 24 L (.int y :: .int x :: S) M = if y < x then rn ca C_X10_refuse 37 L S M else rn ca C_X10_refuse 27 L S M := (rn_at k_X10_refuse_24).trans rnx_ite
theorem k_X10_refuse_27 : lk 27 C_X10_refuse = some (.aload_n 0, (0, 0, 0, 0)) := by decide +kernel
theorem s_X10_refuse_27 {ca : Nat → List Value → tM → tO} {M : tM} {a1 a2 : Option Value} {x : Nat} {S : List Value} : rn ca C_X10_refuse 27 [some (.ref x), a1, a2] S M = rn ca C_X10_refuse 28 [some (.ref x), a1, a2] (.ref x :: S) M := (rn_at k_X10_refuse_27).trans rfl
theorem k_X10_refuse_28 : lk 28 C_X10_refuse = some (.getfield 85, (10, 12, 0, 56)) := by decide +kernel
theorem s_X10_refuse_28 {ca : Nat → List Value → tM → tO} {M : tM} {L : tL} {b : Nat} {S : List Value} : rn ca C_X10_refuse 28 L (.ref b :: S) M = if clsO b = some 10 then rn ca C_X10_refuse 31 L (fv M b 12 :: S) M else none := (rn_at k_X10_refuse_28).trans rnx_ite
theorem k_X10_refuse_31 : lk 31 C_X10_refuse = some (.iload_n 2, (0, 0, 0, 0)) := by decide +kernel
theorem s_X10_refuse_31 {ca : Nat → List Value → tM → tO} {M : tM} {a0 a1 : Option Value} {x : Int32} {S : List Value} : rn ca C_X10_refuse 31 [a0, a1, some (.int x)] S M = rn ca C_X10_refuse 32 [a0, a1, some (.int x)] (.int x :: S) M := (rn_at k_X10_refuse_31).trans rfl
theorem k_X10_refuse_32 : lk 32 C_X10_refuse = some (.dup2, (0, 0, 0, 0)) := by decide +kernel
theorem s_X10_refuse_32 {ca : Nat → List Value → tM → tO} {M : tM} {L : tL} {x : Nat} {y : Int32} {S : List Value} : rn ca C_X10_refuse 32 L (.int y :: .ref x :: S) M = rn ca C_X10_refuse 33 L (.int y :: .ref x :: .int y :: .ref x :: S) M := (rn_at k_X10_refuse_32).trans rfl
theorem k_X10_refuse_33 : lk 33 C_X10_refuse = some (.iaload, (0, 0, 0, 0)) := by decide +kernel
theorem s_X10_refuse_33 {ca : Nat → List Value → tM → tO} {M : tM} {L : tL} {a : Nat} {i : Int32} {S : List Value} : rn ca C_X10_refuse 33 L (.int i :: .ref a :: S) M = if (akind a = 0 ∨ akind a = 6 ∨ akind a = 7) ∧ inb i (alen M a) then rn ca C_X10_refuse 34 L (.int (M.1 a i.toInt.toNat) :: S) M else none := (rn_at k_X10_refuse_33).trans rnx_ite
theorem k_X10_refuse_34 : lk 34 C_X10_refuse = some (.iconst 1, (0, 0, 0, 0)) := by decide +kernel
theorem s_X10_refuse_34 {ca : Nat → List Value → tM → tO} {M : tM} {L : tL} {S : List Value} : rn ca C_X10_refuse 34 L S M = rn ca C_X10_refuse 35 L (.int (iI 1) :: S) M := (rn_at k_X10_refuse_34).trans rfl
theorem k_X10_refuse_35 : lk 35 C_X10_refuse = some (.iadd, (0, 0, 0, 0)) := by decide +kernel
theorem s_X10_refuse_35 {ca : Nat → List Value → tM → tO} {M : tM} {L : tL} {x y : Int32} {S : List Value} : rn ca C_X10_refuse 35 L (.int y :: .int x :: S) M = rn ca C_X10_refuse 36 L (.int (x + y) :: S) M := (rn_at k_X10_refuse_35).trans rfl
theorem k_X10_refuse_36 : lk 36 C_X10_refuse = some (.iastore, (0, 0, 0, 0)) := by decide +kernel
theorem s_X10_refuse_36 {ca : Nat → List Value → tM → tO} {M : tM} {L : tL} {a : Nat} {i x : Int32} {S : List Value} : rn ca C_X10_refuse 36 L (.int x :: .int i :: .ref a :: S) M = if akind a = 0 ∧ inb i (alen M a) then rn ca C_X10_refuse 37 L S (sI M a i.toInt.toNat x) else none := (rn_at k_X10_refuse_36).trans rnx_ite
theorem k_X10_refuse_37 : lk 37 C_X10_refuse = some (.iload_n 1, (0, 0, 0, 0)) := by decide +kernel
theorem s_X10_refuse_37 {ca : Nat → List Value → tM → tO} {M : tM} {a0 a2 : Option Value} {x : Int32} {S : List Value} : rn ca C_X10_refuse 37 [a0, some (.int x), a2] S M = rn ca C_X10_refuse 38 [a0, some (.int x), a2] (.int x :: S) M := (rn_at k_X10_refuse_37).trans rfl
theorem k_X10_refuse_38 : lk 38 C_X10_refuse = some (.ireturn, (0, 0, 0, 0)) := by decide +kernel
theorem s_X10_refuse_38 {ca : Nat → List Value → tM → tO} {M : tM} {L : tL} {x : Int32} : rn ca C_X10_refuse 38 L [.int x] M = some (some (.int x), M) := (rn_at k_X10_refuse_38).trans rfl
theorem k_X10_rowRefusal_0 : lk 0 C_X10_rowRefusal = some (.aload_n 0, (0, 0, 0, 0)) := by decide +kernel
theorem s_X10_rowRefusal_0 {ca : Nat → List Value → tM → tO} {M : tM} {a1 a2 : Option Value} {x : Nat} {S : List Value} : rn ca C_X10_rowRefusal 0 [some (.ref x), a1, a2] S M = rn ca C_X10_rowRefusal 1 [some (.ref x), a1, a2] (.ref x :: S) M := (rn_at k_X10_rowRefusal_0).trans rfl
theorem k_X10_rowRefusal_1 : lk 1 C_X10_rowRefusal = some (.getfield 25, (10, 3, 0, 22)) := by decide +kernel
theorem s_X10_rowRefusal_1 {ca : Nat → List Value → tM → tO} {M : tM} {L : tL} {b : Nat} {S : List Value} : rn ca C_X10_rowRefusal 1 L (.ref b :: S) M = if clsO b = some 10 then rn ca C_X10_rowRefusal 4 L (fv M b 3 :: S) M else none := (rn_at k_X10_rowRefusal_1).trans rnx_ite
theorem k_X10_rowRefusal_4 : lk 4 C_X10_rowRefusal = some (.iload_n 1, (0, 0, 0, 0)) := by decide +kernel
theorem s_X10_rowRefusal_4 {ca : Nat → List Value → tM → tO} {M : tM} {a0 a2 : Option Value} {x : Int32} {S : List Value} : rn ca C_X10_rowRefusal 4 [a0, some (.int x), a2] S M = rn ca C_X10_rowRefusal 5 [a0, some (.int x), a2] (.int x :: S) M := (rn_at k_X10_rowRefusal_4).trans rfl
theorem k_X10_rowRefusal_5 : lk 5 C_X10_rowRefusal = some (.invokevirtual 97, (65, 1, 8, 171)) := by decide +kernel
theorem s_X10_rowRefusal_5 {ca : Nat → List Value → tM → tO} {M : tM} {L : tL} {v1 : Value} {b : Nat} : rn ca C_X10_rowRefusal 5 L [v1, .ref b] M = if clsO b = some 8 then rnk ca C_X10_rowRefusal 8 L [] (ca m_X8_hasShelf [.ref b, v1] M) else none := (rn_at k_X10_rowRefusal_5).trans rnx_ite
theorem k_X10_rowRefusal_8 : lk 8 C_X10_rowRefusal = some (.ifCond .ne 5, (13, 0, 0, 0)) := by decide +kernel
theorem s_X10_rowRefusal_8 {ca : Nat → List Value → tM → tO} {M : tM} {L : tL} {x : Int32} {S : List Value} : rn ca C_X10_rowRefusal 8 L (.int x :: S) M = if ¬ x = iI 0 then rn ca C_X10_rowRefusal 13 L S M else rn ca C_X10_rowRefusal 11 L S M := (rn_at k_X10_rowRefusal_8).trans rnx_ite
theorem k_X10_rowRefusal_11 : lk 11 C_X10_rowRefusal = some (.iconst (-1), (0, 0, 0, 0)) := by decide +kernel
theorem s_X10_rowRefusal_11 {ca : Nat → List Value → tM → tO} {M : tM} {L : tL} {S : List Value} : rn ca C_X10_rowRefusal 11 L S M = rn ca C_X10_rowRefusal 12 L (.int (iI (-1)) :: S) M := (rn_at k_X10_rowRefusal_11).trans rfl
theorem k_X10_rowRefusal_12 : lk 12 C_X10_rowRefusal = some (.ireturn, (0, 0, 0, 0)) := by decide +kernel
theorem s_X10_rowRefusal_12 {ca : Nat → List Value → tM → tO} {M : tM} {L : tL} {x : Int32} : rn ca C_X10_rowRefusal 12 L [.int x] M = some (some (.int x), M) := (rn_at k_X10_rowRefusal_12).trans rfl
theorem k_X10_rowRefusal_13 : lk 13 C_X10_rowRefusal = some (.aload_n 0, (0, 0, 0, 0)) := by decide +kernel
theorem s_X10_rowRefusal_13 {ca : Nat → List Value → tM → tO} {M : tM} {a1 a2 : Option Value} {x : Nat} {S : List Value} : rn ca C_X10_rowRefusal 13 [some (.ref x), a1, a2] S M = rn ca C_X10_rowRefusal 14 [some (.ref x), a1, a2] (.ref x :: S) M := (rn_at k_X10_rowRefusal_13).trans rfl
theorem k_X10_rowRefusal_14 : lk 14 C_X10_rowRefusal = some (.getfield 25, (10, 3, 0, 22)) := by decide +kernel
theorem s_X10_rowRefusal_14 {ca : Nat → List Value → tM → tO} {M : tM} {L : tL} {b : Nat} {S : List Value} : rn ca C_X10_rowRefusal 14 L (.ref b :: S) M = if clsO b = some 10 then rn ca C_X10_rowRefusal 17 L (fv M b 3 :: S) M else none := (rn_at k_X10_rowRefusal_14).trans rnx_ite
theorem k_X10_rowRefusal_17 : lk 17 C_X10_rowRefusal = some (.iload_n 1, (0, 0, 0, 0)) := by decide +kernel
theorem s_X10_rowRefusal_17 {ca : Nat → List Value → tM → tO} {M : tM} {a0 a2 : Option Value} {x : Int32} {S : List Value} : rn ca C_X10_rowRefusal 17 [a0, some (.int x), a2] S M = rn ca C_X10_rowRefusal 18 [a0, some (.int x), a2] (.int x :: S) M := (rn_at k_X10_rowRefusal_17).trans rfl
theorem k_X10_rowRefusal_18 : lk 18 C_X10_rowRefusal = some (.invokevirtual 142, (67, 1, 8, 212)) := by decide +kernel
theorem s_X10_rowRefusal_18 {ca : Nat → List Value → tM → tO} {M : tM} {L : tL} {v1 : Value} {b : Nat} : rn ca C_X10_rowRefusal 18 L [v1, .ref b] M = if clsO b = some 8 then rnk ca C_X10_rowRefusal 21 L [] (ca m_X8_heldAt [.ref b, v1] M) else none := (rn_at k_X10_rowRefusal_18).trans rnx_ite
theorem k_X10_rowRefusal_21 : lk 21 C_X10_rowRefusal = some (.istore_n 2, (0, 0, 0, 0)) := by decide +kernel
theorem s_X10_rowRefusal_21 {ca : Nat → List Value → tM → tO} {M : tM} {a0 a1 a2 : Option Value} {x : Int32} {S : List Value} : rn ca C_X10_rowRefusal 21 [a0, a1, a2] (.int x :: S) M = rn ca C_X10_rowRefusal 22 [a0, a1, some (.int x)] S M := (rn_at k_X10_rowRefusal_21).trans rfl
theorem k_X10_rowRefusal_22 : lk 22 C_X10_rowRefusal = some (.iload_n 2, (0, 0, 0, 0)) := by decide +kernel
theorem s_X10_rowRefusal_22 {ca : Nat → List Value → tM → tO} {M : tM} {a0 a1 : Option Value} {x : Int32} {S : List Value} : rn ca C_X10_rowRefusal 22 [a0, a1, some (.int x)] S M = rn ca C_X10_rowRefusal 23 [a0, a1, some (.int x)] (.int x :: S) M := (rn_at k_X10_rowRefusal_22).trans rfl
theorem k_X10_rowRefusal_23 : lk 23 C_X10_rowRefusal = some (.iconst (-1), (0, 0, 0, 0)) := by decide +kernel
theorem s_X10_rowRefusal_23 {ca : Nat → List Value → tM → tO} {M : tM} {L : tL} {S : List Value} : rn ca C_X10_rowRefusal 23 L S M = rn ca C_X10_rowRefusal 24 L (.int (iI (-1)) :: S) M := (rn_at k_X10_rowRefusal_23).trans rfl
theorem k_X10_rowRefusal_24 : lk 24 C_X10_rowRefusal = some (.if_icmp .ne 6, (30, 0, 0, 0)) := by decide +kernel
theorem s_X10_rowRefusal_24 {ca : Nat → List Value → tM → tO} {M : tM} {L : tL} {x y : Int32} {S : List Value} : rn ca C_X10_rowRefusal 24 L (.int y :: .int x :: S) M = if ¬ x = y then rn ca C_X10_rowRefusal 30 L S M else rn ca C_X10_rowRefusal 27 L S M := (rn_at k_X10_rowRefusal_24).trans rnx_ite
theorem k_X10_rowRefusal_27 : lk 27 C_X10_rowRefusal = some (.bipush (-3), (0, 0, 0, 0)) := by decide +kernel
theorem s_X10_rowRefusal_27 {ca : Nat → List Value → tM → tO} {M : tM} {L : tL} {S : List Value} : rn ca C_X10_rowRefusal 27 L S M = rn ca C_X10_rowRefusal 29 L (.int (iI (-3)) :: S) M := (rn_at k_X10_rowRefusal_27).trans rfl
theorem k_X10_rowRefusal_29 : lk 29 C_X10_rowRefusal = some (.ireturn, (0, 0, 0, 0)) := by decide +kernel
theorem s_X10_rowRefusal_29 {ca : Nat → List Value → tM → tO} {M : tM} {L : tL} {x : Int32} : rn ca C_X10_rowRefusal 29 L [.int x] M = some (some (.int x), M) := (rn_at k_X10_rowRefusal_29).trans rfl
theorem k_X10_rowRefusal_30 : lk 30 C_X10_rowRefusal = some (.iload_n 2, (0, 0, 0, 0)) := by decide +kernel
theorem s_X10_rowRefusal_30 {ca : Nat → List Value → tM → tO} {M : tM} {a0 a1 : Option Value} {x : Int32} {S : List Value} : rn ca C_X10_rowRefusal 30 [a0, a1, some (.int x)] S M = rn ca C_X10_rowRefusal 31 [a0, a1, some (.int x)] (.int x :: S) M := (rn_at k_X10_rowRefusal_30).trans rfl
theorem k_X10_rowRefusal_31 : lk 31 C_X10_rowRefusal = some (.bipush 100, (0, 0, 0, 0)) := by decide +kernel
theorem s_X10_rowRefusal_31 {ca : Nat → List Value → tM → tO} {M : tM} {L : tL} {S : List Value} : rn ca C_X10_rowRefusal 31 L S M = rn ca C_X10_rowRefusal 33 L (.int (iI 100) :: S) M := (rn_at k_X10_rowRefusal_31).trans rfl
theorem k_X10_rowRefusal_33 : lk 33 C_X10_rowRefusal = some (.if_icmp .ge 8, (41, 0, 0, 0)) := by decide +kernel
theorem s_X10_rowRefusal_33 {ca : Nat → List Value → tM → tO} {M : tM} {L : tL} {x y : Int32} {S : List Value} : rn ca C_X10_rowRefusal 33 L (.int y :: .int x :: S) M = if y ≤ x then rn ca C_X10_rowRefusal 41 L S M else rn ca C_X10_rowRefusal 36 L S M := (rn_at k_X10_rowRefusal_33).trans rnx_ite
theorem k_X10_rowRefusal_36 : lk 36 C_X10_rowRefusal = some (.bipush (-2), (0, 0, 0, 0)) := by decide +kernel
theorem s_X10_rowRefusal_36 {ca : Nat → List Value → tM → tO} {M : tM} {L : tL} {S : List Value} : rn ca C_X10_rowRefusal 36 L S M = rn ca C_X10_rowRefusal 38 L (.int (iI (-2)) :: S) M := (rn_at k_X10_rowRefusal_36).trans rfl
theorem k_X10_rowRefusal_38 : lk 38 C_X10_rowRefusal = some (.goto 4, (42, 0, 0, 0)) := by decide +kernel
theorem s_X10_rowRefusal_38 {ca : Nat → List Value → tM → tO} {M : tM} {L : tL} {S : List Value} : rn ca C_X10_rowRefusal 38 L S M = rn ca C_X10_rowRefusal 42 L S M := (rn_at k_X10_rowRefusal_38).trans rfl
theorem k_X10_rowRefusal_41 : lk 41 C_X10_rowRefusal = some (.iconst 0, (0, 0, 0, 0)) := by decide +kernel
theorem s_X10_rowRefusal_41 {ca : Nat → List Value → tM → tO} {M : tM} {L : tL} {S : List Value} : rn ca C_X10_rowRefusal 41 L S M = rn ca C_X10_rowRefusal 42 L (.int (iI 0) :: S) M := (rn_at k_X10_rowRefusal_41).trans rfl
theorem k_X10_rowRefusal_42 : lk 42 C_X10_rowRefusal = some (.ireturn, (0, 0, 0, 0)) := by decide +kernel
theorem s_X10_rowRefusal_42 {ca : Nat → List Value → tM → tO} {M : tM} {L : tL} {x : Int32} : rn ca C_X10_rowRefusal 42 L [.int x] M = some (some (.int x), M) := (rn_at k_X10_rowRefusal_42).trans rfl
theorem k_X10_copyRefusal_0 : lk 0 C_X10_copyRefusal = some (.aload_n 0, (0, 0, 0, 0)) := by decide +kernel
theorem s_X10_copyRefusal_0 {ca : Nat → List Value → tM → tO} {M : tM} {a1 a2 a3 a4 : Option Value} {x : Nat} {S : List Value} : rn ca C_X10_copyRefusal 0 [some (.ref x), a1, a2, a3, a4] S M = rn ca C_X10_copyRefusal 1 [some (.ref x), a1, a2, a3, a4] (.ref x :: S) M := (rn_at k_X10_copyRefusal_0).trans rfl
theorem k_X10_copyRefusal_1 : lk 1 C_X10_copyRefusal = some (.iload_n 1, (0, 0, 0, 0)) := by decide +kernel
theorem s_X10_copyRefusal_1 {ca : Nat → List Value → tM → tO} {M : tM} {a0 a2 a3 a4 : Option Value} {x : Int32} {S : List Value} : rn ca C_X10_copyRefusal 1 [a0, some (.int x), a2, a3, a4] S M = rn ca C_X10_copyRefusal 2 [a0, some (.int x), a2, a3, a4] (.int x :: S) M := (rn_at k_X10_copyRefusal_1).trans rfl
theorem k_X10_copyRefusal_2 : lk 2 C_X10_copyRefusal = some (.invokevirtual 109, (135, 1, 10, 208)) := by decide +kernel
theorem s_X10_copyRefusal_2 {ca : Nat → List Value → tM → tO} {M : tM} {L : tL} {v1 : Value} {b : Nat} : rn ca C_X10_copyRefusal 2 L [v1, .ref b] M = if clsO b = some 10 then rnk ca C_X10_copyRefusal 5 L [] (ca m_X10_rowRefusal [.ref b, v1] M) else none := (rn_at k_X10_copyRefusal_2).trans rnx_ite
theorem k_X10_copyRefusal_5 : lk 5 C_X10_copyRefusal = some (.istore_n 3, (0, 0, 0, 0)) := by decide +kernel
theorem s_X10_copyRefusal_5 {ca : Nat → List Value → tM → tO} {M : tM} {a0 a1 a2 a3 a4 : Option Value} {x : Int32} {S : List Value} : rn ca C_X10_copyRefusal 5 [a0, a1, a2, a3, a4] (.int x :: S) M = rn ca C_X10_copyRefusal 6 [a0, a1, a2, some (.int x), a4] S M := (rn_at k_X10_copyRefusal_5).trans rfl
theorem k_X10_copyRefusal_6 : lk 6 C_X10_copyRefusal = some (.aload_n 0, (0, 0, 0, 0)) := by decide +kernel
theorem s_X10_copyRefusal_6 {ca : Nat → List Value → tM → tO} {M : tM} {a1 a2 a3 a4 : Option Value} {x : Nat} {S : List Value} : rn ca C_X10_copyRefusal 6 [some (.ref x), a1, a2, a3, a4] S M = rn ca C_X10_copyRefusal 7 [some (.ref x), a1, a2, a3, a4] (.ref x :: S) M := (rn_at k_X10_copyRefusal_6).trans rfl
theorem k_X10_copyRefusal_7 : lk 7 C_X10_copyRefusal = some (.iload_n 2, (0, 0, 0, 0)) := by decide +kernel
theorem s_X10_copyRefusal_7 {ca : Nat → List Value → tM → tO} {M : tM} {a0 a1 a3 a4 : Option Value} {x : Int32} {S : List Value} : rn ca C_X10_copyRefusal 7 [a0, a1, some (.int x), a3, a4] S M = rn ca C_X10_copyRefusal 8 [a0, a1, some (.int x), a3, a4] (.int x :: S) M := (rn_at k_X10_copyRefusal_7).trans rfl
theorem k_X10_copyRefusal_8 : lk 8 C_X10_copyRefusal = some (.invokevirtual 109, (135, 1, 10, 208)) := by decide +kernel
theorem s_X10_copyRefusal_8 {ca : Nat → List Value → tM → tO} {M : tM} {L : tL} {v1 : Value} {b : Nat} : rn ca C_X10_copyRefusal 8 L [v1, .ref b] M = if clsO b = some 10 then rnk ca C_X10_copyRefusal 11 L [] (ca m_X10_rowRefusal [.ref b, v1] M) else none := (rn_at k_X10_copyRefusal_8).trans rnx_ite
theorem k_X10_copyRefusal_11 : lk 11 C_X10_copyRefusal = some (.istore 4, (0, 0, 0, 0)) := by decide +kernel
theorem s_X10_copyRefusal_11 {ca : Nat → List Value → tM → tO} {M : tM} {a0 a1 a2 a3 a4 : Option Value} {x : Int32} {S : List Value} : rn ca C_X10_copyRefusal 11 [a0, a1, a2, a3, a4] (.int x :: S) M = rn ca C_X10_copyRefusal 13 [a0, a1, a2, a3, some (.int x)] S M := (rn_at k_X10_copyRefusal_11).trans rfl
theorem k_X10_copyRefusal_13 : lk 13 C_X10_copyRefusal = some (.iload_n 3, (0, 0, 0, 0)) := by decide +kernel
theorem s_X10_copyRefusal_13 {ca : Nat → List Value → tM → tO} {M : tM} {a0 a1 a2 a4 : Option Value} {x : Int32} {S : List Value} : rn ca C_X10_copyRefusal 13 [a0, a1, a2, some (.int x), a4] S M = rn ca C_X10_copyRefusal 14 [a0, a1, a2, some (.int x), a4] (.int x :: S) M := (rn_at k_X10_copyRefusal_13).trans rfl
theorem k_X10_copyRefusal_14 : lk 14 C_X10_copyRefusal = some (.iconst (-1), (0, 0, 0, 0)) := by decide +kernel
theorem s_X10_copyRefusal_14 {ca : Nat → List Value → tM → tO} {M : tM} {L : tL} {S : List Value} : rn ca C_X10_copyRefusal 14 L S M = rn ca C_X10_copyRefusal 15 L (.int (iI (-1)) :: S) M := (rn_at k_X10_copyRefusal_14).trans rfl
theorem k_X10_copyRefusal_15 : lk 15 C_X10_copyRefusal = some (.if_icmp .eq 9, (24, 0, 0, 0)) := by decide +kernel
theorem s_X10_copyRefusal_15 {ca : Nat → List Value → tM → tO} {M : tM} {L : tL} {x y : Int32} {S : List Value} : rn ca C_X10_copyRefusal 15 L (.int y :: .int x :: S) M = if x = y then rn ca C_X10_copyRefusal 24 L S M else rn ca C_X10_copyRefusal 18 L S M := (rn_at k_X10_copyRefusal_15).trans rnx_ite
theorem k_X10_copyRefusal_18 : lk 18 C_X10_copyRefusal = some (.iload 4, (0, 0, 0, 0)) := by decide +kernel
theorem s_X10_copyRefusal_18 {ca : Nat → List Value → tM → tO} {M : tM} {a0 a1 a2 a3 : Option Value} {x : Int32} {S : List Value} : rn ca C_X10_copyRefusal 18 [a0, a1, a2, a3, some (.int x)] S M = rn ca C_X10_copyRefusal 20 [a0, a1, a2, a3, some (.int x)] (.int x :: S) M := (rn_at k_X10_copyRefusal_18).trans rfl
theorem k_X10_copyRefusal_20 : lk 20 C_X10_copyRefusal = some (.iconst (-1), (0, 0, 0, 0)) := by decide +kernel
theorem s_X10_copyRefusal_20 {ca : Nat → List Value → tM → tO} {M : tM} {L : tL} {S : List Value} : rn ca C_X10_copyRefusal 20 L S M = rn ca C_X10_copyRefusal 21 L (.int (iI (-1)) :: S) M := (rn_at k_X10_copyRefusal_20).trans rfl
theorem k_X10_copyRefusal_21 : lk 21 C_X10_copyRefusal = some (.if_icmp .ne 5, (26, 0, 0, 0)) := by decide +kernel
theorem s_X10_copyRefusal_21 {ca : Nat → List Value → tM → tO} {M : tM} {L : tL} {x y : Int32} {S : List Value} : rn ca C_X10_copyRefusal 21 L (.int y :: .int x :: S) M = if ¬ x = y then rn ca C_X10_copyRefusal 26 L S M else rn ca C_X10_copyRefusal 24 L S M := (rn_at k_X10_copyRefusal_21).trans rnx_ite
theorem k_X10_copyRefusal_24 : lk 24 C_X10_copyRefusal = some (.iconst (-1), (0, 0, 0, 0)) := by decide +kernel
theorem s_X10_copyRefusal_24 {ca : Nat → List Value → tM → tO} {M : tM} {L : tL} {S : List Value} : rn ca C_X10_copyRefusal 24 L S M = rn ca C_X10_copyRefusal 25 L (.int (iI (-1)) :: S) M := (rn_at k_X10_copyRefusal_24).trans rfl
theorem k_X10_copyRefusal_25 : lk 25 C_X10_copyRefusal = some (.ireturn, (0, 0, 0, 0)) := by decide +kernel
theorem s_X10_copyRefusal_25 {ca : Nat → List Value → tM → tO} {M : tM} {L : tL} {x : Int32} : rn ca C_X10_copyRefusal 25 L [.int x] M = some (some (.int x), M) := (rn_at k_X10_copyRefusal_25).trans rfl
theorem k_X10_copyRefusal_26 : lk 26 C_X10_copyRefusal = some (.iload_n 3, (0, 0, 0, 0)) := by decide +kernel
theorem s_X10_copyRefusal_26 {ca : Nat → List Value → tM → tO} {M : tM} {a0 a1 a2 a4 : Option Value} {x : Int32} {S : List Value} : rn ca C_X10_copyRefusal 26 [a0, a1, a2, some (.int x), a4] S M = rn ca C_X10_copyRefusal 27 [a0, a1, a2, some (.int x), a4] (.int x :: S) M := (rn_at k_X10_copyRefusal_26).trans rfl
theorem k_X10_copyRefusal_27 : lk 27 C_X10_copyRefusal = some (.bipush (-2), (0, 0, 0, 0)) := by decide +kernel
theorem s_X10_copyRefusal_27 {ca : Nat → List Value → tM → tO} {M : tM} {L : tL} {S : List Value} : rn ca C_X10_copyRefusal 27 L S M = rn ca C_X10_copyRefusal 29 L (.int (iI (-2)) :: S) M := (rn_at k_X10_copyRefusal_27).trans rfl
theorem k_X10_copyRefusal_29 : lk 29 C_X10_copyRefusal = some (.if_icmp .eq 10, (39, 0, 0, 0)) := by decide +kernel
theorem s_X10_copyRefusal_29 {ca : Nat → List Value → tM → tO} {M : tM} {L : tL} {x y : Int32} {S : List Value} : rn ca C_X10_copyRefusal 29 L (.int y :: .int x :: S) M = if x = y then rn ca C_X10_copyRefusal 39 L S M else rn ca C_X10_copyRefusal 32 L S M := (rn_at k_X10_copyRefusal_29).trans rnx_ite
theorem k_X10_copyRefusal_32 : lk 32 C_X10_copyRefusal = some (.iload 4, (0, 0, 0, 0)) := by decide +kernel
theorem s_X10_copyRefusal_32 {ca : Nat → List Value → tM → tO} {M : tM} {a0 a1 a2 a3 : Option Value} {x : Int32} {S : List Value} : rn ca C_X10_copyRefusal 32 [a0, a1, a2, a3, some (.int x)] S M = rn ca C_X10_copyRefusal 34 [a0, a1, a2, a3, some (.int x)] (.int x :: S) M := (rn_at k_X10_copyRefusal_32).trans rfl
theorem k_X10_copyRefusal_34 : lk 34 C_X10_copyRefusal = some (.bipush (-2), (0, 0, 0, 0)) := by decide +kernel
theorem s_X10_copyRefusal_34 {ca : Nat → List Value → tM → tO} {M : tM} {L : tL} {S : List Value} : rn ca C_X10_copyRefusal 34 L S M = rn ca C_X10_copyRefusal 36 L (.int (iI (-2)) :: S) M := (rn_at k_X10_copyRefusal_34).trans rfl
theorem k_X10_copyRefusal_36 : lk 36 C_X10_copyRefusal = some (.if_icmp .ne 6, (42, 0, 0, 0)) := by decide +kernel
theorem s_X10_copyRefusal_36 {ca : Nat → List Value → tM → tO} {M : tM} {L : tL} {x y : Int32} {S : List Value} : rn ca C_X10_copyRefusal 36 L (.int y :: .int x :: S) M = if ¬ x = y then rn ca C_X10_copyRefusal 42 L S M else rn ca C_X10_copyRefusal 39 L S M := (rn_at k_X10_copyRefusal_36).trans rnx_ite
theorem k_X10_copyRefusal_39 : lk 39 C_X10_copyRefusal = some (.bipush (-2), (0, 0, 0, 0)) := by decide +kernel
theorem s_X10_copyRefusal_39 {ca : Nat → List Value → tM → tO} {M : tM} {L : tL} {S : List Value} : rn ca C_X10_copyRefusal 39 L S M = rn ca C_X10_copyRefusal 41 L (.int (iI (-2)) :: S) M := (rn_at k_X10_copyRefusal_39).trans rfl
theorem k_X10_copyRefusal_41 : lk 41 C_X10_copyRefusal = some (.ireturn, (0, 0, 0, 0)) := by decide +kernel
theorem s_X10_copyRefusal_41 {ca : Nat → List Value → tM → tO} {M : tM} {L : tL} {x : Int32} : rn ca C_X10_copyRefusal 41 L [.int x] M = some (some (.int x), M) := (rn_at k_X10_copyRefusal_41).trans rfl
theorem k_X10_copyRefusal_42 : lk 42 C_X10_copyRefusal = some (.iload_n 3, (0, 0, 0, 0)) := by decide +kernel
theorem s_X10_copyRefusal_42 {ca : Nat → List Value → tM → tO} {M : tM} {a0 a1 a2 a4 : Option Value} {x : Int32} {S : List Value} : rn ca C_X10_copyRefusal 42 [a0, a1, a2, some (.int x), a4] S M = rn ca C_X10_copyRefusal 43 [a0, a1, a2, some (.int x), a4] (.int x :: S) M := (rn_at k_X10_copyRefusal_42).trans rfl
theorem k_X10_copyRefusal_43 : lk 43 C_X10_copyRefusal = some (.bipush (-3), (0, 0, 0, 0)) := by decide +kernel
theorem s_X10_copyRefusal_43 {ca : Nat → List Value → tM → tO} {M : tM} {L : tL} {S : List Value} : rn ca C_X10_copyRefusal 43 L S M = rn ca C_X10_copyRefusal 45 L (.int (iI (-3)) :: S) M := (rn_at k_X10_copyRefusal_43).trans rfl
theorem k_X10_copyRefusal_45 : lk 45 C_X10_copyRefusal = some (.if_icmp .eq 10, (55, 0, 0, 0)) := by decide +kernel
theorem s_X10_copyRefusal_45 {ca : Nat → List Value → tM → tO} {M : tM} {L : tL} {x y : Int32} {S : List Value} : rn ca C_X10_copyRefusal 45 L (.int y :: .int x :: S) M = if x = y then rn ca C_X10_copyRefusal 55 L S M else rn ca C_X10_copyRefusal 48 L S M := (rn_at k_X10_copyRefusal_45).trans rnx_ite
theorem k_X10_copyRefusal_48 : lk 48 C_X10_copyRefusal = some (.iload 4, (0, 0, 0, 0)) := by decide +kernel
theorem s_X10_copyRefusal_48 {ca : Nat → List Value → tM → tO} {M : tM} {a0 a1 a2 a3 : Option Value} {x : Int32} {S : List Value} : rn ca C_X10_copyRefusal 48 [a0, a1, a2, a3, some (.int x)] S M = rn ca C_X10_copyRefusal 50 [a0, a1, a2, a3, some (.int x)] (.int x :: S) M := (rn_at k_X10_copyRefusal_48).trans rfl
theorem k_X10_copyRefusal_50 : lk 50 C_X10_copyRefusal = some (.bipush (-3), (0, 0, 0, 0)) := by decide +kernel
theorem s_X10_copyRefusal_50 {ca : Nat → List Value → tM → tO} {M : tM} {L : tL} {S : List Value} : rn ca C_X10_copyRefusal 50 L S M = rn ca C_X10_copyRefusal 52 L (.int (iI (-3)) :: S) M := (rn_at k_X10_copyRefusal_50).trans rfl
theorem k_X10_copyRefusal_52 : lk 52 C_X10_copyRefusal = some (.if_icmp .ne 6, (58, 0, 0, 0)) := by decide +kernel
theorem s_X10_copyRefusal_52 {ca : Nat → List Value → tM → tO} {M : tM} {L : tL} {x y : Int32} {S : List Value} : rn ca C_X10_copyRefusal 52 L (.int y :: .int x :: S) M = if ¬ x = y then rn ca C_X10_copyRefusal 58 L S M else rn ca C_X10_copyRefusal 55 L S M := (rn_at k_X10_copyRefusal_52).trans rnx_ite
theorem k_X10_copyRefusal_55 : lk 55 C_X10_copyRefusal = some (.bipush (-3), (0, 0, 0, 0)) := by decide +kernel
theorem s_X10_copyRefusal_55 {ca : Nat → List Value → tM → tO} {M : tM} {L : tL} {S : List Value} : rn ca C_X10_copyRefusal 55 L S M = rn ca C_X10_copyRefusal 57 L (.int (iI (-3)) :: S) M := (rn_at k_X10_copyRefusal_55).trans rfl
theorem k_X10_copyRefusal_57 : lk 57 C_X10_copyRefusal = some (.ireturn, (0, 0, 0, 0)) := by decide +kernel
theorem s_X10_copyRefusal_57 {ca : Nat → List Value → tM → tO} {M : tM} {L : tL} {x : Int32} : rn ca C_X10_copyRefusal 57 L [.int x] M = some (some (.int x), M) := (rn_at k_X10_copyRefusal_57).trans rfl
theorem k_X10_copyRefusal_58 : lk 58 C_X10_copyRefusal = some (.aload_n 0, (0, 0, 0, 0)) := by decide +kernel
theorem s_X10_copyRefusal_58 {ca : Nat → List Value → tM → tO} {M : tM} {a1 a2 a3 a4 : Option Value} {x : Nat} {S : List Value} : rn ca C_X10_copyRefusal 58 [some (.ref x), a1, a2, a3, a4] S M = rn ca C_X10_copyRefusal 59 [some (.ref x), a1, a2, a3, a4] (.ref x :: S) M := (rn_at k_X10_copyRefusal_58).trans rfl
theorem k_X10_copyRefusal_59 : lk 59 C_X10_copyRefusal = some (.getfield 25, (10, 3, 0, 22)) := by decide +kernel
theorem s_X10_copyRefusal_59 {ca : Nat → List Value → tM → tO} {M : tM} {L : tL} {b : Nat} {S : List Value} : rn ca C_X10_copyRefusal 59 L (.ref b :: S) M = if clsO b = some 10 then rn ca C_X10_copyRefusal 62 L (fv M b 3 :: S) M else none := (rn_at k_X10_copyRefusal_59).trans rnx_ite
theorem k_X10_copyRefusal_62 : lk 62 C_X10_copyRefusal = some (.iload_n 1, (0, 0, 0, 0)) := by decide +kernel
theorem s_X10_copyRefusal_62 {ca : Nat → List Value → tM → tO} {M : tM} {a0 a2 a3 a4 : Option Value} {x : Int32} {S : List Value} : rn ca C_X10_copyRefusal 62 [a0, some (.int x), a2, a3, a4] S M = rn ca C_X10_copyRefusal 63 [a0, some (.int x), a2, a3, a4] (.int x :: S) M := (rn_at k_X10_copyRefusal_62).trans rfl
theorem k_X10_copyRefusal_63 : lk 63 C_X10_copyRefusal = some (.invokevirtual 142, (67, 1, 8, 212)) := by decide +kernel
theorem s_X10_copyRefusal_63 {ca : Nat → List Value → tM → tO} {M : tM} {L : tL} {v1 : Value} {b : Nat} : rn ca C_X10_copyRefusal 63 L [v1, .ref b] M = if clsO b = some 8 then rnk ca C_X10_copyRefusal 66 L [] (ca m_X8_heldAt [.ref b, v1] M) else none := (rn_at k_X10_copyRefusal_63).trans rnx_ite
theorem k_X10_copyRefusal_66 : lk 66 C_X10_copyRefusal = some (.aload_n 0, (0, 0, 0, 0)) := by decide +kernel
theorem s_X10_copyRefusal_66 {ca : Nat → List Value → tM → tO} {M : tM} {a1 a2 a3 a4 : Option Value} {x : Nat} {S : List Value} : rn ca C_X10_copyRefusal 66 [some (.ref x), a1, a2, a3, a4] S M = rn ca C_X10_copyRefusal 67 [some (.ref x), a1, a2, a3, a4] (.ref x :: S) M := (rn_at k_X10_copyRefusal_66).trans rfl
theorem k_X10_copyRefusal_67 : lk 67 C_X10_copyRefusal = some (.getfield 25, (10, 3, 0, 22)) := by decide +kernel
theorem s_X10_copyRefusal_67 {ca : Nat → List Value → tM → tO} {M : tM} {L : tL} {b : Nat} {S : List Value} : rn ca C_X10_copyRefusal 67 L (.ref b :: S) M = if clsO b = some 10 then rn ca C_X10_copyRefusal 70 L (fv M b 3 :: S) M else none := (rn_at k_X10_copyRefusal_67).trans rnx_ite
theorem k_X10_copyRefusal_70 : lk 70 C_X10_copyRefusal = some (.iload_n 2, (0, 0, 0, 0)) := by decide +kernel
theorem s_X10_copyRefusal_70 {ca : Nat → List Value → tM → tO} {M : tM} {a0 a1 a3 a4 : Option Value} {x : Int32} {S : List Value} : rn ca C_X10_copyRefusal 70 [a0, a1, some (.int x), a3, a4] S M = rn ca C_X10_copyRefusal 71 [a0, a1, some (.int x), a3, a4] (.int x :: S) M := (rn_at k_X10_copyRefusal_70).trans rfl
theorem k_X10_copyRefusal_71 : lk 71 C_X10_copyRefusal = some (.invokevirtual 142, (67, 1, 8, 212)) := by decide +kernel
theorem s_X10_copyRefusal_71 {ca : Nat → List Value → tM → tO} {M : tM} {L : tL} {v1 : Value} {r0 : Int32} {b : Nat} : rn ca C_X10_copyRefusal 71 L [v1, .ref b, .int r0] M = if clsO b = some 8 then rnk ca C_X10_copyRefusal 74 L [.int r0] (ca m_X8_heldAt [.ref b, v1] M) else none := (rn_at k_X10_copyRefusal_71).trans rnx_ite
theorem k_X10_copyRefusal_74 : lk 74 C_X10_copyRefusal = some (.if_icmp .ne 7, (81, 0, 0, 0)) := by decide +kernel
theorem s_X10_copyRefusal_74 {ca : Nat → List Value → tM → tO} {M : tM} {L : tL} {x y : Int32} {S : List Value} : rn ca C_X10_copyRefusal 74 L (.int y :: .int x :: S) M = if ¬ x = y then rn ca C_X10_copyRefusal 81 L S M else rn ca C_X10_copyRefusal 77 L S M := (rn_at k_X10_copyRefusal_74).trans rnx_ite
theorem k_X10_copyRefusal_77 : lk 77 C_X10_copyRefusal = some (.iconst 0, (0, 0, 0, 0)) := by decide +kernel
theorem s_X10_copyRefusal_77 {ca : Nat → List Value → tM → tO} {M : tM} {L : tL} {S : List Value} : rn ca C_X10_copyRefusal 77 L S M = rn ca C_X10_copyRefusal 78 L (.int (iI 0) :: S) M := (rn_at k_X10_copyRefusal_77).trans rfl
theorem k_X10_copyRefusal_78 : lk 78 C_X10_copyRefusal = some (.goto 5, (83, 0, 0, 0)) := by decide +kernel
theorem s_X10_copyRefusal_78 {ca : Nat → List Value → tM → tO} {M : tM} {L : tL} {S : List Value} : rn ca C_X10_copyRefusal 78 L S M = rn ca C_X10_copyRefusal 83 L S M := (rn_at k_X10_copyRefusal_78).trans rfl
theorem k_X10_copyRefusal_81 : lk 81 C_X10_copyRefusal = some (.bipush (-2), (0, 0, 0, 0)) := by decide +kernel
theorem s_X10_copyRefusal_81 {ca : Nat → List Value → tM → tO} {M : tM} {L : tL} {S : List Value} : rn ca C_X10_copyRefusal 81 L S M = rn ca C_X10_copyRefusal 83 L (.int (iI (-2)) :: S) M := (rn_at k_X10_copyRefusal_81).trans rfl
theorem k_X10_copyRefusal_83 : lk 83 C_X10_copyRefusal = some (.ireturn, (0, 0, 0, 0)) := by decide +kernel
theorem s_X10_copyRefusal_83 {ca : Nat → List Value → tM → tO} {M : tM} {L : tL} {x : Int32} : rn ca C_X10_copyRefusal 83 L [.int x] M = some (some (.int x), M) := (rn_at k_X10_copyRefusal_83).trans rfl
theorem k_X10_knocksRefusal_0 : lk 0 C_X10_knocksRefusal = some (.aload_n 0, (0, 0, 0, 0)) := by decide +kernel
theorem s_X10_knocksRefusal_0 {ca : Nat → List Value → tM → tO} {M : tM} {a1 a2 a3 a4 a5 : Option Value} {x : Nat} {S : List Value} : rn ca C_X10_knocksRefusal 0 [some (.ref x), a1, a2, a3, a4, a5] S M = rn ca C_X10_knocksRefusal 1 [some (.ref x), a1, a2, a3, a4, a5] (.ref x :: S) M := (rn_at k_X10_knocksRefusal_0).trans rfl
theorem k_X10_knocksRefusal_1 : lk 1 C_X10_knocksRefusal = some (.iload_n 1, (0, 0, 0, 0)) := by decide +kernel
theorem s_X10_knocksRefusal_1 {ca : Nat → List Value → tM → tO} {M : tM} {a0 a2 a3 a4 a5 : Option Value} {x : Int32} {S : List Value} : rn ca C_X10_knocksRefusal 1 [a0, some (.int x), a2, a3, a4, a5] S M = rn ca C_X10_knocksRefusal 2 [a0, some (.int x), a2, a3, a4, a5] (.int x :: S) M := (rn_at k_X10_knocksRefusal_1).trans rfl
theorem k_X10_knocksRefusal_2 : lk 2 C_X10_knocksRefusal = some (.invokevirtual 109, (135, 1, 10, 208)) := by decide +kernel
theorem s_X10_knocksRefusal_2 {ca : Nat → List Value → tM → tO} {M : tM} {L : tL} {v1 : Value} {b : Nat} : rn ca C_X10_knocksRefusal 2 L [v1, .ref b] M = if clsO b = some 10 then rnk ca C_X10_knocksRefusal 5 L [] (ca m_X10_rowRefusal [.ref b, v1] M) else none := (rn_at k_X10_knocksRefusal_2).trans rnx_ite
theorem k_X10_knocksRefusal_5 : lk 5 C_X10_knocksRefusal = some (.istore_n 3, (0, 0, 0, 0)) := by decide +kernel
theorem s_X10_knocksRefusal_5 {ca : Nat → List Value → tM → tO} {M : tM} {a0 a1 a2 a3 a4 a5 : Option Value} {x : Int32} {S : List Value} : rn ca C_X10_knocksRefusal 5 [a0, a1, a2, a3, a4, a5] (.int x :: S) M = rn ca C_X10_knocksRefusal 6 [a0, a1, a2, some (.int x), a4, a5] S M := (rn_at k_X10_knocksRefusal_5).trans rfl
theorem k_X10_knocksRefusal_6 : lk 6 C_X10_knocksRefusal = some (.iload_n 3, (0, 0, 0, 0)) := by decide +kernel
theorem s_X10_knocksRefusal_6 {ca : Nat → List Value → tM → tO} {M : tM} {a0 a1 a2 a4 a5 : Option Value} {x : Int32} {S : List Value} : rn ca C_X10_knocksRefusal 6 [a0, a1, a2, some (.int x), a4, a5] S M = rn ca C_X10_knocksRefusal 7 [a0, a1, a2, some (.int x), a4, a5] (.int x :: S) M := (rn_at k_X10_knocksRefusal_6).trans rfl
theorem k_X10_knocksRefusal_7 : lk 7 C_X10_knocksRefusal = some (.ifCond .ge 5, (12, 0, 0, 0)) := by decide +kernel
theorem s_X10_knocksRefusal_7 {ca : Nat → List Value → tM → tO} {M : tM} {L : tL} {x : Int32} {S : List Value} : rn ca C_X10_knocksRefusal 7 L (.int x :: S) M = if iI 0 ≤ x then rn ca C_X10_knocksRefusal 12 L S M else rn ca C_X10_knocksRefusal 10 L S M := (rn_at k_X10_knocksRefusal_7).trans rnx_ite
theorem k_X10_knocksRefusal_10 : lk 10 C_X10_knocksRefusal = some (.iload_n 3, (0, 0, 0, 0)) := by decide +kernel
theorem s_X10_knocksRefusal_10 {ca : Nat → List Value → tM → tO} {M : tM} {a0 a1 a2 a4 a5 : Option Value} {x : Int32} {S : List Value} : rn ca C_X10_knocksRefusal 10 [a0, a1, a2, some (.int x), a4, a5] S M = rn ca C_X10_knocksRefusal 11 [a0, a1, a2, some (.int x), a4, a5] (.int x :: S) M := (rn_at k_X10_knocksRefusal_10).trans rfl
theorem k_X10_knocksRefusal_11 : lk 11 C_X10_knocksRefusal = some (.ireturn, (0, 0, 0, 0)) := by decide +kernel
theorem s_X10_knocksRefusal_11 {ca : Nat → List Value → tM → tO} {M : tM} {L : tL} {x : Int32} : rn ca C_X10_knocksRefusal 11 L [.int x] M = some (some (.int x), M) := (rn_at k_X10_knocksRefusal_11).trans rfl
theorem k_X10_knocksRefusal_12 : lk 12 C_X10_knocksRefusal = some (.iload_n 2, (0, 0, 0, 0)) := by decide +kernel
theorem s_X10_knocksRefusal_12 {ca : Nat → List Value → tM → tO} {M : tM} {a0 a1 a3 a4 a5 : Option Value} {x : Int32} {S : List Value} : rn ca C_X10_knocksRefusal 12 [a0, a1, some (.int x), a3, a4, a5] S M = rn ca C_X10_knocksRefusal 13 [a0, a1, some (.int x), a3, a4, a5] (.int x :: S) M := (rn_at k_X10_knocksRefusal_12).trans rfl
theorem k_X10_knocksRefusal_13 : lk 13 C_X10_knocksRefusal = some (.ifCond .ge 6, (19, 0, 0, 0)) := by decide +kernel
theorem s_X10_knocksRefusal_13 {ca : Nat → List Value → tM → tO} {M : tM} {L : tL} {x : Int32} {S : List Value} : rn ca C_X10_knocksRefusal 13 L (.int x :: S) M = if iI 0 ≤ x then rn ca C_X10_knocksRefusal 19 L S M else rn ca C_X10_knocksRefusal 16 L S M := (rn_at k_X10_knocksRefusal_13).trans rnx_ite
theorem k_X10_knocksRefusal_16 : lk 16 C_X10_knocksRefusal = some (.bipush (-4), (0, 0, 0, 0)) := by decide +kernel
theorem s_X10_knocksRefusal_16 {ca : Nat → List Value → tM → tO} {M : tM} {L : tL} {S : List Value} : rn ca C_X10_knocksRefusal 16 L S M = rn ca C_X10_knocksRefusal 18 L (.int (iI (-4)) :: S) M := (rn_at k_X10_knocksRefusal_16).trans rfl
theorem k_X10_knocksRefusal_18 : lk 18 C_X10_knocksRefusal = some (.ireturn, (0, 0, 0, 0)) := by decide +kernel
theorem s_X10_knocksRefusal_18 {ca : Nat → List Value → tM → tO} {M : tM} {L : tL} {x : Int32} : rn ca C_X10_knocksRefusal 18 L [.int x] M = some (some (.int x), M) := (rn_at k_X10_knocksRefusal_18).trans rfl
theorem k_X10_knocksRefusal_19 : lk 19 C_X10_knocksRefusal = some (.iload_n 2, (0, 0, 0, 0)) := by decide +kernel
theorem s_X10_knocksRefusal_19 {ca : Nat → List Value → tM → tO} {M : tM} {a0 a1 a3 a4 a5 : Option Value} {x : Int32} {S : List Value} : rn ca C_X10_knocksRefusal 19 [a0, a1, some (.int x), a3, a4, a5] S M = rn ca C_X10_knocksRefusal 20 [a0, a1, some (.int x), a3, a4, a5] (.int x :: S) M := (rn_at k_X10_knocksRefusal_19).trans rfl
theorem k_X10_knocksRefusal_20 : lk 20 C_X10_knocksRefusal = some (.aload_n 0, (0, 0, 0, 0)) := by decide +kernel
theorem s_X10_knocksRefusal_20 {ca : Nat → List Value → tM → tO} {M : tM} {a1 a2 a3 a4 a5 : Option Value} {x : Nat} {S : List Value} : rn ca C_X10_knocksRefusal 20 [some (.ref x), a1, a2, a3, a4, a5] S M = rn ca C_X10_knocksRefusal 21 [some (.ref x), a1, a2, a3, a4, a5] (.ref x :: S) M := (rn_at k_X10_knocksRefusal_20).trans rfl
theorem k_X10_knocksRefusal_21 : lk 21 C_X10_knocksRefusal = some (.getfield 25, (10, 3, 0, 22)) := by decide +kernel
theorem s_X10_knocksRefusal_21 {ca : Nat → List Value → tM → tO} {M : tM} {L : tL} {b : Nat} {S : List Value} : rn ca C_X10_knocksRefusal 21 L (.ref b :: S) M = if clsO b = some 10 then rn ca C_X10_knocksRefusal 24 L (fv M b 3 :: S) M else none := (rn_at k_X10_knocksRefusal_21).trans rnx_ite
theorem k_X10_knocksRefusal_24 : lk 24 C_X10_knocksRefusal = some (.iload_n 1, (0, 0, 0, 0)) := by decide +kernel
theorem s_X10_knocksRefusal_24 {ca : Nat → List Value → tM → tO} {M : tM} {a0 a2 a3 a4 a5 : Option Value} {x : Int32} {S : List Value} : rn ca C_X10_knocksRefusal 24 [a0, some (.int x), a2, a3, a4, a5] S M = rn ca C_X10_knocksRefusal 25 [a0, some (.int x), a2, a3, a4, a5] (.int x :: S) M := (rn_at k_X10_knocksRefusal_24).trans rfl
theorem k_X10_knocksRefusal_25 : lk 25 C_X10_knocksRefusal = some (.invokevirtual 112, (68, 1, 8, 216)) := by decide +kernel
theorem s_X10_knocksRefusal_25 {ca : Nat → List Value → tM → tO} {M : tM} {L : tL} {v1 : Value} {r0 : Int32} {b : Nat} : rn ca C_X10_knocksRefusal 25 L [v1, .ref b, .int r0] M = if clsO b = some 8 then rnk ca C_X10_knocksRefusal 28 L [.int r0] (ca m_X8_sizeOf [.ref b, v1] M) else none := (rn_at k_X10_knocksRefusal_25).trans rnx_ite
theorem k_X10_knocksRefusal_28 : lk 28 C_X10_knocksRefusal = some (.iconst 2, (0, 0, 0, 0)) := by decide +kernel
theorem s_X10_knocksRefusal_28 {ca : Nat → List Value → tM → tO} {M : tM} {L : tL} {S : List Value} : rn ca C_X10_knocksRefusal 28 L S M = rn ca C_X10_knocksRefusal 29 L (.int (iI 2) :: S) M := (rn_at k_X10_knocksRefusal_28).trans rfl
theorem k_X10_knocksRefusal_29 : lk 29 C_X10_knocksRefusal = some (.idiv, (0, 0, 0, 0)) := by decide +kernel
theorem s_X10_knocksRefusal_29 {ca : Nat → List Value → tM → tO} {M : tM} {L : tL} {x y : Int32} {S : List Value} : rn ca C_X10_knocksRefusal 29 L (.int y :: .int x :: S) M = if y = iI 0 then none else rn ca C_X10_knocksRefusal 30 L (.int (x / y) :: S) M := (rn_at k_X10_knocksRefusal_29).trans rnx_ite
theorem k_X10_knocksRefusal_30 : lk 30 C_X10_knocksRefusal = some (.if_icmp .le 6, (36, 0, 0, 0)) := by decide +kernel
theorem s_X10_knocksRefusal_30 {ca : Nat → List Value → tM → tO} {M : tM} {L : tL} {x y : Int32} {S : List Value} : rn ca C_X10_knocksRefusal 30 L (.int y :: .int x :: S) M = if x ≤ y then rn ca C_X10_knocksRefusal 36 L S M else rn ca C_X10_knocksRefusal 33 L S M := (rn_at k_X10_knocksRefusal_30).trans rnx_ite
theorem k_X10_knocksRefusal_33 : lk 33 C_X10_knocksRefusal = some (.bipush (-5), (0, 0, 0, 0)) := by decide +kernel
theorem s_X10_knocksRefusal_33 {ca : Nat → List Value → tM → tO} {M : tM} {L : tL} {S : List Value} : rn ca C_X10_knocksRefusal 33 L S M = rn ca C_X10_knocksRefusal 35 L (.int (iI (-5)) :: S) M := (rn_at k_X10_knocksRefusal_33).trans rfl
theorem k_X10_knocksRefusal_35 : lk 35 C_X10_knocksRefusal = some (.ireturn, (0, 0, 0, 0)) := by decide +kernel
theorem s_X10_knocksRefusal_35 {ca : Nat → List Value → tM → tO} {M : tM} {L : tL} {x : Int32} : rn ca C_X10_knocksRefusal 35 L [.int x] M = some (some (.int x), M) := (rn_at k_X10_knocksRefusal_35).trans rfl
theorem k_X10_knocksRefusal_36 : lk 36 C_X10_knocksRefusal = some (.iload_n 2, (0, 0, 0, 0)) := by decide +kernel
theorem s_X10_knocksRefusal_36 {ca : Nat → List Value → tM → tO} {M : tM} {a0 a1 a3 a4 a5 : Option Value} {x : Int32} {S : List Value} : rn ca C_X10_knocksRefusal 36 [a0, a1, some (.int x), a3, a4, a5] S M = rn ca C_X10_knocksRefusal 37 [a0, a1, some (.int x), a3, a4, a5] (.int x :: S) M := (rn_at k_X10_knocksRefusal_36).trans rfl
theorem k_X10_knocksRefusal_37 : lk 37 C_X10_knocksRefusal = some (.iconst 1, (0, 0, 0, 0)) := by decide +kernel
theorem s_X10_knocksRefusal_37 {ca : Nat → List Value → tM → tO} {M : tM} {L : tL} {S : List Value} : rn ca C_X10_knocksRefusal 37 L S M = rn ca C_X10_knocksRefusal 38 L (.int (iI 1) :: S) M := (rn_at k_X10_knocksRefusal_37).trans rfl
theorem k_X10_knocksRefusal_38 : lk 38 C_X10_knocksRefusal = some (.if_icmp .lt 9, (47, 0, 0, 0)) := by decide +kernel
theorem s_X10_knocksRefusal_38 {ca : Nat → List Value → tM → tO} {M : tM} {L : tL} {x y : Int32} {S : List Value} : rn ca C_X10_knocksRefusal 38 L (.int y :: .int x :: S) M = if x < y then rn ca C_X10_knocksRefusal 47 L S M else rn ca C_X10_knocksRefusal 41 L S M := (rn_at k_X10_knocksRefusal_38).trans rnx_ite
theorem k_X10_knocksRefusal_41 : lk 41 C_X10_knocksRefusal = some (.iload_n 2, (0, 0, 0, 0)) := by decide +kernel
theorem s_X10_knocksRefusal_41 {ca : Nat → List Value → tM → tO} {M : tM} {a0 a1 a3 a4 a5 : Option Value} {x : Int32} {S : List Value} : rn ca C_X10_knocksRefusal 41 [a0, a1, some (.int x), a3, a4, a5] S M = rn ca C_X10_knocksRefusal 42 [a0, a1, some (.int x), a3, a4, a5] (.int x :: S) M := (rn_at k_X10_knocksRefusal_41).trans rfl
theorem k_X10_knocksRefusal_42 : lk 42 C_X10_knocksRefusal = some (.bipush 8, (0, 0, 0, 0)) := by decide +kernel
theorem s_X10_knocksRefusal_42 {ca : Nat → List Value → tM → tO} {M : tM} {L : tL} {S : List Value} : rn ca C_X10_knocksRefusal 42 L S M = rn ca C_X10_knocksRefusal 44 L (.int (iI 8) :: S) M := (rn_at k_X10_knocksRefusal_42).trans rfl
theorem k_X10_knocksRefusal_44 : lk 44 C_X10_knocksRefusal = some (.if_icmp .le 6, (50, 0, 0, 0)) := by decide +kernel
theorem s_X10_knocksRefusal_44 {ca : Nat → List Value → tM → tO} {M : tM} {L : tL} {x y : Int32} {S : List Value} : rn ca C_X10_knocksRefusal 44 L (.int y :: .int x :: S) M = if x ≤ y then rn ca C_X10_knocksRefusal 50 L S M else rn ca C_X10_knocksRefusal 47 L S M := (rn_at k_X10_knocksRefusal_44).trans rnx_ite
theorem k_X10_knocksRefusal_47 : lk 47 C_X10_knocksRefusal = some (.bipush (-6), (0, 0, 0, 0)) := by decide +kernel
theorem s_X10_knocksRefusal_47 {ca : Nat → List Value → tM → tO} {M : tM} {L : tL} {S : List Value} : rn ca C_X10_knocksRefusal 47 L S M = rn ca C_X10_knocksRefusal 49 L (.int (iI (-6)) :: S) M := (rn_at k_X10_knocksRefusal_47).trans rfl
theorem k_X10_knocksRefusal_49 : lk 49 C_X10_knocksRefusal = some (.ireturn, (0, 0, 0, 0)) := by decide +kernel
theorem s_X10_knocksRefusal_49 {ca : Nat → List Value → tM → tO} {M : tM} {L : tL} {x : Int32} : rn ca C_X10_knocksRefusal 49 L [.int x] M = some (some (.int x), M) := (rn_at k_X10_knocksRefusal_49).trans rfl
theorem k_X10_knocksRefusal_50 : lk 50 C_X10_knocksRefusal = some (.iconst 0, (0, 0, 0, 0)) := by decide +kernel
theorem s_X10_knocksRefusal_50 {ca : Nat → List Value → tM → tO} {M : tM} {L : tL} {S : List Value} : rn ca C_X10_knocksRefusal 50 L S M = rn ca C_X10_knocksRefusal 51 L (.int (iI 0) :: S) M := (rn_at k_X10_knocksRefusal_50).trans rfl
theorem k_X10_knocksRefusal_51 : lk 51 C_X10_knocksRefusal = some (.istore 4, (0, 0, 0, 0)) := by decide +kernel
theorem s_X10_knocksRefusal_51 {ca : Nat → List Value → tM → tO} {M : tM} {a0 a1 a2 a3 a4 a5 : Option Value} {x : Int32} {S : List Value} : rn ca C_X10_knocksRefusal 51 [a0, a1, a2, a3, a4, a5] (.int x :: S) M = rn ca C_X10_knocksRefusal 53 [a0, a1, a2, a3, some (.int x), a5] S M := (rn_at k_X10_knocksRefusal_51).trans rfl
theorem k_X10_knocksRefusal_53 : lk 53 C_X10_knocksRefusal = some (.iload 4, (0, 0, 0, 0)) := by decide +kernel
theorem s_X10_knocksRefusal_53 {ca : Nat → List Value → tM → tO} {M : tM} {a0 a1 a2 a3 a5 : Option Value} {x : Int32} {S : List Value} : rn ca C_X10_knocksRefusal 53 [a0, a1, a2, a3, some (.int x), a5] S M = rn ca C_X10_knocksRefusal 55 [a0, a1, a2, a3, some (.int x), a5] (.int x :: S) M := (rn_at k_X10_knocksRefusal_53).trans rfl
theorem k_X10_knocksRefusal_55 : lk 55 C_X10_knocksRefusal = some (.iload_n 2, (0, 0, 0, 0)) := by decide +kernel
theorem s_X10_knocksRefusal_55 {ca : Nat → List Value → tM → tO} {M : tM} {a0 a1 a3 a4 a5 : Option Value} {x : Int32} {S : List Value} : rn ca C_X10_knocksRefusal 55 [a0, a1, some (.int x), a3, a4, a5] S M = rn ca C_X10_knocksRefusal 56 [a0, a1, some (.int x), a3, a4, a5] (.int x :: S) M := (rn_at k_X10_knocksRefusal_55).trans rfl
theorem k_X10_knocksRefusal_56 : lk 56 C_X10_knocksRefusal = some (.if_icmp .ge 63, (119, 0, 0, 0)) := by decide +kernel
theorem s_X10_knocksRefusal_56 {ca : Nat → List Value → tM → tO} {M : tM} {L : tL} {x y : Int32} {S : List Value} : rn ca C_X10_knocksRefusal 56 L (.int y :: .int x :: S) M = if y ≤ x then rn ca C_X10_knocksRefusal 119 L S M else rn ca C_X10_knocksRefusal 59 L S M := (rn_at k_X10_knocksRefusal_56).trans rnx_ite
theorem k_X10_knocksRefusal_59 : lk 59 C_X10_knocksRefusal = some (.aload_n 0, (0, 0, 0, 0)) := by decide +kernel
theorem s_X10_knocksRefusal_59 {ca : Nat → List Value → tM → tO} {M : tM} {a1 a2 a3 a4 a5 : Option Value} {x : Nat} {S : List Value} : rn ca C_X10_knocksRefusal 59 [some (.ref x), a1, a2, a3, a4, a5] S M = rn ca C_X10_knocksRefusal 60 [some (.ref x), a1, a2, a3, a4, a5] (.ref x :: S) M := (rn_at k_X10_knocksRefusal_59).trans rfl
theorem k_X10_knocksRefusal_60 : lk 60 C_X10_knocksRefusal = some (.getfield 25, (10, 3, 0, 22)) := by decide +kernel
theorem s_X10_knocksRefusal_60 {ca : Nat → List Value → tM → tO} {M : tM} {L : tL} {b : Nat} {S : List Value} : rn ca C_X10_knocksRefusal 60 L (.ref b :: S) M = if clsO b = some 10 then rn ca C_X10_knocksRefusal 63 L (fv M b 3 :: S) M else none := (rn_at k_X10_knocksRefusal_60).trans rnx_ite
theorem k_X10_knocksRefusal_63 : lk 63 C_X10_knocksRefusal = some (.iload_n 1, (0, 0, 0, 0)) := by decide +kernel
theorem s_X10_knocksRefusal_63 {ca : Nat → List Value → tM → tO} {M : tM} {a0 a2 a3 a4 a5 : Option Value} {x : Int32} {S : List Value} : rn ca C_X10_knocksRefusal 63 [a0, some (.int x), a2, a3, a4, a5] S M = rn ca C_X10_knocksRefusal 64 [a0, some (.int x), a2, a3, a4, a5] (.int x :: S) M := (rn_at k_X10_knocksRefusal_63).trans rfl
theorem k_X10_knocksRefusal_64 : lk 64 C_X10_knocksRefusal = some (.iconst 2, (0, 0, 0, 0)) := by decide +kernel
theorem s_X10_knocksRefusal_64 {ca : Nat → List Value → tM → tO} {M : tM} {L : tL} {S : List Value} : rn ca C_X10_knocksRefusal 64 L S M = rn ca C_X10_knocksRefusal 65 L (.int (iI 2) :: S) M := (rn_at k_X10_knocksRefusal_64).trans rfl
theorem k_X10_knocksRefusal_65 : lk 65 C_X10_knocksRefusal = some (.iload 4, (0, 0, 0, 0)) := by decide +kernel
theorem s_X10_knocksRefusal_65 {ca : Nat → List Value → tM → tO} {M : tM} {a0 a1 a2 a3 a5 : Option Value} {x : Int32} {S : List Value} : rn ca C_X10_knocksRefusal 65 [a0, a1, a2, a3, some (.int x), a5] S M = rn ca C_X10_knocksRefusal 67 [a0, a1, a2, a3, some (.int x), a5] (.int x :: S) M := (rn_at k_X10_knocksRefusal_65).trans rfl
theorem k_X10_knocksRefusal_67 : lk 67 C_X10_knocksRefusal = some (.imul, (0, 0, 0, 0)) := by decide +kernel
theorem s_X10_knocksRefusal_67 {ca : Nat → List Value → tM → tO} {M : tM} {L : tL} {x y : Int32} {S : List Value} : rn ca C_X10_knocksRefusal 67 L (.int y :: .int x :: S) M = rn ca C_X10_knocksRefusal 68 L (.int (x * y) :: S) M := (rn_at k_X10_knocksRefusal_67).trans rfl
theorem k_X10_knocksRefusal_68 : lk 68 C_X10_knocksRefusal = some (.iconst 1, (0, 0, 0, 0)) := by decide +kernel
theorem s_X10_knocksRefusal_68 {ca : Nat → List Value → tM → tO} {M : tM} {L : tL} {S : List Value} : rn ca C_X10_knocksRefusal 68 L S M = rn ca C_X10_knocksRefusal 69 L (.int (iI 1) :: S) M := (rn_at k_X10_knocksRefusal_68).trans rfl
theorem k_X10_knocksRefusal_69 : lk 69 C_X10_knocksRefusal = some (.iadd, (0, 0, 0, 0)) := by decide +kernel
theorem s_X10_knocksRefusal_69 {ca : Nat → List Value → tM → tO} {M : tM} {L : tL} {x y : Int32} {S : List Value} : rn ca C_X10_knocksRefusal 69 L (.int y :: .int x :: S) M = rn ca C_X10_knocksRefusal 70 L (.int (x + y) :: S) M := (rn_at k_X10_knocksRefusal_69).trans rfl
theorem k_X10_knocksRefusal_70 : lk 70 C_X10_knocksRefusal = some (.invokevirtual 383, (73, 2, 8, 944)) := by decide +kernel
theorem s_X10_knocksRefusal_70 {ca : Nat → List Value → tM → tO} {M : tM} {L : tL} {v1 v2 : Value} {b : Nat} : rn ca C_X10_knocksRefusal 70 L [v2, v1, .ref b] M = if clsO b = some 8 then rnk ca C_X10_knocksRefusal 73 L [] (ca m_X8_intAt [.ref b, v1, v2] M) else none := (rn_at k_X10_knocksRefusal_70).trans rnx_ite
theorem k_X10_knocksRefusal_73 : lk 73 C_X10_knocksRefusal = some (.istore 5, (0, 0, 0, 0)) := by decide +kernel
theorem s_X10_knocksRefusal_73 {ca : Nat → List Value → tM → tO} {M : tM} {a0 a1 a2 a3 a4 a5 : Option Value} {x : Int32} {S : List Value} : rn ca C_X10_knocksRefusal 73 [a0, a1, a2, a3, a4, a5] (.int x :: S) M = rn ca C_X10_knocksRefusal 75 [a0, a1, a2, a3, a4, some (.int x)] S M := (rn_at k_X10_knocksRefusal_73).trans rfl
theorem k_X10_knocksRefusal_75 : lk 75 C_X10_knocksRefusal = some (.aload_n 0, (0, 0, 0, 0)) := by decide +kernel
theorem s_X10_knocksRefusal_75 {ca : Nat → List Value → tM → tO} {M : tM} {a1 a2 a3 a4 a5 : Option Value} {x : Nat} {S : List Value} : rn ca C_X10_knocksRefusal 75 [some (.ref x), a1, a2, a3, a4, a5] S M = rn ca C_X10_knocksRefusal 76 [some (.ref x), a1, a2, a3, a4, a5] (.ref x :: S) M := (rn_at k_X10_knocksRefusal_75).trans rfl
theorem k_X10_knocksRefusal_76 : lk 76 C_X10_knocksRefusal = some (.getfield 10, (10, 0, 0, 16)) := by decide +kernel
theorem s_X10_knocksRefusal_76 {ca : Nat → List Value → tM → tO} {M : tM} {L : tL} {b : Nat} {S : List Value} : rn ca C_X10_knocksRefusal 76 L (.ref b :: S) M = if clsO b = some 10 then rn ca C_X10_knocksRefusal 79 L (fv M b 0 :: S) M else none := (rn_at k_X10_knocksRefusal_76).trans rnx_ite
theorem k_X10_knocksRefusal_79 : lk 79 C_X10_knocksRefusal = some (.aload_n 0, (0, 0, 0, 0)) := by decide +kernel
theorem s_X10_knocksRefusal_79 {ca : Nat → List Value → tM → tO} {M : tM} {a1 a2 a3 a4 a5 : Option Value} {x : Nat} {S : List Value} : rn ca C_X10_knocksRefusal 79 [some (.ref x), a1, a2, a3, a4, a5] S M = rn ca C_X10_knocksRefusal 80 [some (.ref x), a1, a2, a3, a4, a5] (.ref x :: S) M := (rn_at k_X10_knocksRefusal_79).trans rfl
theorem k_X10_knocksRefusal_80 : lk 80 C_X10_knocksRefusal = some (.getfield 25, (10, 3, 0, 22)) := by decide +kernel
theorem s_X10_knocksRefusal_80 {ca : Nat → List Value → tM → tO} {M : tM} {L : tL} {b : Nat} {S : List Value} : rn ca C_X10_knocksRefusal 80 L (.ref b :: S) M = if clsO b = some 10 then rn ca C_X10_knocksRefusal 83 L (fv M b 3 :: S) M else none := (rn_at k_X10_knocksRefusal_80).trans rnx_ite
theorem k_X10_knocksRefusal_83 : lk 83 C_X10_knocksRefusal = some (.iload_n 1, (0, 0, 0, 0)) := by decide +kernel
theorem s_X10_knocksRefusal_83 {ca : Nat → List Value → tM → tO} {M : tM} {a0 a2 a3 a4 a5 : Option Value} {x : Int32} {S : List Value} : rn ca C_X10_knocksRefusal 83 [a0, some (.int x), a2, a3, a4, a5] S M = rn ca C_X10_knocksRefusal 84 [a0, some (.int x), a2, a3, a4, a5] (.int x :: S) M := (rn_at k_X10_knocksRefusal_83).trans rfl
theorem k_X10_knocksRefusal_84 : lk 84 C_X10_knocksRefusal = some (.iconst 2, (0, 0, 0, 0)) := by decide +kernel
theorem s_X10_knocksRefusal_84 {ca : Nat → List Value → tM → tO} {M : tM} {L : tL} {S : List Value} : rn ca C_X10_knocksRefusal 84 L S M = rn ca C_X10_knocksRefusal 85 L (.int (iI 2) :: S) M := (rn_at k_X10_knocksRefusal_84).trans rfl
theorem k_X10_knocksRefusal_85 : lk 85 C_X10_knocksRefusal = some (.iload 4, (0, 0, 0, 0)) := by decide +kernel
theorem s_X10_knocksRefusal_85 {ca : Nat → List Value → tM → tO} {M : tM} {a0 a1 a2 a3 a5 : Option Value} {x : Int32} {S : List Value} : rn ca C_X10_knocksRefusal 85 [a0, a1, a2, a3, some (.int x), a5] S M = rn ca C_X10_knocksRefusal 87 [a0, a1, a2, a3, some (.int x), a5] (.int x :: S) M := (rn_at k_X10_knocksRefusal_85).trans rfl
theorem k_X10_knocksRefusal_87 : lk 87 C_X10_knocksRefusal = some (.imul, (0, 0, 0, 0)) := by decide +kernel
theorem s_X10_knocksRefusal_87 {ca : Nat → List Value → tM → tO} {M : tM} {L : tL} {x y : Int32} {S : List Value} : rn ca C_X10_knocksRefusal 87 L (.int y :: .int x :: S) M = rn ca C_X10_knocksRefusal 88 L (.int (x * y) :: S) M := (rn_at k_X10_knocksRefusal_87).trans rfl
theorem k_X10_knocksRefusal_88 : lk 88 C_X10_knocksRefusal = some (.invokevirtual 383, (73, 2, 8, 944)) := by decide +kernel
theorem s_X10_knocksRefusal_88 {ca : Nat → List Value → tM → tO} {M : tM} {L : tL} {v1 v2 : Value} {r0 : Nat} {b : Nat} : rn ca C_X10_knocksRefusal 88 L [v2, v1, .ref b, .ref r0] M = if clsO b = some 8 then rnk ca C_X10_knocksRefusal 91 L [.ref r0] (ca m_X8_intAt [.ref b, v1, v2] M) else none := (rn_at k_X10_knocksRefusal_88).trans rnx_ite
theorem k_X10_knocksRefusal_91 : lk 91 C_X10_knocksRefusal = some (.invokevirtual 174, (18, 1, 4, 368)) := by decide +kernel
theorem s_X10_knocksRefusal_91 {ca : Nat → List Value → tM → tO} {M : tM} {L : tL} {v1 : Value} {b : Nat} : rn ca C_X10_knocksRefusal 91 L [v1, .ref b] M = if clsO b = some 4 then rnk ca C_X10_knocksRefusal 94 L [] (ca m_X4_hasDesk [.ref b, v1] M) else none := (rn_at k_X10_knocksRefusal_91).trans rnx_ite
theorem k_X10_knocksRefusal_94 : lk 94 C_X10_knocksRefusal = some (.ifCond .eq 16, (110, 0, 0, 0)) := by decide +kernel
theorem s_X10_knocksRefusal_94 {ca : Nat → List Value → tM → tO} {M : tM} {L : tL} {x : Int32} {S : List Value} : rn ca C_X10_knocksRefusal 94 L (.int x :: S) M = if x = iI 0 then rn ca C_X10_knocksRefusal 110 L S M else rn ca C_X10_knocksRefusal 97 L S M := (rn_at k_X10_knocksRefusal_94).trans rnx_ite
theorem k_X10_knocksRefusal_97 : lk 97 C_X10_knocksRefusal = some (.iload 5, (0, 0, 0, 0)) := by decide +kernel
theorem s_X10_knocksRefusal_97 {ca : Nat → List Value → tM → tO} {M : tM} {a0 a1 a2 a3 a4 : Option Value} {x : Int32} {S : List Value} : rn ca C_X10_knocksRefusal 97 [a0, a1, a2, a3, a4, some (.int x)] S M = rn ca C_X10_knocksRefusal 99 [a0, a1, a2, a3, a4, some (.int x)] (.int x :: S) M := (rn_at k_X10_knocksRefusal_97).trans rfl
theorem k_X10_knocksRefusal_99 : lk 99 C_X10_knocksRefusal = some (.ifCond .lt 11, (110, 0, 0, 0)) := by decide +kernel
theorem s_X10_knocksRefusal_99 {ca : Nat → List Value → tM → tO} {M : tM} {L : tL} {x : Int32} {S : List Value} : rn ca C_X10_knocksRefusal 99 L (.int x :: S) M = if x < iI 0 then rn ca C_X10_knocksRefusal 110 L S M else rn ca C_X10_knocksRefusal 102 L S M := (rn_at k_X10_knocksRefusal_99).trans rnx_ite
theorem k_X10_knocksRefusal_102 : lk 102 C_X10_knocksRefusal = some (.iload 5, (0, 0, 0, 0)) := by decide +kernel
theorem s_X10_knocksRefusal_102 {ca : Nat → List Value → tM → tO} {M : tM} {a0 a1 a2 a3 a4 : Option Value} {x : Int32} {S : List Value} : rn ca C_X10_knocksRefusal 102 [a0, a1, a2, a3, a4, some (.int x)] S M = rn ca C_X10_knocksRefusal 104 [a0, a1, a2, a3, a4, some (.int x)] (.int x :: S) M := (rn_at k_X10_knocksRefusal_102).trans rfl
theorem k_X10_knocksRefusal_104 : lk 104 C_X10_knocksRefusal = some (.sipush 999, (0, 0, 0, 0)) := by decide +kernel
theorem s_X10_knocksRefusal_104 {ca : Nat → List Value → tM → tO} {M : tM} {L : tL} {S : List Value} : rn ca C_X10_knocksRefusal 104 L S M = rn ca C_X10_knocksRefusal 107 L (.int (iI 999) :: S) M := (rn_at k_X10_knocksRefusal_104).trans rfl
theorem k_X10_knocksRefusal_107 : lk 107 C_X10_knocksRefusal = some (.if_icmp .le 6, (113, 0, 0, 0)) := by decide +kernel
theorem s_X10_knocksRefusal_107 {ca : Nat → List Value → tM → tO} {M : tM} {L : tL} {x y : Int32} {S : List Value} : rn ca C_X10_knocksRefusal 107 L (.int y :: .int x :: S) M = if x ≤ y then rn ca C_X10_knocksRefusal 113 L S M else rn ca C_X10_knocksRefusal 110 L S M := (rn_at k_X10_knocksRefusal_107).trans rnx_ite
theorem k_X10_knocksRefusal_110 : lk 110 C_X10_knocksRefusal = some (.bipush (-6), (0, 0, 0, 0)) := by decide +kernel
theorem s_X10_knocksRefusal_110 {ca : Nat → List Value → tM → tO} {M : tM} {L : tL} {S : List Value} : rn ca C_X10_knocksRefusal 110 L S M = rn ca C_X10_knocksRefusal 112 L (.int (iI (-6)) :: S) M := (rn_at k_X10_knocksRefusal_110).trans rfl
theorem k_X10_knocksRefusal_112 : lk 112 C_X10_knocksRefusal = some (.ireturn, (0, 0, 0, 0)) := by decide +kernel
theorem s_X10_knocksRefusal_112 {ca : Nat → List Value → tM → tO} {M : tM} {L : tL} {x : Int32} : rn ca C_X10_knocksRefusal 112 L [.int x] M = some (some (.int x), M) := (rn_at k_X10_knocksRefusal_112).trans rfl
theorem k_X10_knocksRefusal_113 : lk 113 C_X10_knocksRefusal = some (.iinc 4 1, (0, 0, 0, 0)) := by decide +kernel
theorem s_X10_knocksRefusal_113 {ca : Nat → List Value → tM → tO} {M : tM} {a0 a1 a2 a3 a5 : Option Value} {x : Int32} {S : List Value} : rn ca C_X10_knocksRefusal 113 [a0, a1, a2, a3, some (.int x), a5] S M = rn ca C_X10_knocksRefusal 116 [a0, a1, a2, a3, some (.int (x + iI 1)), a5] S M := (rn_at k_X10_knocksRefusal_113).trans rfl
theorem k_X10_knocksRefusal_116 : lk 116 C_X10_knocksRefusal = some (.goto (-63), (53, 0, 0, 0)) := by decide +kernel
theorem s_X10_knocksRefusal_116 {ca : Nat → List Value → tM → tO} {M : tM} {L : tL} {S : List Value} : rn ca C_X10_knocksRefusal 116 L S M = rn ca C_X10_knocksRefusal 53 L S M := (rn_at k_X10_knocksRefusal_116).trans rfl
theorem k_X10_knocksRefusal_119 : lk 119 C_X10_knocksRefusal = some (.iconst 0, (0, 0, 0, 0)) := by decide +kernel
theorem s_X10_knocksRefusal_119 {ca : Nat → List Value → tM → tO} {M : tM} {L : tL} {S : List Value} : rn ca C_X10_knocksRefusal 119 L S M = rn ca C_X10_knocksRefusal 120 L (.int (iI 0) :: S) M := (rn_at k_X10_knocksRefusal_119).trans rfl
theorem k_X10_knocksRefusal_120 : lk 120 C_X10_knocksRefusal = some (.ireturn, (0, 0, 0, 0)) := by decide +kernel
theorem s_X10_knocksRefusal_120 {ca : Nat → List Value → tM → tO} {M : tM} {L : tL} {x : Int32} : rn ca C_X10_knocksRefusal 120 L [.int x] M = some (some (.int x), M) := (rn_at k_X10_knocksRefusal_120).trans rfl
theorem k_X10_legsRefusal_0 : lk 0 C_X10_legsRefusal = some (.aload_n 0, (0, 0, 0, 0)) := by decide +kernel
theorem s_X10_legsRefusal_0 {ca : Nat → List Value → tM → tO} {M : tM} {a1 a2 a3 : Option Value} {x : Nat} {S : List Value} : rn ca C_X10_legsRefusal 0 [some (.ref x), a1, a2, a3] S M = rn ca C_X10_legsRefusal 1 [some (.ref x), a1, a2, a3] (.ref x :: S) M := (rn_at k_X10_legsRefusal_0).trans rfl
theorem k_X10_legsRefusal_1 : lk 1 C_X10_legsRefusal = some (.iload_n 1, (0, 0, 0, 0)) := by decide +kernel
theorem s_X10_legsRefusal_1 {ca : Nat → List Value → tM → tO} {M : tM} {a0 a2 a3 : Option Value} {x : Int32} {S : List Value} : rn ca C_X10_legsRefusal 1 [a0, some (.int x), a2, a3] S M = rn ca C_X10_legsRefusal 2 [a0, some (.int x), a2, a3] (.int x :: S) M := (rn_at k_X10_legsRefusal_1).trans rfl
theorem k_X10_legsRefusal_2 : lk 2 C_X10_legsRefusal = some (.invokevirtual 109, (135, 1, 10, 208)) := by decide +kernel
theorem s_X10_legsRefusal_2 {ca : Nat → List Value → tM → tO} {M : tM} {L : tL} {v1 : Value} {b : Nat} : rn ca C_X10_legsRefusal 2 L [v1, .ref b] M = if clsO b = some 10 then rnk ca C_X10_legsRefusal 5 L [] (ca m_X10_rowRefusal [.ref b, v1] M) else none := (rn_at k_X10_legsRefusal_2).trans rnx_ite
theorem k_X10_legsRefusal_5 : lk 5 C_X10_legsRefusal = some (.istore_n 3, (0, 0, 0, 0)) := by decide +kernel
theorem s_X10_legsRefusal_5 {ca : Nat → List Value → tM → tO} {M : tM} {a0 a1 a2 a3 : Option Value} {x : Int32} {S : List Value} : rn ca C_X10_legsRefusal 5 [a0, a1, a2, a3] (.int x :: S) M = rn ca C_X10_legsRefusal 6 [a0, a1, a2, some (.int x)] S M := (rn_at k_X10_legsRefusal_5).trans rfl
theorem k_X10_legsRefusal_6 : lk 6 C_X10_legsRefusal = some (.iload_n 3, (0, 0, 0, 0)) := by decide +kernel
theorem s_X10_legsRefusal_6 {ca : Nat → List Value → tM → tO} {M : tM} {a0 a1 a2 : Option Value} {x : Int32} {S : List Value} : rn ca C_X10_legsRefusal 6 [a0, a1, a2, some (.int x)] S M = rn ca C_X10_legsRefusal 7 [a0, a1, a2, some (.int x)] (.int x :: S) M := (rn_at k_X10_legsRefusal_6).trans rfl
theorem k_X10_legsRefusal_7 : lk 7 C_X10_legsRefusal = some (.ifCond .ge 5, (12, 0, 0, 0)) := by decide +kernel
theorem s_X10_legsRefusal_7 {ca : Nat → List Value → tM → tO} {M : tM} {L : tL} {x : Int32} {S : List Value} : rn ca C_X10_legsRefusal 7 L (.int x :: S) M = if iI 0 ≤ x then rn ca C_X10_legsRefusal 12 L S M else rn ca C_X10_legsRefusal 10 L S M := (rn_at k_X10_legsRefusal_7).trans rnx_ite
theorem k_X10_legsRefusal_10 : lk 10 C_X10_legsRefusal = some (.iload_n 3, (0, 0, 0, 0)) := by decide +kernel
theorem s_X10_legsRefusal_10 {ca : Nat → List Value → tM → tO} {M : tM} {a0 a1 a2 : Option Value} {x : Int32} {S : List Value} : rn ca C_X10_legsRefusal 10 [a0, a1, a2, some (.int x)] S M = rn ca C_X10_legsRefusal 11 [a0, a1, a2, some (.int x)] (.int x :: S) M := (rn_at k_X10_legsRefusal_10).trans rfl
theorem k_X10_legsRefusal_11 : lk 11 C_X10_legsRefusal = some (.ireturn, (0, 0, 0, 0)) := by decide +kernel
theorem s_X10_legsRefusal_11 {ca : Nat → List Value → tM → tO} {M : tM} {L : tL} {x : Int32} : rn ca C_X10_legsRefusal 11 L [.int x] M = some (some (.int x), M) := (rn_at k_X10_legsRefusal_11).trans rfl
theorem k_X10_legsRefusal_12 : lk 12 C_X10_legsRefusal = some (.iload_n 2, (0, 0, 0, 0)) := by decide +kernel
theorem s_X10_legsRefusal_12 {ca : Nat → List Value → tM → tO} {M : tM} {a0 a1 a3 : Option Value} {x : Int32} {S : List Value} : rn ca C_X10_legsRefusal 12 [a0, a1, some (.int x), a3] S M = rn ca C_X10_legsRefusal 13 [a0, a1, some (.int x), a3] (.int x :: S) M := (rn_at k_X10_legsRefusal_12).trans rfl
theorem k_X10_legsRefusal_13 : lk 13 C_X10_legsRefusal = some (.ifCond .ge 6, (19, 0, 0, 0)) := by decide +kernel
theorem s_X10_legsRefusal_13 {ca : Nat → List Value → tM → tO} {M : tM} {L : tL} {x : Int32} {S : List Value} : rn ca C_X10_legsRefusal 13 L (.int x :: S) M = if iI 0 ≤ x then rn ca C_X10_legsRefusal 19 L S M else rn ca C_X10_legsRefusal 16 L S M := (rn_at k_X10_legsRefusal_13).trans rnx_ite
theorem k_X10_legsRefusal_16 : lk 16 C_X10_legsRefusal = some (.bipush (-4), (0, 0, 0, 0)) := by decide +kernel
theorem s_X10_legsRefusal_16 {ca : Nat → List Value → tM → tO} {M : tM} {L : tL} {S : List Value} : rn ca C_X10_legsRefusal 16 L S M = rn ca C_X10_legsRefusal 18 L (.int (iI (-4)) :: S) M := (rn_at k_X10_legsRefusal_16).trans rfl
theorem k_X10_legsRefusal_18 : lk 18 C_X10_legsRefusal = some (.ireturn, (0, 0, 0, 0)) := by decide +kernel
theorem s_X10_legsRefusal_18 {ca : Nat → List Value → tM → tO} {M : tM} {L : tL} {x : Int32} : rn ca C_X10_legsRefusal 18 L [.int x] M = some (some (.int x), M) := (rn_at k_X10_legsRefusal_18).trans rfl
theorem k_X10_legsRefusal_19 : lk 19 C_X10_legsRefusal = some (.iload_n 2, (0, 0, 0, 0)) := by decide +kernel
theorem s_X10_legsRefusal_19 {ca : Nat → List Value → tM → tO} {M : tM} {a0 a1 a3 : Option Value} {x : Int32} {S : List Value} : rn ca C_X10_legsRefusal 19 [a0, a1, some (.int x), a3] S M = rn ca C_X10_legsRefusal 20 [a0, a1, some (.int x), a3] (.int x :: S) M := (rn_at k_X10_legsRefusal_19).trans rfl
theorem k_X10_legsRefusal_20 : lk 20 C_X10_legsRefusal = some (.aload_n 0, (0, 0, 0, 0)) := by decide +kernel
theorem s_X10_legsRefusal_20 {ca : Nat → List Value → tM → tO} {M : tM} {a1 a2 a3 : Option Value} {x : Nat} {S : List Value} : rn ca C_X10_legsRefusal 20 [some (.ref x), a1, a2, a3] S M = rn ca C_X10_legsRefusal 21 [some (.ref x), a1, a2, a3] (.ref x :: S) M := (rn_at k_X10_legsRefusal_20).trans rfl
theorem k_X10_legsRefusal_21 : lk 21 C_X10_legsRefusal = some (.getfield 25, (10, 3, 0, 22)) := by decide +kernel
theorem s_X10_legsRefusal_21 {ca : Nat → List Value → tM → tO} {M : tM} {L : tL} {b : Nat} {S : List Value} : rn ca C_X10_legsRefusal 21 L (.ref b :: S) M = if clsO b = some 10 then rn ca C_X10_legsRefusal 24 L (fv M b 3 :: S) M else none := (rn_at k_X10_legsRefusal_21).trans rnx_ite
theorem k_X10_legsRefusal_24 : lk 24 C_X10_legsRefusal = some (.iload_n 1, (0, 0, 0, 0)) := by decide +kernel
theorem s_X10_legsRefusal_24 {ca : Nat → List Value → tM → tO} {M : tM} {a0 a2 a3 : Option Value} {x : Int32} {S : List Value} : rn ca C_X10_legsRefusal 24 [a0, some (.int x), a2, a3] S M = rn ca C_X10_legsRefusal 25 [a0, some (.int x), a2, a3] (.int x :: S) M := (rn_at k_X10_legsRefusal_24).trans rfl
theorem k_X10_legsRefusal_25 : lk 25 C_X10_legsRefusal = some (.invokevirtual 112, (68, 1, 8, 216)) := by decide +kernel
theorem s_X10_legsRefusal_25 {ca : Nat → List Value → tM → tO} {M : tM} {L : tL} {v1 : Value} {r0 : Int32} {b : Nat} : rn ca C_X10_legsRefusal 25 L [v1, .ref b, .int r0] M = if clsO b = some 8 then rnk ca C_X10_legsRefusal 28 L [.int r0] (ca m_X8_sizeOf [.ref b, v1] M) else none := (rn_at k_X10_legsRefusal_25).trans rnx_ite
theorem k_X10_legsRefusal_28 : lk 28 C_X10_legsRefusal = some (.if_icmp .le 8, (36, 0, 0, 0)) := by decide +kernel
theorem s_X10_legsRefusal_28 {ca : Nat → List Value → tM → tO} {M : tM} {L : tL} {x y : Int32} {S : List Value} : rn ca C_X10_legsRefusal 28 L (.int y :: .int x :: S) M = if x ≤ y then rn ca C_X10_legsRefusal 36 L S M else rn ca C_X10_legsRefusal 31 L S M := (rn_at k_X10_legsRefusal_28).trans rnx_ite
theorem k_X10_legsRefusal_31 : lk 31 C_X10_legsRefusal = some (.bipush (-5), (0, 0, 0, 0)) := by decide +kernel
theorem s_X10_legsRefusal_31 {ca : Nat → List Value → tM → tO} {M : tM} {L : tL} {S : List Value} : rn ca C_X10_legsRefusal 31 L S M = rn ca C_X10_legsRefusal 33 L (.int (iI (-5)) :: S) M := (rn_at k_X10_legsRefusal_31).trans rfl
theorem k_X10_legsRefusal_33 : lk 33 C_X10_legsRefusal = some (.goto 4, (37, 0, 0, 0)) := by decide +kernel
theorem s_X10_legsRefusal_33 {ca : Nat → List Value → tM → tO} {M : tM} {L : tL} {S : List Value} : rn ca C_X10_legsRefusal 33 L S M = rn ca C_X10_legsRefusal 37 L S M := (rn_at k_X10_legsRefusal_33).trans rfl
theorem k_X10_legsRefusal_36 : lk 36 C_X10_legsRefusal = some (.iconst 0, (0, 0, 0, 0)) := by decide +kernel
theorem s_X10_legsRefusal_36 {ca : Nat → List Value → tM → tO} {M : tM} {L : tL} {S : List Value} : rn ca C_X10_legsRefusal 36 L S M = rn ca C_X10_legsRefusal 37 L (.int (iI 0) :: S) M := (rn_at k_X10_legsRefusal_36).trans rfl
theorem k_X10_legsRefusal_37 : lk 37 C_X10_legsRefusal = some (.ireturn, (0, 0, 0, 0)) := by decide +kernel
theorem s_X10_legsRefusal_37 {ca : Nat → List Value → tM → tO} {M : tM} {L : tL} {x : Int32} : rn ca C_X10_legsRefusal 37 L [.int x] M = some (some (.int x), M) := (rn_at k_X10_legsRefusal_37).trans rfl
theorem k_X10_standsOnDraft_0 : lk 0 C_X10_standsOnDraft = some (.iload_n 2, (0, 0, 0, 0)) := by decide +kernel
theorem s_X10_standsOnDraft_0 {ca : Nat → List Value → tM → tO} {M : tM} {a0 a1 : Option Value} {x : Int32} {S : List Value} : rn ca C_X10_standsOnDraft 0 [a0, a1, some (.int x)] S M = rn ca C_X10_standsOnDraft 1 [a0, a1, some (.int x)] (.int x :: S) M := (rn_at k_X10_standsOnDraft_0).trans rfl
theorem k_X10_standsOnDraft_1 : lk 1 C_X10_standsOnDraft = some (.bipush 40, (0, 0, 0, 0)) := by decide +kernel
theorem s_X10_standsOnDraft_1 {ca : Nat → List Value → tM → tO} {M : tM} {L : tL} {S : List Value} : rn ca C_X10_standsOnDraft 1 L S M = rn ca C_X10_standsOnDraft 3 L (.int (iI 40) :: S) M := (rn_at k_X10_standsOnDraft_1).trans rfl
theorem k_X10_standsOnDraft_3 : lk 3 C_X10_standsOnDraft = some (.if_icmp .le 5, (8, 0, 0, 0)) := by decide +kernel
theorem s_X10_standsOnDraft_3 {ca : Nat → List Value → tM → tO} {M : tM} {L : tL} {x y : Int32} {S : List Value} : rn ca C_X10_standsOnDraft 3 L (.int y :: .int x :: S) M = if x ≤ y then rn ca C_X10_standsOnDraft 8 L S M else rn ca C_X10_standsOnDraft 6 L S M := (rn_at k_X10_standsOnDraft_3).trans rnx_ite
theorem k_X10_standsOnDraft_6 : lk 6 C_X10_standsOnDraft = some (.iconst 0, (0, 0, 0, 0)) := by decide +kernel
theorem s_X10_standsOnDraft_6 {ca : Nat → List Value → tM → tO} {M : tM} {L : tL} {S : List Value} : rn ca C_X10_standsOnDraft 6 L S M = rn ca C_X10_standsOnDraft 7 L (.int (iI 0) :: S) M := (rn_at k_X10_standsOnDraft_6).trans rfl
theorem k_X10_standsOnDraft_7 : lk 7 C_X10_standsOnDraft = some (.ireturn, (1, 0, 0, 0)) := by decide +kernel
theorem s_X10_standsOnDraft_7 {ca : Nat → List Value → tM → tO} {M : tM} {L : tL} {x : Int32} : rn ca C_X10_standsOnDraft 7 L [.int x] M = if x = iI 0 ∨ x = iI 1 then some (some (.int x), M) else none := (rn_at k_X10_standsOnDraft_7).trans rnx_ite
theorem k_X10_standsOnDraft_8 : lk 8 C_X10_standsOnDraft = some (.aload_n 0, (0, 0, 0, 0)) := by decide +kernel
theorem s_X10_standsOnDraft_8 {ca : Nat → List Value → tM → tO} {M : tM} {a1 a2 : Option Value} {x : Nat} {S : List Value} : rn ca C_X10_standsOnDraft 8 [some (.ref x), a1, a2] S M = rn ca C_X10_standsOnDraft 9 [some (.ref x), a1, a2] (.ref x :: S) M := (rn_at k_X10_standsOnDraft_8).trans rfl
theorem k_X10_standsOnDraft_9 : lk 9 C_X10_standsOnDraft = some (.getfield 19, (10, 2, 0, 18)) := by decide +kernel
theorem s_X10_standsOnDraft_9 {ca : Nat → List Value → tM → tO} {M : tM} {L : tL} {b : Nat} {S : List Value} : rn ca C_X10_standsOnDraft 9 L (.ref b :: S) M = if clsO b = some 10 then rn ca C_X10_standsOnDraft 12 L (fv M b 2 :: S) M else none := (rn_at k_X10_standsOnDraft_9).trans rnx_ite
theorem k_X10_standsOnDraft_12 : lk 12 C_X10_standsOnDraft = some (.aload_n 0, (0, 0, 0, 0)) := by decide +kernel
theorem s_X10_standsOnDraft_12 {ca : Nat → List Value → tM → tO} {M : tM} {a1 a2 : Option Value} {x : Nat} {S : List Value} : rn ca C_X10_standsOnDraft 12 [some (.ref x), a1, a2] S M = rn ca C_X10_standsOnDraft 13 [some (.ref x), a1, a2] (.ref x :: S) M := (rn_at k_X10_standsOnDraft_12).trans rfl
theorem k_X10_standsOnDraft_13 : lk 13 C_X10_standsOnDraft = some (.getfield 10, (10, 0, 0, 16)) := by decide +kernel
theorem s_X10_standsOnDraft_13 {ca : Nat → List Value → tM → tO} {M : tM} {L : tL} {b : Nat} {S : List Value} : rn ca C_X10_standsOnDraft 13 L (.ref b :: S) M = if clsO b = some 10 then rn ca C_X10_standsOnDraft 16 L (fv M b 0 :: S) M else none := (rn_at k_X10_standsOnDraft_13).trans rnx_ite
theorem k_X10_standsOnDraft_16 : lk 16 C_X10_standsOnDraft = some (.invokevirtual 224, (29, 1, 4, 481)) := by decide +kernel
theorem s_X10_standsOnDraft_16 {ca : Nat → List Value → tM → tO} {M : tM} {L : tL} {v1 : Value} {b : Nat} : rn ca C_X10_standsOnDraft 16 L [v1, .ref b] M = if clsO b = some 4 then rnk ca C_X10_standsOnDraft 19 L [] (ca m_X4_takeOver [.ref b, v1] M) else none := (rn_at k_X10_standsOnDraft_16).trans rnx_ite
theorem k_X10_standsOnDraft_19 : lk 19 C_X10_standsOnDraft = some (.aload_n 0, (0, 0, 0, 0)) := by decide +kernel
theorem s_X10_standsOnDraft_19 {ca : Nat → List Value → tM → tO} {M : tM} {a1 a2 : Option Value} {x : Nat} {S : List Value} : rn ca C_X10_standsOnDraft 19 [some (.ref x), a1, a2] S M = rn ca C_X10_standsOnDraft 20 [some (.ref x), a1, a2] (.ref x :: S) M := (rn_at k_X10_standsOnDraft_19).trans rfl
theorem k_X10_standsOnDraft_20 : lk 20 C_X10_standsOnDraft = some (.getfield 74, (10, 10, 0, 50)) := by decide +kernel
theorem s_X10_standsOnDraft_20 {ca : Nat → List Value → tM → tO} {M : tM} {L : tL} {b : Nat} {S : List Value} : rn ca C_X10_standsOnDraft 20 L (.ref b :: S) M = if clsO b = some 10 then rn ca C_X10_standsOnDraft 23 L (fv M b 10 :: S) M else none := (rn_at k_X10_standsOnDraft_20).trans rnx_ite
theorem k_X10_standsOnDraft_23 : lk 23 C_X10_standsOnDraft = some (.aload_n 0, (0, 0, 0, 0)) := by decide +kernel
theorem s_X10_standsOnDraft_23 {ca : Nat → List Value → tM → tO} {M : tM} {a1 a2 : Option Value} {x : Nat} {S : List Value} : rn ca C_X10_standsOnDraft 23 [some (.ref x), a1, a2] S M = rn ca C_X10_standsOnDraft 24 [some (.ref x), a1, a2] (.ref x :: S) M := (rn_at k_X10_standsOnDraft_23).trans rfl
theorem k_X10_standsOnDraft_24 : lk 24 C_X10_standsOnDraft = some (.getfield 19, (10, 2, 0, 18)) := by decide +kernel
theorem s_X10_standsOnDraft_24 {ca : Nat → List Value → tM → tO} {M : tM} {L : tL} {b : Nat} {S : List Value} : rn ca C_X10_standsOnDraft 24 L (.ref b :: S) M = if clsO b = some 10 then rn ca C_X10_standsOnDraft 27 L (fv M b 2 :: S) M else none := (rn_at k_X10_standsOnDraft_24).trans rnx_ite
theorem k_X10_standsOnDraft_27 : lk 27 C_X10_standsOnDraft = some (.aload_n 0, (0, 0, 0, 0)) := by decide +kernel
theorem s_X10_standsOnDraft_27 {ca : Nat → List Value → tM → tO} {M : tM} {a1 a2 : Option Value} {x : Nat} {S : List Value} : rn ca C_X10_standsOnDraft 27 [some (.ref x), a1, a2] S M = rn ca C_X10_standsOnDraft 28 [some (.ref x), a1, a2] (.ref x :: S) M := (rn_at k_X10_standsOnDraft_27).trans rfl
theorem k_X10_standsOnDraft_28 : lk 28 C_X10_standsOnDraft = some (.getfield 32, (10, 4, 0, 26)) := by decide +kernel
theorem s_X10_standsOnDraft_28 {ca : Nat → List Value → tM → tO} {M : tM} {L : tL} {b : Nat} {S : List Value} : rn ca C_X10_standsOnDraft 28 L (.ref b :: S) M = if clsO b = some 10 then rn ca C_X10_standsOnDraft 31 L (fv M b 4 :: S) M else none := (rn_at k_X10_standsOnDraft_28).trans rnx_ite
theorem k_X10_standsOnDraft_31 : lk 31 C_X10_standsOnDraft = some (.aload_n 0, (0, 0, 0, 0)) := by decide +kernel
theorem s_X10_standsOnDraft_31 {ca : Nat → List Value → tM → tO} {M : tM} {a1 a2 : Option Value} {x : Nat} {S : List Value} : rn ca C_X10_standsOnDraft 31 [some (.ref x), a1, a2] S M = rn ca C_X10_standsOnDraft 32 [some (.ref x), a1, a2] (.ref x :: S) M := (rn_at k_X10_standsOnDraft_31).trans rfl
theorem k_X10_standsOnDraft_32 : lk 32 C_X10_standsOnDraft = some (.getfield 25, (10, 3, 0, 22)) := by decide +kernel
theorem s_X10_standsOnDraft_32 {ca : Nat → List Value → tM → tO} {M : tM} {L : tL} {b : Nat} {S : List Value} : rn ca C_X10_standsOnDraft 32 L (.ref b :: S) M = if clsO b = some 10 then rn ca C_X10_standsOnDraft 35 L (fv M b 3 :: S) M else none := (rn_at k_X10_standsOnDraft_32).trans rnx_ite
theorem k_X10_standsOnDraft_35 : lk 35 C_X10_standsOnDraft = some (.iload_n 1, (0, 0, 0, 0)) := by decide +kernel
theorem s_X10_standsOnDraft_35 {ca : Nat → List Value → tM → tO} {M : tM} {a0 a2 : Option Value} {x : Int32} {S : List Value} : rn ca C_X10_standsOnDraft 35 [a0, some (.int x), a2] S M = rn ca C_X10_standsOnDraft 36 [a0, some (.int x), a2] (.int x :: S) M := (rn_at k_X10_standsOnDraft_35).trans rfl
theorem k_X10_standsOnDraft_36 : lk 36 C_X10_standsOnDraft = some (.iload_n 2, (0, 0, 0, 0)) := by decide +kernel
theorem s_X10_standsOnDraft_36 {ca : Nat → List Value → tM → tO} {M : tM} {a0 a1 : Option Value} {x : Int32} {S : List Value} : rn ca C_X10_standsOnDraft 36 [a0, a1, some (.int x)] S M = rn ca C_X10_standsOnDraft 37 [a0, a1, some (.int x)] (.int x :: S) M := (rn_at k_X10_standsOnDraft_36).trans rfl
theorem k_X10_standsOnDraft_37 : lk 37 C_X10_standsOnDraft = some (.invokevirtual 335, (6, 5, 1, 1064)) := by decide +kernel
theorem s_X10_standsOnDraft_37 {ca : Nat → List Value → tM → tO} {M : tM} {L : tL} {v1 v2 v3 v4 v5 : Value} {b : Nat} : rn ca C_X10_standsOnDraft 37 L [v5, v4, v3, v2, v1, .ref b] M = if clsO b = some 1 then rnk ca C_X10_standsOnDraft 40 L [] (ca m_X1_findWrong [.ref b, v1, v2, v3, v4, v5] M) else none := (rn_at k_X10_standsOnDraft_37).trans rnx_ite
theorem k_X10_standsOnDraft_40 : lk 40 C_X10_standsOnDraft = some (.iconst (-1), (0, 0, 0, 0)) := by decide +kernel
theorem s_X10_standsOnDraft_40 {ca : Nat → List Value → tM → tO} {M : tM} {L : tL} {S : List Value} : rn ca C_X10_standsOnDraft 40 L S M = rn ca C_X10_standsOnDraft 41 L (.int (iI (-1)) :: S) M := (rn_at k_X10_standsOnDraft_40).trans rfl
theorem k_X10_standsOnDraft_41 : lk 41 C_X10_standsOnDraft = some (.if_icmp .ne 7, (48, 0, 0, 0)) := by decide +kernel
theorem s_X10_standsOnDraft_41 {ca : Nat → List Value → tM → tO} {M : tM} {L : tL} {x y : Int32} {S : List Value} : rn ca C_X10_standsOnDraft 41 L (.int y :: .int x :: S) M = if ¬ x = y then rn ca C_X10_standsOnDraft 48 L S M else rn ca C_X10_standsOnDraft 44 L S M := (rn_at k_X10_standsOnDraft_41).trans rnx_ite
theorem k_X10_standsOnDraft_44 : lk 44 C_X10_standsOnDraft = some (.iconst 1, (0, 0, 0, 0)) := by decide +kernel
theorem s_X10_standsOnDraft_44 {ca : Nat → List Value → tM → tO} {M : tM} {L : tL} {S : List Value} : rn ca C_X10_standsOnDraft 44 L S M = rn ca C_X10_standsOnDraft 45 L (.int (iI 1) :: S) M := (rn_at k_X10_standsOnDraft_44).trans rfl
theorem k_X10_standsOnDraft_45 : lk 45 C_X10_standsOnDraft = some (.goto 4, (49, 0, 0, 0)) := by decide +kernel
theorem s_X10_standsOnDraft_45 {ca : Nat → List Value → tM → tO} {M : tM} {L : tL} {S : List Value} : rn ca C_X10_standsOnDraft 45 L S M = rn ca C_X10_standsOnDraft 49 L S M := (rn_at k_X10_standsOnDraft_45).trans rfl
theorem k_X10_standsOnDraft_48 : lk 48 C_X10_standsOnDraft = some (.iconst 0, (0, 0, 0, 0)) := by decide +kernel
theorem s_X10_standsOnDraft_48 {ca : Nat → List Value → tM → tO} {M : tM} {L : tL} {S : List Value} : rn ca C_X10_standsOnDraft 48 L S M = rn ca C_X10_standsOnDraft 49 L (.int (iI 0) :: S) M := (rn_at k_X10_standsOnDraft_48).trans rfl
theorem k_X10_standsOnDraft_49 : lk 49 C_X10_standsOnDraft = some (.ireturn, (1, 0, 0, 0)) := by decide +kernel
theorem s_X10_standsOnDraft_49 {ca : Nat → List Value → tM → tO} {M : tM} {L : tL} {x : Int32} : rn ca C_X10_standsOnDraft 49 L [.int x] M = if x = iI 0 ∨ x = iI 1 then some (some (.int x), M) else none := (rn_at k_X10_standsOnDraft_49).trans rnx_ite
theorem k_X10_isOneToNine_0 : lk 0 C_X10_isOneToNine = some (.iload_n 0, (0, 0, 0, 0)) := by decide +kernel
theorem s_X10_isOneToNine_0 {ca : Nat → List Value → tM → tO} {M : tM} {x : Int32} {S : List Value} : rn ca C_X10_isOneToNine 0 [some (.int x)] S M = rn ca C_X10_isOneToNine 1 [some (.int x)] (.int x :: S) M := (rn_at k_X10_isOneToNine_0).trans rfl
theorem k_X10_isOneToNine_1 : lk 1 C_X10_isOneToNine = some (.iconst 1, (0, 0, 0, 0)) := by decide +kernel
theorem s_X10_isOneToNine_1 {ca : Nat → List Value → tM → tO} {M : tM} {L : tL} {S : List Value} : rn ca C_X10_isOneToNine 1 L S M = rn ca C_X10_isOneToNine 2 L (.int (iI 1) :: S) M := (rn_at k_X10_isOneToNine_1).trans rfl
theorem k_X10_isOneToNine_2 : lk 2 C_X10_isOneToNine = some (.if_icmp .lt 13, (15, 0, 0, 0)) := by decide +kernel
theorem s_X10_isOneToNine_2 {ca : Nat → List Value → tM → tO} {M : tM} {L : tL} {x y : Int32} {S : List Value} : rn ca C_X10_isOneToNine 2 L (.int y :: .int x :: S) M = if x < y then rn ca C_X10_isOneToNine 15 L S M else rn ca C_X10_isOneToNine 5 L S M := (rn_at k_X10_isOneToNine_2).trans rnx_ite
theorem k_X10_isOneToNine_5 : lk 5 C_X10_isOneToNine = some (.iload_n 0, (0, 0, 0, 0)) := by decide +kernel
theorem s_X10_isOneToNine_5 {ca : Nat → List Value → tM → tO} {M : tM} {x : Int32} {S : List Value} : rn ca C_X10_isOneToNine 5 [some (.int x)] S M = rn ca C_X10_isOneToNine 6 [some (.int x)] (.int x :: S) M := (rn_at k_X10_isOneToNine_5).trans rfl
theorem k_X10_isOneToNine_6 : lk 6 C_X10_isOneToNine = some (.bipush 9, (0, 0, 0, 0)) := by decide +kernel
theorem s_X10_isOneToNine_6 {ca : Nat → List Value → tM → tO} {M : tM} {L : tL} {S : List Value} : rn ca C_X10_isOneToNine 6 L S M = rn ca C_X10_isOneToNine 8 L (.int (iI 9) :: S) M := (rn_at k_X10_isOneToNine_6).trans rfl
theorem k_X10_isOneToNine_8 : lk 8 C_X10_isOneToNine = some (.if_icmp .gt 7, (15, 0, 0, 0)) := by decide +kernel
theorem s_X10_isOneToNine_8 {ca : Nat → List Value → tM → tO} {M : tM} {L : tL} {x y : Int32} {S : List Value} : rn ca C_X10_isOneToNine 8 L (.int y :: .int x :: S) M = if y < x then rn ca C_X10_isOneToNine 15 L S M else rn ca C_X10_isOneToNine 11 L S M := (rn_at k_X10_isOneToNine_8).trans rnx_ite
theorem k_X10_isOneToNine_11 : lk 11 C_X10_isOneToNine = some (.iconst 1, (0, 0, 0, 0)) := by decide +kernel
theorem s_X10_isOneToNine_11 {ca : Nat → List Value → tM → tO} {M : tM} {L : tL} {S : List Value} : rn ca C_X10_isOneToNine 11 L S M = rn ca C_X10_isOneToNine 12 L (.int (iI 1) :: S) M := (rn_at k_X10_isOneToNine_11).trans rfl
theorem k_X10_isOneToNine_12 : lk 12 C_X10_isOneToNine = some (.goto 4, (16, 0, 0, 0)) := by decide +kernel
theorem s_X10_isOneToNine_12 {ca : Nat → List Value → tM → tO} {M : tM} {L : tL} {S : List Value} : rn ca C_X10_isOneToNine 12 L S M = rn ca C_X10_isOneToNine 16 L S M := (rn_at k_X10_isOneToNine_12).trans rfl
theorem k_X10_isOneToNine_15 : lk 15 C_X10_isOneToNine = some (.iconst 0, (0, 0, 0, 0)) := by decide +kernel
theorem s_X10_isOneToNine_15 {ca : Nat → List Value → tM → tO} {M : tM} {L : tL} {S : List Value} : rn ca C_X10_isOneToNine 15 L S M = rn ca C_X10_isOneToNine 16 L (.int (iI 0) :: S) M := (rn_at k_X10_isOneToNine_15).trans rfl
theorem k_X10_isOneToNine_16 : lk 16 C_X10_isOneToNine = some (.ireturn, (1, 0, 0, 0)) := by decide +kernel
theorem s_X10_isOneToNine_16 {ca : Nat → List Value → tM → tO} {M : tM} {L : tL} {x : Int32} : rn ca C_X10_isOneToNine 16 L [.int x] M = if x = iI 0 ∨ x = iI 1 then some (some (.int x), M) else none := (rn_at k_X10_isOneToNine_16).trans rnx_ite
theorem k_X10_isDeskNumber_0 : lk 0 C_X10_isDeskNumber = some (.iload_n 0, (0, 0, 0, 0)) := by decide +kernel
theorem s_X10_isDeskNumber_0 {ca : Nat → List Value → tM → tO} {M : tM} {x : Int32} {S : List Value} : rn ca C_X10_isDeskNumber 0 [some (.int x)] S M = rn ca C_X10_isDeskNumber 1 [some (.int x)] (.int x :: S) M := (rn_at k_X10_isDeskNumber_0).trans rfl
theorem k_X10_isDeskNumber_1 : lk 1 C_X10_isDeskNumber = some (.ifCond .lt 13, (14, 0, 0, 0)) := by decide +kernel
theorem s_X10_isDeskNumber_1 {ca : Nat → List Value → tM → tO} {M : tM} {L : tL} {x : Int32} {S : List Value} : rn ca C_X10_isDeskNumber 1 L (.int x :: S) M = if x < iI 0 then rn ca C_X10_isDeskNumber 14 L S M else rn ca C_X10_isDeskNumber 4 L S M := (rn_at k_X10_isDeskNumber_1).trans rnx_ite
theorem k_X10_isDeskNumber_4 : lk 4 C_X10_isDeskNumber = some (.iload_n 0, (0, 0, 0, 0)) := by decide +kernel
theorem s_X10_isDeskNumber_4 {ca : Nat → List Value → tM → tO} {M : tM} {x : Int32} {S : List Value} : rn ca C_X10_isDeskNumber 4 [some (.int x)] S M = rn ca C_X10_isDeskNumber 5 [some (.int x)] (.int x :: S) M := (rn_at k_X10_isDeskNumber_4).trans rfl
theorem k_X10_isDeskNumber_5 : lk 5 C_X10_isDeskNumber = some (.bipush 8, (0, 0, 0, 0)) := by decide +kernel
theorem s_X10_isDeskNumber_5 {ca : Nat → List Value → tM → tO} {M : tM} {L : tL} {S : List Value} : rn ca C_X10_isDeskNumber 5 L S M = rn ca C_X10_isDeskNumber 7 L (.int (iI 8) :: S) M := (rn_at k_X10_isDeskNumber_5).trans rfl
theorem k_X10_isDeskNumber_7 : lk 7 C_X10_isDeskNumber = some (.if_icmp .ge 7, (14, 0, 0, 0)) := by decide +kernel
theorem s_X10_isDeskNumber_7 {ca : Nat → List Value → tM → tO} {M : tM} {L : tL} {x y : Int32} {S : List Value} : rn ca C_X10_isDeskNumber 7 L (.int y :: .int x :: S) M = if y ≤ x then rn ca C_X10_isDeskNumber 14 L S M else rn ca C_X10_isDeskNumber 10 L S M := (rn_at k_X10_isDeskNumber_7).trans rnx_ite
theorem k_X10_isDeskNumber_10 : lk 10 C_X10_isDeskNumber = some (.iconst 1, (0, 0, 0, 0)) := by decide +kernel
theorem s_X10_isDeskNumber_10 {ca : Nat → List Value → tM → tO} {M : tM} {L : tL} {S : List Value} : rn ca C_X10_isDeskNumber 10 L S M = rn ca C_X10_isDeskNumber 11 L (.int (iI 1) :: S) M := (rn_at k_X10_isDeskNumber_10).trans rfl
theorem k_X10_isDeskNumber_11 : lk 11 C_X10_isDeskNumber = some (.goto 4, (15, 0, 0, 0)) := by decide +kernel
theorem s_X10_isDeskNumber_11 {ca : Nat → List Value → tM → tO} {M : tM} {L : tL} {S : List Value} : rn ca C_X10_isDeskNumber 11 L S M = rn ca C_X10_isDeskNumber 15 L S M := (rn_at k_X10_isDeskNumber_11).trans rfl
theorem k_X10_isDeskNumber_14 : lk 14 C_X10_isDeskNumber = some (.iconst 0, (0, 0, 0, 0)) := by decide +kernel
theorem s_X10_isDeskNumber_14 {ca : Nat → List Value → tM → tO} {M : tM} {L : tL} {S : List Value} : rn ca C_X10_isDeskNumber 14 L S M = rn ca C_X10_isDeskNumber 15 L (.int (iI 0) :: S) M := (rn_at k_X10_isDeskNumber_14).trans rfl
theorem k_X10_isDeskNumber_15 : lk 15 C_X10_isDeskNumber = some (.ireturn, (1, 0, 0, 0)) := by decide +kernel
theorem s_X10_isDeskNumber_15 {ca : Nat → List Value → tM → tO} {M : tM} {L : tL} {x : Int32} : rn ca C_X10_isDeskNumber 15 L [.int x] M = if x = iI 0 ∨ x = iI 1 then some (some (.int x), M) else none := (rn_at k_X10_isDeskNumber_15).trans rnx_ite
theorem k_X10_isUnder_0 : lk 0 C_X10_isUnder = some (.iload_n 0, (0, 0, 0, 0)) := by decide +kernel
theorem s_X10_isUnder_0 {ca : Nat → List Value → tM → tO} {M : tM} {a1 a2 a3 : Option Value} {x : Int32} {S : List Value} : rn ca C_X10_isUnder 0 [some (.int x), a1, a2, a3] S M = rn ca C_X10_isUnder 1 [some (.int x), a1, a2, a3] (.int x :: S) M := (rn_at k_X10_isUnder_0).trans rfl
theorem k_X10_isUnder_1 : lk 1 C_X10_isUnder = some (.istore_n 2, (0, 0, 0, 0)) := by decide +kernel
theorem s_X10_isUnder_1 {ca : Nat → List Value → tM → tO} {M : tM} {a0 a1 a2 a3 : Option Value} {x : Int32} {S : List Value} : rn ca C_X10_isUnder 1 [a0, a1, a2, a3] (.int x :: S) M = rn ca C_X10_isUnder 2 [a0, a1, some (.int x), a3] S M := (rn_at k_X10_isUnder_1).trans rfl
theorem k_X10_isUnder_2 : lk 2 C_X10_isUnder = some (.iconst 0, (0, 0, 0, 0)) := by decide +kernel
theorem s_X10_isUnder_2 {ca : Nat → List Value → tM → tO} {M : tM} {L : tL} {S : List Value} : rn ca C_X10_isUnder 2 L S M = rn ca C_X10_isUnder 3 L (.int (iI 0) :: S) M := (rn_at k_X10_isUnder_2).trans rfl
theorem k_X10_isUnder_3 : lk 3 C_X10_isUnder = some (.istore_n 3, (0, 0, 0, 0)) := by decide +kernel
theorem s_X10_isUnder_3 {ca : Nat → List Value → tM → tO} {M : tM} {a0 a1 a2 a3 : Option Value} {x : Int32} {S : List Value} : rn ca C_X10_isUnder 3 [a0, a1, a2, a3] (.int x :: S) M = rn ca C_X10_isUnder 4 [a0, a1, a2, some (.int x)] S M := (rn_at k_X10_isUnder_3).trans rfl
theorem k_X10_isUnder_4 : lk 4 C_X10_isUnder = some (.iload_n 3, (0, 0, 0, 0)) := by decide +kernel
theorem s_X10_isUnder_4 {ca : Nat → List Value → tM → tO} {M : tM} {a0 a1 a2 : Option Value} {x : Int32} {S : List Value} : rn ca C_X10_isUnder 4 [a0, a1, a2, some (.int x)] S M = rn ca C_X10_isUnder 5 [a0, a1, a2, some (.int x)] (.int x :: S) M := (rn_at k_X10_isUnder_4).trans rfl
theorem k_X10_isUnder_5 : lk 5 C_X10_isUnder = some (.bipush 7, (0, 0, 0, 0)) := by decide +kernel
theorem s_X10_isUnder_5 {ca : Nat → List Value → tM → tO} {M : tM} {L : tL} {S : List Value} : rn ca C_X10_isUnder 5 L S M = rn ca C_X10_isUnder 7 L (.int (iI 7) :: S) M := (rn_at k_X10_isUnder_5).trans rfl
theorem k_X10_isUnder_7 : lk 7 C_X10_isUnder = some (.if_icmp .ge 32, (39, 0, 0, 0)) := by decide +kernel
theorem s_X10_isUnder_7 {ca : Nat → List Value → tM → tO} {M : tM} {L : tL} {x y : Int32} {S : List Value} : rn ca C_X10_isUnder 7 L (.int y :: .int x :: S) M = if y ≤ x then rn ca C_X10_isUnder 39 L S M else rn ca C_X10_isUnder 10 L S M := (rn_at k_X10_isUnder_7).trans rnx_ite
theorem k_X10_isUnder_10 : lk 10 C_X10_isUnder = some (.iload_n 2, (0, 0, 0, 0)) := by decide +kernel
theorem s_X10_isUnder_10 {ca : Nat → List Value → tM → tO} {M : tM} {a0 a1 a3 : Option Value} {x : Int32} {S : List Value} : rn ca C_X10_isUnder 10 [a0, a1, some (.int x), a3] S M = rn ca C_X10_isUnder 11 [a0, a1, some (.int x), a3] (.int x :: S) M := (rn_at k_X10_isUnder_10).trans rfl
theorem k_X10_isUnder_11 : lk 11 C_X10_isUnder = some (.ifCond .lt 28, (39, 0, 0, 0)) := by decide +kernel
theorem s_X10_isUnder_11 {ca : Nat → List Value → tM → tO} {M : tM} {L : tL} {x : Int32} {S : List Value} : rn ca C_X10_isUnder 11 L (.int x :: S) M = if x < iI 0 then rn ca C_X10_isUnder 39 L S M else rn ca C_X10_isUnder 14 L S M := (rn_at k_X10_isUnder_11).trans rnx_ite
theorem k_X10_isUnder_14 : lk 14 C_X10_isUnder = some (.iload_n 2, (0, 0, 0, 0)) := by decide +kernel
theorem s_X10_isUnder_14 {ca : Nat → List Value → tM → tO} {M : tM} {a0 a1 a3 : Option Value} {x : Int32} {S : List Value} : rn ca C_X10_isUnder 14 [a0, a1, some (.int x), a3] S M = rn ca C_X10_isUnder 15 [a0, a1, some (.int x), a3] (.int x :: S) M := (rn_at k_X10_isUnder_14).trans rfl
theorem k_X10_isUnder_15 : lk 15 C_X10_isUnder = some (.bipush 7, (0, 0, 0, 0)) := by decide +kernel
theorem s_X10_isUnder_15 {ca : Nat → List Value → tM → tO} {M : tM} {L : tL} {S : List Value} : rn ca C_X10_isUnder 15 L S M = rn ca C_X10_isUnder 17 L (.int (iI 7) :: S) M := (rn_at k_X10_isUnder_15).trans rfl
theorem k_X10_isUnder_17 : lk 17 C_X10_isUnder = some (.if_icmp .ge 22, (39, 0, 0, 0)) := by decide +kernel
theorem s_X10_isUnder_17 {ca : Nat → List Value → tM → tO} {M : tM} {L : tL} {x y : Int32} {S : List Value} : rn ca C_X10_isUnder 17 L (.int y :: .int x :: S) M = if y ≤ x then rn ca C_X10_isUnder 39 L S M else rn ca C_X10_isUnder 20 L S M := (rn_at k_X10_isUnder_17).trans rnx_ite
theorem k_X10_isUnder_20 : lk 20 C_X10_isUnder = some (.iload_n 2, (0, 0, 0, 0)) := by decide +kernel
theorem s_X10_isUnder_20 {ca : Nat → List Value → tM → tO} {M : tM} {a0 a1 a3 : Option Value} {x : Int32} {S : List Value} : rn ca C_X10_isUnder 20 [a0, a1, some (.int x), a3] S M = rn ca C_X10_isUnder 21 [a0, a1, some (.int x), a3] (.int x :: S) M := (rn_at k_X10_isUnder_20).trans rfl
theorem k_X10_isUnder_21 : lk 21 C_X10_isUnder = some (.iload_n 1, (0, 0, 0, 0)) := by decide +kernel
theorem s_X10_isUnder_21 {ca : Nat → List Value → tM → tO} {M : tM} {a0 a2 a3 : Option Value} {x : Int32} {S : List Value} : rn ca C_X10_isUnder 21 [a0, some (.int x), a2, a3] S M = rn ca C_X10_isUnder 22 [a0, some (.int x), a2, a3] (.int x :: S) M := (rn_at k_X10_isUnder_21).trans rfl
theorem k_X10_isUnder_22 : lk 22 C_X10_isUnder = some (.if_icmp .ne 5, (27, 0, 0, 0)) := by decide +kernel
theorem s_X10_isUnder_22 {ca : Nat → List Value → tM → tO} {M : tM} {L : tL} {x y : Int32} {S : List Value} : rn ca C_X10_isUnder 22 L (.int y :: .int x :: S) M = if ¬ x = y then rn ca C_X10_isUnder 27 L S M else rn ca C_X10_isUnder 25 L S M := (rn_at k_X10_isUnder_22).trans rnx_ite
theorem k_X10_isUnder_25 : lk 25 C_X10_isUnder = some (.iconst 1, (0, 0, 0, 0)) := by decide +kernel
theorem s_X10_isUnder_25 {ca : Nat → List Value → tM → tO} {M : tM} {L : tL} {S : List Value} : rn ca C_X10_isUnder 25 L S M = rn ca C_X10_isUnder 26 L (.int (iI 1) :: S) M := (rn_at k_X10_isUnder_25).trans rfl
theorem k_X10_isUnder_26 : lk 26 C_X10_isUnder = some (.ireturn, (1, 0, 0, 0)) := by decide +kernel
theorem s_X10_isUnder_26 {ca : Nat → List Value → tM → tO} {M : tM} {L : tL} {x : Int32} : rn ca C_X10_isUnder 26 L [.int x] M = if x = iI 0 ∨ x = iI 1 then some (some (.int x), M) else none := (rn_at k_X10_isUnder_26).trans rnx_ite
theorem k_X10_isUnder_27 : lk 27 C_X10_isUnder = some (.getstatic 386, (120, 0, 0, 321)) := by decide +kernel
theorem s_X10_isUnder_27 {ca : Nat → List Value → tM → tO} {M : tM} {L : tL} {S : List Value} : rn ca C_X10_isUnder 27 L S M = rn ca C_X10_isUnder 30 L (.ref 120 :: S) M := (rn_at k_X10_isUnder_27).trans rfl
theorem k_X10_isUnder_30 : lk 30 C_X10_isUnder = some (.iload_n 2, (0, 0, 0, 0)) := by decide +kernel
theorem s_X10_isUnder_30 {ca : Nat → List Value → tM → tO} {M : tM} {a0 a1 a3 : Option Value} {x : Int32} {S : List Value} : rn ca C_X10_isUnder 30 [a0, a1, some (.int x), a3] S M = rn ca C_X10_isUnder 31 [a0, a1, some (.int x), a3] (.int x :: S) M := (rn_at k_X10_isUnder_30).trans rfl
theorem k_X10_isUnder_31 : lk 31 C_X10_isUnder = some (.iaload, (0, 0, 0, 0)) := by decide +kernel
theorem s_X10_isUnder_31 {ca : Nat → List Value → tM → tO} {M : tM} {L : tL} {a : Nat} {i : Int32} {S : List Value} : rn ca C_X10_isUnder 31 L (.int i :: .ref a :: S) M = if (akind a = 0 ∨ akind a = 6 ∨ akind a = 7) ∧ inb i (alen M a) then rn ca C_X10_isUnder 32 L (.int (M.1 a i.toInt.toNat) :: S) M else none := (rn_at k_X10_isUnder_31).trans rnx_ite
theorem k_X10_isUnder_32 : lk 32 C_X10_isUnder = some (.istore_n 2, (0, 0, 0, 0)) := by decide +kernel
theorem s_X10_isUnder_32 {ca : Nat → List Value → tM → tO} {M : tM} {a0 a1 a2 a3 : Option Value} {x : Int32} {S : List Value} : rn ca C_X10_isUnder 32 [a0, a1, a2, a3] (.int x :: S) M = rn ca C_X10_isUnder 33 [a0, a1, some (.int x), a3] S M := (rn_at k_X10_isUnder_32).trans rfl
theorem k_X10_isUnder_33 : lk 33 C_X10_isUnder = some (.iinc 3 1, (0, 0, 0, 0)) := by decide +kernel
theorem s_X10_isUnder_33 {ca : Nat → List Value → tM → tO} {M : tM} {a0 a1 a2 : Option Value} {x : Int32} {S : List Value} : rn ca C_X10_isUnder 33 [a0, a1, a2, some (.int x)] S M = rn ca C_X10_isUnder 36 [a0, a1, a2, some (.int (x + iI 1))] S M := (rn_at k_X10_isUnder_33).trans rfl
theorem k_X10_isUnder_36 : lk 36 C_X10_isUnder = some (.goto (-32), (4, 0, 0, 0)) := by decide +kernel
theorem s_X10_isUnder_36 {ca : Nat → List Value → tM → tO} {M : tM} {L : tL} {S : List Value} : rn ca C_X10_isUnder 36 L S M = rn ca C_X10_isUnder 4 L S M := (rn_at k_X10_isUnder_36).trans rfl
theorem k_X10_isUnder_39 : lk 39 C_X10_isUnder = some (.iconst 0, (0, 0, 0, 0)) := by decide +kernel
theorem s_X10_isUnder_39 {ca : Nat → List Value → tM → tO} {M : tM} {L : tL} {S : List Value} : rn ca C_X10_isUnder 39 L S M = rn ca C_X10_isUnder 40 L (.int (iI 0) :: S) M := (rn_at k_X10_isUnder_39).trans rfl
theorem k_X10_isUnder_40 : lk 40 C_X10_isUnder = some (.ireturn, (1, 0, 0, 0)) := by decide +kernel
theorem s_X10_isUnder_40 {ca : Nat → List Value → tM → tO} {M : tM} {L : tL} {x : Int32} : rn ca C_X10_isUnder 40 L [.int x] M = if x = iI 0 ∨ x = iI 1 then some (some (.int x), M) else none := (rn_at k_X10_isUnder_40).trans rnx_ite
