theorem k_X11_isIn_0 : lk 0 C_X11_isIn = some (.lload_n 0, (0, 0, 0, 0)) := by decide +kernel
theorem s_X11_isIn_0 {ca : Nat → List Value → tM → tO} {M : tM} {a1 a2 a3 a4 a5 : Option Value} {x : Int64} {S : List Value} : rn ca C_X11_isIn 0 [some (.long x), a1, a2, a3, a4, a5] S M = rn ca C_X11_isIn 1 [some (.long x), a1, a2, a3, a4, a5] (.long x :: S) M := (rn_at k_X11_isIn_0).trans rfl
theorem k_X11_isIn_1 : lk 1 C_X11_isIn = some (.lload_n 2, (0, 0, 0, 0)) := by decide +kernel
theorem s_X11_isIn_1 {ca : Nat → List Value → tM → tO} {M : tM} {a0 a1 a3 a4 a5 : Option Value} {x : Int64} {S : List Value} : rn ca C_X11_isIn 1 [a0, a1, some (.long x), a3, a4, a5] S M = rn ca C_X11_isIn 2 [a0, a1, some (.long x), a3, a4, a5] (.long x :: S) M := (rn_at k_X11_isIn_1).trans rfl
theorem k_X11_isIn_2 : lk 2 C_X11_isIn = some (.lcmp, (0, 0, 0, 0)) := by decide +kernel
theorem s_X11_isIn_2 {ca : Nat → List Value → tM → tO} {M : tM} {L : tL} {x y : Int64} {S : List Value} : rn ca C_X11_isIn 2 L (.long y :: .long x :: S) M = rn ca C_X11_isIn 3 L (.int (lg_cmp x y) :: S) M := (rn_at k_X11_isIn_2).trans rfl
theorem k_X11_isIn_3 : lk 3 C_X11_isIn = some (.ifCond .lt 14, (17, 0, 0, 0)) := by decide +kernel
theorem s_X11_isIn_3 {ca : Nat → List Value → tM → tO} {M : tM} {L : tL} {x : Int32} {S : List Value} : rn ca C_X11_isIn 3 L (.int x :: S) M = if x < iI 0 then rn ca C_X11_isIn 17 L S M else rn ca C_X11_isIn 6 L S M := (rn_at k_X11_isIn_3).trans rnx_ite
theorem k_X11_isIn_6 : lk 6 C_X11_isIn = some (.lload_n 0, (0, 0, 0, 0)) := by decide +kernel
theorem s_X11_isIn_6 {ca : Nat → List Value → tM → tO} {M : tM} {a1 a2 a3 a4 a5 : Option Value} {x : Int64} {S : List Value} : rn ca C_X11_isIn 6 [some (.long x), a1, a2, a3, a4, a5] S M = rn ca C_X11_isIn 7 [some (.long x), a1, a2, a3, a4, a5] (.long x :: S) M := (rn_at k_X11_isIn_6).trans rfl
theorem k_X11_isIn_7 : lk 7 C_X11_isIn = some (.lload 4, (0, 0, 0, 0)) := by decide +kernel
theorem s_X11_isIn_7 {ca : Nat → List Value → tM → tO} {M : tM} {a0 a1 a2 a3 a5 : Option Value} {x : Int64} {S : List Value} : rn ca C_X11_isIn 7 [a0, a1, a2, a3, some (.long x), a5] S M = rn ca C_X11_isIn 9 [a0, a1, a2, a3, some (.long x), a5] (.long x :: S) M := (rn_at k_X11_isIn_7).trans rfl
theorem k_X11_isIn_9 : lk 9 C_X11_isIn = some (.lcmp, (0, 0, 0, 0)) := by decide +kernel
theorem s_X11_isIn_9 {ca : Nat → List Value → tM → tO} {M : tM} {L : tL} {x y : Int64} {S : List Value} : rn ca C_X11_isIn 9 L (.long y :: .long x :: S) M = rn ca C_X11_isIn 10 L (.int (lg_cmp x y) :: S) M := (rn_at k_X11_isIn_9).trans rfl
theorem k_X11_isIn_10 : lk 10 C_X11_isIn = some (.ifCond .gt 7, (17, 0, 0, 0)) := by decide +kernel
theorem s_X11_isIn_10 {ca : Nat → List Value → tM → tO} {M : tM} {L : tL} {x : Int32} {S : List Value} : rn ca C_X11_isIn 10 L (.int x :: S) M = if iI 0 < x then rn ca C_X11_isIn 17 L S M else rn ca C_X11_isIn 13 L S M := (rn_at k_X11_isIn_10).trans rnx_ite
theorem k_X11_isIn_13 : lk 13 C_X11_isIn = some (.iconst 1, (0, 0, 0, 0)) := by decide +kernel
theorem s_X11_isIn_13 {ca : Nat → List Value → tM → tO} {M : tM} {L : tL} {S : List Value} : rn ca C_X11_isIn 13 L S M = rn ca C_X11_isIn 14 L (.int (iI 1) :: S) M := (rn_at k_X11_isIn_13).trans rfl
theorem k_X11_isIn_14 : lk 14 C_X11_isIn = some (.goto 4, (18, 0, 0, 0)) := by decide +kernel
theorem s_X11_isIn_14 {ca : Nat → List Value → tM → tO} {M : tM} {L : tL} {S : List Value} : rn ca C_X11_isIn 14 L S M = rn ca C_X11_isIn 18 L S M := (rn_at k_X11_isIn_14).trans rfl
theorem k_X11_isIn_17 : lk 17 C_X11_isIn = some (.iconst 0, (0, 0, 0, 0)) := by decide +kernel
theorem s_X11_isIn_17 {ca : Nat → List Value → tM → tO} {M : tM} {L : tL} {S : List Value} : rn ca C_X11_isIn 17 L S M = rn ca C_X11_isIn 18 L (.int (iI 0) :: S) M := (rn_at k_X11_isIn_17).trans rfl
theorem k_X11_isIn_18 : lk 18 C_X11_isIn = some (.ireturn, (1, 0, 0, 0)) := by decide +kernel
theorem s_X11_isIn_18 {ca : Nat → List Value → tM → tO} {M : tM} {L : tL} {x : Int32} : rn ca C_X11_isIn 18 L [.int x] M = if x = iI 0 ∨ x = iI 1 then some (some (.int x), M) else none := (rn_at k_X11_isIn_18).trans rnx_ite
theorem k_X11_refuse_0 : lk 0 C_X11_refuse = some (.aload_n 0, (0, 0, 0, 0)) := by decide +kernel
theorem s_X11_refuse_0 {ca : Nat → List Value → tM → tO} {M : tM} {a1 : Option Value} {x : Nat} {S : List Value} : rn ca C_X11_refuse 0 [some (.ref x), a1] S M = rn ca C_X11_refuse 1 [some (.ref x), a1] (.ref x :: S) M := (rn_at k_X11_refuse_0).trans rfl
theorem k_X11_refuse_1 : lk 1 C_X11_refuse = some (.getfield 7, (11, 0, 0, 146)) := by decide +kernel
theorem s_X11_refuse_1 {ca : Nat → List Value → tM → tO} {M : tM} {L : tL} {b : Nat} {S : List Value} : rn ca C_X11_refuse 1 L (.ref b :: S) M = if clsO b = some 11 then rn ca C_X11_refuse 4 L (fv M b 0 :: S) M else none := (rn_at k_X11_refuse_1).trans rnx_ite
theorem k_X11_refuse_4 : lk 4 C_X11_refuse = some (.iload_n 1, (0, 0, 0, 0)) := by decide +kernel
theorem s_X11_refuse_4 {ca : Nat → List Value → tM → tO} {M : tM} {a0 : Option Value} {x : Int32} {S : List Value} : rn ca C_X11_refuse 4 [a0, some (.int x)] S M = rn ca C_X11_refuse 5 [a0, some (.int x)] (.int x :: S) M := (rn_at k_X11_refuse_4).trans rfl
theorem k_X11_refuse_5 : lk 5 C_X11_refuse = some (.ineg, (0, 0, 0, 0)) := by decide +kernel
theorem s_X11_refuse_5 {ca : Nat → List Value → tM → tO} {M : tM} {L : tL} {x : Int32} {S : List Value} : rn ca C_X11_refuse 5 L (.int x :: S) M = rn ca C_X11_refuse 6 L (.int (-x) :: S) M := (rn_at k_X11_refuse_5).trans rfl
theorem k_X11_refuse_6 : lk 6 C_X11_refuse = some (.dup2, (0, 0, 0, 0)) := by decide +kernel
theorem s_X11_refuse_6 {ca : Nat → List Value → tM → tO} {M : tM} {L : tL} {x : Nat} {y : Int32} {S : List Value} : rn ca C_X11_refuse 6 L (.int y :: .ref x :: S) M = rn ca C_X11_refuse 7 L (.int y :: .ref x :: .int y :: .ref x :: S) M := (rn_at k_X11_refuse_6).trans rfl
theorem k_X11_refuse_7 : lk 7 C_X11_refuse = some (.iaload, (0, 0, 0, 0)) := by decide +kernel
theorem s_X11_refuse_7 {ca : Nat → List Value → tM → tO} {M : tM} {L : tL} {a : Nat} {i : Int32} {S : List Value} : rn ca C_X11_refuse 7 L (.int i :: .ref a :: S) M = if (akind a = 0 ∨ akind a = 6 ∨ akind a = 7) ∧ inb i (alen M a) then rn ca C_X11_refuse 8 L (.int (M.1 a i.toInt.toNat) :: S) M else none := (rn_at k_X11_refuse_7).trans rnx_ite
theorem k_X11_refuse_8 : lk 8 C_X11_refuse = some (.iconst 1, (0, 0, 0, 0)) := by decide +kernel
theorem s_X11_refuse_8 {ca : Nat → List Value → tM → tO} {M : tM} {L : tL} {S : List Value} : rn ca C_X11_refuse 8 L S M = rn ca C_X11_refuse 9 L (.int (iI 1) :: S) M := (rn_at k_X11_refuse_8).trans rfl
theorem k_X11_refuse_9 : lk 9 C_X11_refuse = some (.iadd, (0, 0, 0, 0)) := by decide +kernel
theorem s_X11_refuse_9 {ca : Nat → List Value → tM → tO} {M : tM} {L : tL} {x y : Int32} {S : List Value} : rn ca C_X11_refuse 9 L (.int y :: .int x :: S) M = rn ca C_X11_refuse 10 L (.int (x + y) :: S) M := (rn_at k_X11_refuse_9).trans rfl
theorem k_X11_refuse_10 : lk 10 C_X11_refuse = some (.iastore, (0, 0, 0, 0)) := by decide +kernel
theorem s_X11_refuse_10 {ca : Nat → List Value → tM → tO} {M : tM} {L : tL} {a : Nat} {i x : Int32} {S : List Value} : rn ca C_X11_refuse 10 L (.int x :: .int i :: .ref a :: S) M = if akind a = 0 ∧ inb i (alen M a) then rn ca C_X11_refuse 11 L S (sI M a i.toInt.toNat x) else none := (rn_at k_X11_refuse_10).trans rnx_ite
theorem k_X11_refuse_11 : lk 11 C_X11_refuse = some (.iload_n 1, (0, 0, 0, 0)) := by decide +kernel
theorem s_X11_refuse_11 {ca : Nat → List Value → tM → tO} {M : tM} {a0 : Option Value} {x : Int32} {S : List Value} : rn ca C_X11_refuse 11 [a0, some (.int x)] S M = rn ca C_X11_refuse 12 [a0, some (.int x)] (.int x :: S) M := (rn_at k_X11_refuse_11).trans rfl
theorem k_X11_refuse_12 : lk 12 C_X11_refuse = some (.ireturn, (0, 0, 0, 0)) := by decide +kernel
theorem s_X11_refuse_12 {ca : Nat → List Value → tM → tO} {M : tM} {L : tL} {x : Int32} : rn ca C_X11_refuse 12 L [.int x] M = some (some (.int x), M) := (rn_at k_X11_refuse_12).trans rfl
theorem k_X11_refuseBy10_0 : lk 0 C_X11_refuseBy10 = some (.aload_n 0, (0, 0, 0, 0)) := by decide +kernel
theorem s_X11_refuseBy10_0 {ca : Nat → List Value → tM → tO} {M : tM} {a1 : Option Value} {x : Nat} {S : List Value} : rn ca C_X11_refuseBy10 0 [some (.ref x), a1] S M = rn ca C_X11_refuseBy10 1 [some (.ref x), a1] (.ref x :: S) M := (rn_at k_X11_refuseBy10_0).trans rfl
theorem k_X11_refuseBy10_1 : lk 1 C_X11_refuseBy10 = some (.iload_n 1, (0, 0, 0, 0)) := by decide +kernel
theorem s_X11_refuseBy10_1 {ca : Nat → List Value → tM → tO} {M : tM} {a0 : Option Value} {x : Int32} {S : List Value} : rn ca C_X11_refuseBy10 1 [a0, some (.int x)] S M = rn ca C_X11_refuseBy10 2 [a0, some (.int x)] (.int x :: S) M := (rn_at k_X11_refuseBy10_1).trans rfl
theorem k_X11_refuseBy10_2 : lk 2 C_X11_refuseBy10 = some (.invokevirtual 83, (144, 1, 11, 200)) := by decide +kernel
theorem s_X11_refuseBy10_2 {ca : Nat → List Value → tM → tO} {M : tM} {L : tL} {v1 : Value} {b : Nat} : rn ca C_X11_refuseBy10 2 L [v1, .ref b] M = if clsO b = some 11 then rnk ca C_X11_refuseBy10 5 L [] (ca m_X11_refuse [.ref b, v1] M) else none := (rn_at k_X11_refuseBy10_2).trans rnx_ite
theorem k_X11_refuseBy10_5 : lk 5 C_X11_refuseBy10 = some (.bipush 10, (0, 0, 0, 0)) := by decide +kernel
theorem s_X11_refuseBy10_5 {ca : Nat → List Value → tM → tO} {M : tM} {L : tL} {S : List Value} : rn ca C_X11_refuseBy10 5 L S M = rn ca C_X11_refuseBy10 7 L (.int (iI 10) :: S) M := (rn_at k_X11_refuseBy10_5).trans rfl
theorem k_X11_refuseBy10_7 : lk 7 C_X11_refuseBy10 = some (.isub, (0, 0, 0, 0)) := by decide +kernel
theorem s_X11_refuseBy10_7 {ca : Nat → List Value → tM → tO} {M : tM} {L : tL} {x y : Int32} {S : List Value} : rn ca C_X11_refuseBy10 7 L (.int y :: .int x :: S) M = rn ca C_X11_refuseBy10 8 L (.int (x - y) :: S) M := (rn_at k_X11_refuseBy10_7).trans rfl
theorem k_X11_refuseBy10_8 : lk 8 C_X11_refuseBy10 = some (.ireturn, (0, 0, 0, 0)) := by decide +kernel
theorem s_X11_refuseBy10_8 {ca : Nat → List Value → tM → tO} {M : tM} {L : tL} {x : Int32} : rn ca C_X11_refuseBy10 8 L [.int x] M = some (some (.int x), M) := (rn_at k_X11_refuseBy10_8).trans rfl
theorem k_X11_move_0 : lk 0 C_X11_move = some (.iconst 0, (0, 0, 0, 0)) := by decide +kernel
theorem s_X11_move_0 {ca : Nat → List Value → tM → tO} {M : tM} {L : tL} {S : List Value} : rn ca C_X11_move 0 L S M = rn ca C_X11_move 1 L (.int (iI 0) :: S) M := (rn_at k_X11_move_0).trans rfl
theorem k_X11_move_1 : lk 1 C_X11_move = some (.istore_n 2, (0, 0, 0, 0)) := by decide +kernel
theorem s_X11_move_1 {ca : Nat → List Value → tM → tO} {M : tM} {a0 a1 a2 : Option Value} {x : Int32} {S : List Value} : rn ca C_X11_move 1 [a0, a1, a2] (.int x :: S) M = rn ca C_X11_move 2 [a0, a1, some (.int x)] S M := (rn_at k_X11_move_1).trans rfl
theorem k_X11_move_2 : lk 2 C_X11_move = some (.iload_n 2, (0, 0, 0, 0)) := by decide +kernel
theorem s_X11_move_2 {ca : Nat → List Value → tM → tO} {M : tM} {a0 a1 : Option Value} {x : Int32} {S : List Value} : rn ca C_X11_move 2 [a0, a1, some (.int x)] S M = rn ca C_X11_move 3 [a0, a1, some (.int x)] (.int x :: S) M := (rn_at k_X11_move_2).trans rfl
theorem k_X11_move_3 : lk 3 C_X11_move = some (.bipush 114, (0, 0, 0, 0)) := by decide +kernel
theorem s_X11_move_3 {ca : Nat → List Value → tM → tO} {M : tM} {L : tL} {S : List Value} : rn ca C_X11_move 3 L S M = rn ca C_X11_move 5 L (.int (iI 114) :: S) M := (rn_at k_X11_move_3).trans rfl
theorem k_X11_move_5 : lk 5 C_X11_move = some (.if_icmp .ge 15, (20, 0, 0, 0)) := by decide +kernel
theorem s_X11_move_5 {ca : Nat → List Value → tM → tO} {M : tM} {L : tL} {x y : Int32} {S : List Value} : rn ca C_X11_move 5 L (.int y :: .int x :: S) M = if y ≤ x then rn ca C_X11_move 20 L S M else rn ca C_X11_move 8 L S M := (rn_at k_X11_move_5).trans rnx_ite
theorem k_X11_move_8 : lk 8 C_X11_move = some (.aload_n 1, (0, 0, 0, 0)) := by decide +kernel
theorem s_X11_move_8 {ca : Nat → List Value → tM → tO} {M : tM} {a0 a2 : Option Value} {x : Nat} {S : List Value} : rn ca C_X11_move 8 [a0, some (.ref x), a2] S M = rn ca C_X11_move 9 [a0, some (.ref x), a2] (.ref x :: S) M := (rn_at k_X11_move_8).trans rfl
theorem k_X11_move_9 : lk 9 C_X11_move = some (.iload_n 2, (0, 0, 0, 0)) := by decide +kernel
theorem s_X11_move_9 {ca : Nat → List Value → tM → tO} {M : tM} {a0 a1 : Option Value} {x : Int32} {S : List Value} : rn ca C_X11_move 9 [a0, a1, some (.int x)] S M = rn ca C_X11_move 10 [a0, a1, some (.int x)] (.int x :: S) M := (rn_at k_X11_move_9).trans rfl
theorem k_X11_move_10 : lk 10 C_X11_move = some (.aload_n 0, (0, 0, 0, 0)) := by decide +kernel
theorem s_X11_move_10 {ca : Nat → List Value → tM → tO} {M : tM} {a1 a2 : Option Value} {x : Nat} {S : List Value} : rn ca C_X11_move 10 [some (.ref x), a1, a2] S M = rn ca C_X11_move 11 [some (.ref x), a1, a2] (.ref x :: S) M := (rn_at k_X11_move_10).trans rfl
theorem k_X11_move_11 : lk 11 C_X11_move = some (.iload_n 2, (0, 0, 0, 0)) := by decide +kernel
theorem s_X11_move_11 {ca : Nat → List Value → tM → tO} {M : tM} {a0 a1 : Option Value} {x : Int32} {S : List Value} : rn ca C_X11_move 11 [a0, a1, some (.int x)] S M = rn ca C_X11_move 12 [a0, a1, some (.int x)] (.int x :: S) M := (rn_at k_X11_move_11).trans rfl
theorem k_X11_move_12 : lk 12 C_X11_move = some (.iaload, (0, 0, 0, 0)) := by decide +kernel
theorem s_X11_move_12 {ca : Nat → List Value → tM → tO} {M : tM} {L : tL} {a : Nat} {i : Int32} {S : List Value} : rn ca C_X11_move 12 L (.int i :: .ref a :: S) M = if (akind a = 0 ∨ akind a = 6 ∨ akind a = 7) ∧ inb i (alen M a) then rn ca C_X11_move 13 L (.int (M.1 a i.toInt.toNat) :: S) M else none := (rn_at k_X11_move_12).trans rnx_ite
theorem k_X11_move_13 : lk 13 C_X11_move = some (.iastore, (0, 0, 0, 0)) := by decide +kernel
theorem s_X11_move_13 {ca : Nat → List Value → tM → tO} {M : tM} {L : tL} {a : Nat} {i x : Int32} {S : List Value} : rn ca C_X11_move 13 L (.int x :: .int i :: .ref a :: S) M = if akind a = 0 ∧ inb i (alen M a) then rn ca C_X11_move 14 L S (sI M a i.toInt.toNat x) else none := (rn_at k_X11_move_13).trans rnx_ite
theorem k_X11_move_14 : lk 14 C_X11_move = some (.iinc 2 1, (0, 0, 0, 0)) := by decide +kernel
theorem s_X11_move_14 {ca : Nat → List Value → tM → tO} {M : tM} {a0 a1 : Option Value} {x : Int32} {S : List Value} : rn ca C_X11_move 14 [a0, a1, some (.int x)] S M = rn ca C_X11_move 17 [a0, a1, some (.int (x + iI 1))] S M := (rn_at k_X11_move_14).trans rfl
theorem k_X11_move_17 : lk 17 C_X11_move = some (.goto (-15), (2, 0, 0, 0)) := by decide +kernel
theorem s_X11_move_17 {ca : Nat → List Value → tM → tO} {M : tM} {L : tL} {S : List Value} : rn ca C_X11_move 17 L S M = rn ca C_X11_move 2 L S M := (rn_at k_X11_move_17).trans rfl
theorem k_X11_move_20 : lk 20 C_X11_move = some (.return_, (0, 0, 0, 0)) := by decide +kernel
theorem s_X11_move_20 {ca : Nat → List Value → tM → tO} {M : tM} {L : tL} : rn ca C_X11_move 20 L [] M = some (none, M) := (rn_at k_X11_move_20).trans rfl
theorem k_X11_isDesk_0 : lk 0 C_X11_isDesk = some (.lload_n 1, (0, 0, 0, 0)) := by decide +kernel
theorem s_X11_isDesk_0 {ca : Nat → List Value → tM → tO} {M : tM} {a0 a2 : Option Value} {x : Int64} {S : List Value} : rn ca C_X11_isDesk 0 [a0, some (.long x), a2] S M = rn ca C_X11_isDesk 1 [a0, some (.long x), a2] (.long x :: S) M := (rn_at k_X11_isDesk_0).trans rfl
theorem k_X11_isDesk_1 : lk 1 C_X11_isDesk = some (.lconst 0, (0, 0, 0, 0)) := by decide +kernel
theorem s_X11_isDesk_1 {ca : Nat → List Value → tM → tO} {M : tM} {L : tL} {S : List Value} : rn ca C_X11_isDesk 1 L S M = rn ca C_X11_isDesk 2 L (.long (jJ 0) :: S) M := (rn_at k_X11_isDesk_1).trans rfl
theorem k_X11_isDesk_2 : lk 2 C_X11_isDesk = some (.aload_n 0, (0, 0, 0, 0)) := by decide +kernel
theorem s_X11_isDesk_2 {ca : Nat → List Value → tM → tO} {M : tM} {a1 a2 : Option Value} {x : Nat} {S : List Value} : rn ca C_X11_isDesk 2 [some (.ref x), a1, a2] S M = rn ca C_X11_isDesk 3 [some (.ref x), a1, a2] (.ref x :: S) M := (rn_at k_X11_isDesk_2).trans rfl
theorem k_X11_isDesk_3 : lk 3 C_X11_isDesk = some (.getfield 17, (11, 1, 0, 147)) := by decide +kernel
theorem s_X11_isDesk_3 {ca : Nat → List Value → tM → tO} {M : tM} {L : tL} {b : Nat} {S : List Value} : rn ca C_X11_isDesk 3 L (.ref b :: S) M = if clsO b = some 11 then rn ca C_X11_isDesk 6 L (fv M b 1 :: S) M else none := (rn_at k_X11_isDesk_3).trans rnx_ite
theorem k_X11_isDesk_6 : lk 6 C_X11_isDesk = some (.bipush 108, (0, 0, 0, 0)) := by decide +kernel
theorem s_X11_isDesk_6 {ca : Nat → List Value → tM → tO} {M : tM} {L : tL} {S : List Value} : rn ca C_X11_isDesk 6 L S M = rn ca C_X11_isDesk 8 L (.int (iI 108) :: S) M := (rn_at k_X11_isDesk_6).trans rfl
theorem k_X11_isDesk_8 : lk 8 C_X11_isDesk = some (.iaload, (0, 0, 0, 0)) := by decide +kernel
theorem s_X11_isDesk_8 {ca : Nat → List Value → tM → tO} {M : tM} {L : tL} {a : Nat} {i : Int32} {S : List Value} : rn ca C_X11_isDesk 8 L (.int i :: .ref a :: S) M = if (akind a = 0 ∨ akind a = 6 ∨ akind a = 7) ∧ inb i (alen M a) then rn ca C_X11_isDesk 9 L (.int (M.1 a i.toInt.toNat) :: S) M else none := (rn_at k_X11_isDesk_8).trans rnx_ite
theorem k_X11_isDesk_9 : lk 9 C_X11_isDesk = some (.iconst 1, (0, 0, 0, 0)) := by decide +kernel
theorem s_X11_isDesk_9 {ca : Nat → List Value → tM → tO} {M : tM} {L : tL} {S : List Value} : rn ca C_X11_isDesk 9 L S M = rn ca C_X11_isDesk 10 L (.int (iI 1) :: S) M := (rn_at k_X11_isDesk_9).trans rfl
theorem k_X11_isDesk_10 : lk 10 C_X11_isDesk = some (.isub, (0, 0, 0, 0)) := by decide +kernel
theorem s_X11_isDesk_10 {ca : Nat → List Value → tM → tO} {M : tM} {L : tL} {x y : Int32} {S : List Value} : rn ca C_X11_isDesk 10 L (.int y :: .int x :: S) M = rn ca C_X11_isDesk 11 L (.int (x - y) :: S) M := (rn_at k_X11_isDesk_10).trans rfl
theorem k_X11_isDesk_11 : lk 11 C_X11_isDesk = some (.i2l, (0, 0, 0, 0)) := by decide +kernel
theorem s_X11_isDesk_11 {ca : Nat → List Value → tM → tO} {M : tM} {L : tL} {x : Int32} {S : List Value} : rn ca C_X11_isDesk 11 L (.int x :: S) M = rn ca C_X11_isDesk 12 L (.long x.toInt64 :: S) M := (rn_at k_X11_isDesk_11).trans rfl
theorem k_X11_isDesk_12 : lk 12 C_X11_isDesk = some (.invokestatic 87, (143, 3, 0, 197)) := by decide +kernel
theorem s_X11_isDesk_12 {ca : Nat → List Value → tM → tO} {M : tM} {L : tL} {v1 v2 v3 : Value} : rn ca C_X11_isDesk 12 L [v3, v2, v1] M = rnk ca C_X11_isDesk 15 L [] (ca m_X11_isIn [v1, v2, v3] M) := (rn_at k_X11_isDesk_12).trans rfl
theorem k_X11_isDesk_15 : lk 15 C_X11_isDesk = some (.ireturn, (1, 0, 0, 0)) := by decide +kernel
theorem s_X11_isDesk_15 {ca : Nat → List Value → tM → tO} {M : tM} {L : tL} {x : Int32} : rn ca C_X11_isDesk 15 L [.int x] M = if x = iI 0 ∨ x = iI 1 then some (some (.int x), M) else none := (rn_at k_X11_isDesk_15).trans rnx_ite
theorem k_X11_isTube_0 : lk 0 C_X11_isTube = some (.iload_n 1, (0, 0, 0, 0)) := by decide +kernel
theorem s_X11_isTube_0 {ca : Nat → List Value → tM → tO} {M : tM} {a0 : Option Value} {x : Int32} {S : List Value} : rn ca C_X11_isTube 0 [a0, some (.int x)] S M = rn ca C_X11_isTube 1 [a0, some (.int x)] (.int x :: S) M := (rn_at k_X11_isTube_0).trans rfl
theorem k_X11_isTube_1 : lk 1 C_X11_isTube = some (.i2l, (0, 0, 0, 0)) := by decide +kernel
theorem s_X11_isTube_1 {ca : Nat → List Value → tM → tO} {M : tM} {L : tL} {x : Int32} {S : List Value} : rn ca C_X11_isTube 1 L (.int x :: S) M = rn ca C_X11_isTube 2 L (.long x.toInt64 :: S) M := (rn_at k_X11_isTube_1).trans rfl
theorem k_X11_isTube_2 : lk 2 C_X11_isTube = some (.lconst 0, (0, 0, 0, 0)) := by decide +kernel
theorem s_X11_isTube_2 {ca : Nat → List Value → tM → tO} {M : tM} {L : tL} {S : List Value} : rn ca C_X11_isTube 2 L S M = rn ca C_X11_isTube 3 L (.long (jJ 0) :: S) M := (rn_at k_X11_isTube_2).trans rfl
theorem k_X11_isTube_3 : lk 3 C_X11_isTube = some (.aload_n 0, (0, 0, 0, 0)) := by decide +kernel
theorem s_X11_isTube_3 {ca : Nat → List Value → tM → tO} {M : tM} {a1 : Option Value} {x : Nat} {S : List Value} : rn ca C_X11_isTube 3 [some (.ref x), a1] S M = rn ca C_X11_isTube 4 [some (.ref x), a1] (.ref x :: S) M := (rn_at k_X11_isTube_3).trans rfl
theorem k_X11_isTube_4 : lk 4 C_X11_isTube = some (.getfield 17, (11, 1, 0, 147)) := by decide +kernel
theorem s_X11_isTube_4 {ca : Nat → List Value → tM → tO} {M : tM} {L : tL} {b : Nat} {S : List Value} : rn ca C_X11_isTube 4 L (.ref b :: S) M = if clsO b = some 11 then rn ca C_X11_isTube 7 L (fv M b 1 :: S) M else none := (rn_at k_X11_isTube_4).trans rnx_ite
theorem k_X11_isTube_7 : lk 7 C_X11_isTube = some (.bipush 109, (0, 0, 0, 0)) := by decide +kernel
theorem s_X11_isTube_7 {ca : Nat → List Value → tM → tO} {M : tM} {L : tL} {S : List Value} : rn ca C_X11_isTube 7 L S M = rn ca C_X11_isTube 9 L (.int (iI 109) :: S) M := (rn_at k_X11_isTube_7).trans rfl
theorem k_X11_isTube_9 : lk 9 C_X11_isTube = some (.iaload, (0, 0, 0, 0)) := by decide +kernel
theorem s_X11_isTube_9 {ca : Nat → List Value → tM → tO} {M : tM} {L : tL} {a : Nat} {i : Int32} {S : List Value} : rn ca C_X11_isTube 9 L (.int i :: .ref a :: S) M = if (akind a = 0 ∨ akind a = 6 ∨ akind a = 7) ∧ inb i (alen M a) then rn ca C_X11_isTube 10 L (.int (M.1 a i.toInt.toNat) :: S) M else none := (rn_at k_X11_isTube_9).trans rnx_ite
theorem k_X11_isTube_10 : lk 10 C_X11_isTube = some (.iconst 1, (0, 0, 0, 0)) := by decide +kernel
theorem s_X11_isTube_10 {ca : Nat → List Value → tM → tO} {M : tM} {L : tL} {S : List Value} : rn ca C_X11_isTube 10 L S M = rn ca C_X11_isTube 11 L (.int (iI 1) :: S) M := (rn_at k_X11_isTube_10).trans rfl
theorem k_X11_isTube_11 : lk 11 C_X11_isTube = some (.isub, (0, 0, 0, 0)) := by decide +kernel
theorem s_X11_isTube_11 {ca : Nat → List Value → tM → tO} {M : tM} {L : tL} {x y : Int32} {S : List Value} : rn ca C_X11_isTube 11 L (.int y :: .int x :: S) M = rn ca C_X11_isTube 12 L (.int (x - y) :: S) M := (rn_at k_X11_isTube_11).trans rfl
theorem k_X11_isTube_12 : lk 12 C_X11_isTube = some (.i2l, (0, 0, 0, 0)) := by decide +kernel
theorem s_X11_isTube_12 {ca : Nat → List Value → tM → tO} {M : tM} {L : tL} {x : Int32} {S : List Value} : rn ca C_X11_isTube 12 L (.int x :: S) M = rn ca C_X11_isTube 13 L (.long x.toInt64 :: S) M := (rn_at k_X11_isTube_12).trans rfl
theorem k_X11_isTube_13 : lk 13 C_X11_isTube = some (.invokestatic 87, (143, 3, 0, 197)) := by decide +kernel
theorem s_X11_isTube_13 {ca : Nat → List Value → tM → tO} {M : tM} {L : tL} {v1 v2 v3 : Value} : rn ca C_X11_isTube 13 L [v3, v2, v1] M = rnk ca C_X11_isTube 16 L [] (ca m_X11_isIn [v1, v2, v3] M) := (rn_at k_X11_isTube_13).trans rfl
theorem k_X11_isTube_16 : lk 16 C_X11_isTube = some (.ireturn, (1, 0, 0, 0)) := by decide +kernel
theorem s_X11_isTube_16 {ca : Nat → List Value → tM → tO} {M : tM} {L : tL} {x : Int32} : rn ca C_X11_isTube 16 L [.int x] M = if x = iI 0 ∨ x = iI 1 then some (some (.int x), M) else none := (rn_at k_X11_isTube_16).trans rnx_ite
theorem k_X11_isCapsule_0 : lk 0 C_X11_isCapsule = some (.lload_n 1, (0, 0, 0, 0)) := by decide +kernel
theorem s_X11_isCapsule_0 {ca : Nat → List Value → tM → tO} {M : tM} {a0 a2 : Option Value} {x : Int64} {S : List Value} : rn ca C_X11_isCapsule 0 [a0, some (.long x), a2] S M = rn ca C_X11_isCapsule 1 [a0, some (.long x), a2] (.long x :: S) M := (rn_at k_X11_isCapsule_0).trans rfl
theorem k_X11_isCapsule_1 : lk 1 C_X11_isCapsule = some (.lconst 0, (0, 0, 0, 0)) := by decide +kernel
theorem s_X11_isCapsule_1 {ca : Nat → List Value → tM → tO} {M : tM} {L : tL} {S : List Value} : rn ca C_X11_isCapsule 1 L S M = rn ca C_X11_isCapsule 2 L (.long (jJ 0) :: S) M := (rn_at k_X11_isCapsule_1).trans rfl
theorem k_X11_isCapsule_2 : lk 2 C_X11_isCapsule = some (.aload_n 0, (0, 0, 0, 0)) := by decide +kernel
theorem s_X11_isCapsule_2 {ca : Nat → List Value → tM → tO} {M : tM} {a1 a2 : Option Value} {x : Nat} {S : List Value} : rn ca C_X11_isCapsule 2 [some (.ref x), a1, a2] S M = rn ca C_X11_isCapsule 3 [some (.ref x), a1, a2] (.ref x :: S) M := (rn_at k_X11_isCapsule_2).trans rfl
theorem k_X11_isCapsule_3 : lk 3 C_X11_isCapsule = some (.getfield 17, (11, 1, 0, 147)) := by decide +kernel
theorem s_X11_isCapsule_3 {ca : Nat → List Value → tM → tO} {M : tM} {L : tL} {b : Nat} {S : List Value} : rn ca C_X11_isCapsule 3 L (.ref b :: S) M = if clsO b = some 11 then rn ca C_X11_isCapsule 6 L (fv M b 1 :: S) M else none := (rn_at k_X11_isCapsule_3).trans rnx_ite
theorem k_X11_isCapsule_6 : lk 6 C_X11_isCapsule = some (.bipush 110, (0, 0, 0, 0)) := by decide +kernel
theorem s_X11_isCapsule_6 {ca : Nat → List Value → tM → tO} {M : tM} {L : tL} {S : List Value} : rn ca C_X11_isCapsule 6 L S M = rn ca C_X11_isCapsule 8 L (.int (iI 110) :: S) M := (rn_at k_X11_isCapsule_6).trans rfl
theorem k_X11_isCapsule_8 : lk 8 C_X11_isCapsule = some (.iaload, (0, 0, 0, 0)) := by decide +kernel
theorem s_X11_isCapsule_8 {ca : Nat → List Value → tM → tO} {M : tM} {L : tL} {a : Nat} {i : Int32} {S : List Value} : rn ca C_X11_isCapsule 8 L (.int i :: .ref a :: S) M = if (akind a = 0 ∨ akind a = 6 ∨ akind a = 7) ∧ inb i (alen M a) then rn ca C_X11_isCapsule 9 L (.int (M.1 a i.toInt.toNat) :: S) M else none := (rn_at k_X11_isCapsule_8).trans rnx_ite
theorem k_X11_isCapsule_9 : lk 9 C_X11_isCapsule = some (.iconst 1, (0, 0, 0, 0)) := by decide +kernel
theorem s_X11_isCapsule_9 {ca : Nat → List Value → tM → tO} {M : tM} {L : tL} {S : List Value} : rn ca C_X11_isCapsule 9 L S M = rn ca C_X11_isCapsule 10 L (.int (iI 1) :: S) M := (rn_at k_X11_isCapsule_9).trans rfl
theorem k_X11_isCapsule_10 : lk 10 C_X11_isCapsule = some (.isub, (0, 0, 0, 0)) := by decide +kernel
theorem s_X11_isCapsule_10 {ca : Nat → List Value → tM → tO} {M : tM} {L : tL} {x y : Int32} {S : List Value} : rn ca C_X11_isCapsule 10 L (.int y :: .int x :: S) M = rn ca C_X11_isCapsule 11 L (.int (x - y) :: S) M := (rn_at k_X11_isCapsule_10).trans rfl
theorem k_X11_isCapsule_11 : lk 11 C_X11_isCapsule = some (.i2l, (0, 0, 0, 0)) := by decide +kernel
theorem s_X11_isCapsule_11 {ca : Nat → List Value → tM → tO} {M : tM} {L : tL} {x : Int32} {S : List Value} : rn ca C_X11_isCapsule 11 L (.int x :: S) M = rn ca C_X11_isCapsule 12 L (.long x.toInt64 :: S) M := (rn_at k_X11_isCapsule_11).trans rfl
theorem k_X11_isCapsule_12 : lk 12 C_X11_isCapsule = some (.invokestatic 87, (143, 3, 0, 197)) := by decide +kernel
theorem s_X11_isCapsule_12 {ca : Nat → List Value → tM → tO} {M : tM} {L : tL} {v1 v2 v3 : Value} : rn ca C_X11_isCapsule 12 L [v3, v2, v1] M = rnk ca C_X11_isCapsule 15 L [] (ca m_X11_isIn [v1, v2, v3] M) := (rn_at k_X11_isCapsule_12).trans rfl
theorem k_X11_isCapsule_15 : lk 15 C_X11_isCapsule = some (.ireturn, (1, 0, 0, 0)) := by decide +kernel
theorem s_X11_isCapsule_15 {ca : Nat → List Value → tM → tO} {M : tM} {L : tL} {x : Int32} : rn ca C_X11_isCapsule 15 L [.int x] M = if x = iI 0 ∨ x = iI 1 then some (some (.int x), M) else none := (rn_at k_X11_isCapsule_15).trans rnx_ite
theorem k_X11_from_0 : lk 0 C_X11_from = some (.aload_n 0, (0, 0, 0, 0)) := by decide +kernel
theorem s_X11_from_0 {ca : Nat → List Value → tM → tO} {M : tM} {a1 : Option Value} {x : Nat} {S : List Value} : rn ca C_X11_from 0 [some (.ref x), a1] S M = rn ca C_X11_from 1 [some (.ref x), a1] (.ref x :: S) M := (rn_at k_X11_from_0).trans rfl
theorem k_X11_from_1 : lk 1 C_X11_from = some (.getfield 17, (11, 1, 0, 147)) := by decide +kernel
theorem s_X11_from_1 {ca : Nat → List Value → tM → tO} {M : tM} {L : tL} {b : Nat} {S : List Value} : rn ca C_X11_from 1 L (.ref b :: S) M = if clsO b = some 11 then rn ca C_X11_from 4 L (fv M b 1 :: S) M else none := (rn_at k_X11_from_1).trans rnx_ite
theorem k_X11_from_4 : lk 4 C_X11_from = some (.iconst 5, (0, 0, 0, 0)) := by decide +kernel
theorem s_X11_from_4 {ca : Nat → List Value → tM → tO} {M : tM} {L : tL} {S : List Value} : rn ca C_X11_from 4 L S M = rn ca C_X11_from 5 L (.int (iI 5) :: S) M := (rn_at k_X11_from_4).trans rfl
theorem k_X11_from_5 : lk 5 C_X11_from = some (.iload_n 1, (0, 0, 0, 0)) := by decide +kernel
theorem s_X11_from_5 {ca : Nat → List Value → tM → tO} {M : tM} {a0 : Option Value} {x : Int32} {S : List Value} : rn ca C_X11_from 5 [a0, some (.int x)] S M = rn ca C_X11_from 6 [a0, some (.int x)] (.int x :: S) M := (rn_at k_X11_from_5).trans rfl
theorem k_X11_from_6 : lk 6 C_X11_from = some (.imul, (0, 0, 0, 0)) := by decide +kernel
theorem s_X11_from_6 {ca : Nat → List Value → tM → tO} {M : tM} {L : tL} {x y : Int32} {S : List Value} : rn ca C_X11_from 6 L (.int y :: .int x :: S) M = rn ca C_X11_from 7 L (.int (x * y) :: S) M := (rn_at k_X11_from_6).trans rfl
theorem k_X11_from_7 : lk 7 C_X11_from = some (.iaload, (0, 0, 0, 0)) := by decide +kernel
theorem s_X11_from_7 {ca : Nat → List Value → tM → tO} {M : tM} {L : tL} {a : Nat} {i : Int32} {S : List Value} : rn ca C_X11_from 7 L (.int i :: .ref a :: S) M = if (akind a = 0 ∨ akind a = 6 ∨ akind a = 7) ∧ inb i (alen M a) then rn ca C_X11_from 8 L (.int (M.1 a i.toInt.toNat) :: S) M else none := (rn_at k_X11_from_7).trans rnx_ite
theorem k_X11_from_8 : lk 8 C_X11_from = some (.ireturn, (0, 0, 0, 0)) := by decide +kernel
theorem s_X11_from_8 {ca : Nat → List Value → tM → tO} {M : tM} {L : tL} {x : Int32} : rn ca C_X11_from 8 L [.int x] M = some (some (.int x), M) := (rn_at k_X11_from_8).trans rfl
theorem k_X11_to_0 : lk 0 C_X11_to = some (.aload_n 0, (0, 0, 0, 0)) := by decide +kernel
theorem s_X11_to_0 {ca : Nat → List Value → tM → tO} {M : tM} {a1 : Option Value} {x : Nat} {S : List Value} : rn ca C_X11_to 0 [some (.ref x), a1] S M = rn ca C_X11_to 1 [some (.ref x), a1] (.ref x :: S) M := (rn_at k_X11_to_0).trans rfl
theorem k_X11_to_1 : lk 1 C_X11_to = some (.getfield 17, (11, 1, 0, 147)) := by decide +kernel
theorem s_X11_to_1 {ca : Nat → List Value → tM → tO} {M : tM} {L : tL} {b : Nat} {S : List Value} : rn ca C_X11_to 1 L (.ref b :: S) M = if clsO b = some 11 then rn ca C_X11_to 4 L (fv M b 1 :: S) M else none := (rn_at k_X11_to_1).trans rnx_ite
theorem k_X11_to_4 : lk 4 C_X11_to = some (.iconst 5, (0, 0, 0, 0)) := by decide +kernel
theorem s_X11_to_4 {ca : Nat → List Value → tM → tO} {M : tM} {L : tL} {S : List Value} : rn ca C_X11_to 4 L S M = rn ca C_X11_to 5 L (.int (iI 5) :: S) M := (rn_at k_X11_to_4).trans rfl
theorem k_X11_to_5 : lk 5 C_X11_to = some (.iload_n 1, (0, 0, 0, 0)) := by decide +kernel
theorem s_X11_to_5 {ca : Nat → List Value → tM → tO} {M : tM} {a0 : Option Value} {x : Int32} {S : List Value} : rn ca C_X11_to 5 [a0, some (.int x)] S M = rn ca C_X11_to 6 [a0, some (.int x)] (.int x :: S) M := (rn_at k_X11_to_5).trans rfl
theorem k_X11_to_6 : lk 6 C_X11_to = some (.imul, (0, 0, 0, 0)) := by decide +kernel
theorem s_X11_to_6 {ca : Nat → List Value → tM → tO} {M : tM} {L : tL} {x y : Int32} {S : List Value} : rn ca C_X11_to 6 L (.int y :: .int x :: S) M = rn ca C_X11_to 7 L (.int (x * y) :: S) M := (rn_at k_X11_to_6).trans rfl
theorem k_X11_to_7 : lk 7 C_X11_to = some (.iconst 1, (0, 0, 0, 0)) := by decide +kernel
theorem s_X11_to_7 {ca : Nat → List Value → tM → tO} {M : tM} {L : tL} {S : List Value} : rn ca C_X11_to 7 L S M = rn ca C_X11_to 8 L (.int (iI 1) :: S) M := (rn_at k_X11_to_7).trans rfl
theorem k_X11_to_8 : lk 8 C_X11_to = some (.iadd, (0, 0, 0, 0)) := by decide +kernel
theorem s_X11_to_8 {ca : Nat → List Value → tM → tO} {M : tM} {L : tL} {x y : Int32} {S : List Value} : rn ca C_X11_to 8 L (.int y :: .int x :: S) M = rn ca C_X11_to 9 L (.int (x + y) :: S) M := (rn_at k_X11_to_8).trans rfl
theorem k_X11_to_9 : lk 9 C_X11_to = some (.iaload, (0, 0, 0, 0)) := by decide +kernel
theorem s_X11_to_9 {ca : Nat → List Value → tM → tO} {M : tM} {L : tL} {a : Nat} {i : Int32} {S : List Value} : rn ca C_X11_to 9 L (.int i :: .ref a :: S) M = if (akind a = 0 ∨ akind a = 6 ∨ akind a = 7) ∧ inb i (alen M a) then rn ca C_X11_to 10 L (.int (M.1 a i.toInt.toNat) :: S) M else none := (rn_at k_X11_to_9).trans rnx_ite
theorem k_X11_to_10 : lk 10 C_X11_to = some (.ireturn, (0, 0, 0, 0)) := by decide +kernel
theorem s_X11_to_10 {ca : Nat → List Value → tM → tO} {M : tM} {L : tL} {x : Int32} : rn ca C_X11_to 10 L [.int x] M = some (some (.int x), M) := (rn_at k_X11_to_10).trans rfl
theorem k_X11_length_0 : lk 0 C_X11_length = some (.aload_n 0, (0, 0, 0, 0)) := by decide +kernel
theorem s_X11_length_0 {ca : Nat → List Value → tM → tO} {M : tM} {a1 : Option Value} {x : Nat} {S : List Value} : rn ca C_X11_length 0 [some (.ref x), a1] S M = rn ca C_X11_length 1 [some (.ref x), a1] (.ref x :: S) M := (rn_at k_X11_length_0).trans rfl
theorem k_X11_length_1 : lk 1 C_X11_length = some (.getfield 17, (11, 1, 0, 147)) := by decide +kernel
theorem s_X11_length_1 {ca : Nat → List Value → tM → tO} {M : tM} {L : tL} {b : Nat} {S : List Value} : rn ca C_X11_length 1 L (.ref b :: S) M = if clsO b = some 11 then rn ca C_X11_length 4 L (fv M b 1 :: S) M else none := (rn_at k_X11_length_1).trans rnx_ite
theorem k_X11_length_4 : lk 4 C_X11_length = some (.iconst 5, (0, 0, 0, 0)) := by decide +kernel
theorem s_X11_length_4 {ca : Nat → List Value → tM → tO} {M : tM} {L : tL} {S : List Value} : rn ca C_X11_length 4 L S M = rn ca C_X11_length 5 L (.int (iI 5) :: S) M := (rn_at k_X11_length_4).trans rfl
theorem k_X11_length_5 : lk 5 C_X11_length = some (.iload_n 1, (0, 0, 0, 0)) := by decide +kernel
theorem s_X11_length_5 {ca : Nat → List Value → tM → tO} {M : tM} {a0 : Option Value} {x : Int32} {S : List Value} : rn ca C_X11_length 5 [a0, some (.int x)] S M = rn ca C_X11_length 6 [a0, some (.int x)] (.int x :: S) M := (rn_at k_X11_length_5).trans rfl
theorem k_X11_length_6 : lk 6 C_X11_length = some (.imul, (0, 0, 0, 0)) := by decide +kernel
theorem s_X11_length_6 {ca : Nat → List Value → tM → tO} {M : tM} {L : tL} {x y : Int32} {S : List Value} : rn ca C_X11_length 6 L (.int y :: .int x :: S) M = rn ca C_X11_length 7 L (.int (x * y) :: S) M := (rn_at k_X11_length_6).trans rfl
theorem k_X11_length_7 : lk 7 C_X11_length = some (.iconst 2, (0, 0, 0, 0)) := by decide +kernel
theorem s_X11_length_7 {ca : Nat → List Value → tM → tO} {M : tM} {L : tL} {S : List Value} : rn ca C_X11_length 7 L S M = rn ca C_X11_length 8 L (.int (iI 2) :: S) M := (rn_at k_X11_length_7).trans rfl
theorem k_X11_length_8 : lk 8 C_X11_length = some (.iadd, (0, 0, 0, 0)) := by decide +kernel
theorem s_X11_length_8 {ca : Nat → List Value → tM → tO} {M : tM} {L : tL} {x y : Int32} {S : List Value} : rn ca C_X11_length 8 L (.int y :: .int x :: S) M = rn ca C_X11_length 9 L (.int (x + y) :: S) M := (rn_at k_X11_length_8).trans rfl
theorem k_X11_length_9 : lk 9 C_X11_length = some (.iaload, (0, 0, 0, 0)) := by decide +kernel
theorem s_X11_length_9 {ca : Nat → List Value → tM → tO} {M : tM} {L : tL} {a : Nat} {i : Int32} {S : List Value} : rn ca C_X11_length 9 L (.int i :: .ref a :: S) M = if (akind a = 0 ∨ akind a = 6 ∨ akind a = 7) ∧ inb i (alen M a) then rn ca C_X11_length 10 L (.int (M.1 a i.toInt.toNat) :: S) M else none := (rn_at k_X11_length_9).trans rnx_ite
theorem k_X11_length_10 : lk 10 C_X11_length = some (.ireturn, (0, 0, 0, 0)) := by decide +kernel
theorem s_X11_length_10 {ca : Nat → List Value → tM → tO} {M : tM} {L : tL} {x : Int32} : rn ca C_X11_length 10 L [.int x] M = some (some (.int x), M) := (rn_at k_X11_length_10).trans rfl
theorem k_X11_bore_0 : lk 0 C_X11_bore = some (.aload_n 0, (0, 0, 0, 0)) := by decide +kernel
theorem s_X11_bore_0 {ca : Nat → List Value → tM → tO} {M : tM} {a1 : Option Value} {x : Nat} {S : List Value} : rn ca C_X11_bore 0 [some (.ref x), a1] S M = rn ca C_X11_bore 1 [some (.ref x), a1] (.ref x :: S) M := (rn_at k_X11_bore_0).trans rfl
theorem k_X11_bore_1 : lk 1 C_X11_bore = some (.getfield 17, (11, 1, 0, 147)) := by decide +kernel
theorem s_X11_bore_1 {ca : Nat → List Value → tM → tO} {M : tM} {L : tL} {b : Nat} {S : List Value} : rn ca C_X11_bore 1 L (.ref b :: S) M = if clsO b = some 11 then rn ca C_X11_bore 4 L (fv M b 1 :: S) M else none := (rn_at k_X11_bore_1).trans rnx_ite
theorem k_X11_bore_4 : lk 4 C_X11_bore = some (.iconst 5, (0, 0, 0, 0)) := by decide +kernel
theorem s_X11_bore_4 {ca : Nat → List Value → tM → tO} {M : tM} {L : tL} {S : List Value} : rn ca C_X11_bore 4 L S M = rn ca C_X11_bore 5 L (.int (iI 5) :: S) M := (rn_at k_X11_bore_4).trans rfl
theorem k_X11_bore_5 : lk 5 C_X11_bore = some (.iload_n 1, (0, 0, 0, 0)) := by decide +kernel
theorem s_X11_bore_5 {ca : Nat → List Value → tM → tO} {M : tM} {a0 : Option Value} {x : Int32} {S : List Value} : rn ca C_X11_bore 5 [a0, some (.int x)] S M = rn ca C_X11_bore 6 [a0, some (.int x)] (.int x :: S) M := (rn_at k_X11_bore_5).trans rfl
theorem k_X11_bore_6 : lk 6 C_X11_bore = some (.imul, (0, 0, 0, 0)) := by decide +kernel
theorem s_X11_bore_6 {ca : Nat → List Value → tM → tO} {M : tM} {L : tL} {x y : Int32} {S : List Value} : rn ca C_X11_bore 6 L (.int y :: .int x :: S) M = rn ca C_X11_bore 7 L (.int (x * y) :: S) M := (rn_at k_X11_bore_6).trans rfl
theorem k_X11_bore_7 : lk 7 C_X11_bore = some (.iconst 3, (0, 0, 0, 0)) := by decide +kernel
theorem s_X11_bore_7 {ca : Nat → List Value → tM → tO} {M : tM} {L : tL} {S : List Value} : rn ca C_X11_bore 7 L S M = rn ca C_X11_bore 8 L (.int (iI 3) :: S) M := (rn_at k_X11_bore_7).trans rfl
theorem k_X11_bore_8 : lk 8 C_X11_bore = some (.iadd, (0, 0, 0, 0)) := by decide +kernel
theorem s_X11_bore_8 {ca : Nat → List Value → tM → tO} {M : tM} {L : tL} {x y : Int32} {S : List Value} : rn ca C_X11_bore 8 L (.int y :: .int x :: S) M = rn ca C_X11_bore 9 L (.int (x + y) :: S) M := (rn_at k_X11_bore_8).trans rfl
theorem k_X11_bore_9 : lk 9 C_X11_bore = some (.iaload, (0, 0, 0, 0)) := by decide +kernel
theorem s_X11_bore_9 {ca : Nat → List Value → tM → tO} {M : tM} {L : tL} {a : Nat} {i : Int32} {S : List Value} : rn ca C_X11_bore 9 L (.int i :: .ref a :: S) M = if (akind a = 0 ∨ akind a = 6 ∨ akind a = 7) ∧ inb i (alen M a) then rn ca C_X11_bore 10 L (.int (M.1 a i.toInt.toNat) :: S) M else none := (rn_at k_X11_bore_9).trans rnx_ite
theorem k_X11_bore_10 : lk 10 C_X11_bore = some (.ireturn, (0, 0, 0, 0)) := by decide +kernel
theorem s_X11_bore_10 {ca : Nat → List Value → tM → tO} {M : tM} {L : tL} {x : Int32} : rn ca C_X11_bore 10 L [.int x] M = some (some (.int x), M) := (rn_at k_X11_bore_10).trans rfl
theorem k_X11_isShut_0 : lk 0 C_X11_isShut = some (.aload_n 0, (0, 0, 0, 0)) := by decide +kernel
theorem s_X11_isShut_0 {ca : Nat → List Value → tM → tO} {M : tM} {a1 : Option Value} {x : Nat} {S : List Value} : rn ca C_X11_isShut 0 [some (.ref x), a1] S M = rn ca C_X11_isShut 1 [some (.ref x), a1] (.ref x :: S) M := (rn_at k_X11_isShut_0).trans rfl
theorem k_X11_isShut_1 : lk 1 C_X11_isShut = some (.getfield 17, (11, 1, 0, 147)) := by decide +kernel
theorem s_X11_isShut_1 {ca : Nat → List Value → tM → tO} {M : tM} {L : tL} {b : Nat} {S : List Value} : rn ca C_X11_isShut 1 L (.ref b :: S) M = if clsO b = some 11 then rn ca C_X11_isShut 4 L (fv M b 1 :: S) M else none := (rn_at k_X11_isShut_1).trans rnx_ite
theorem k_X11_isShut_4 : lk 4 C_X11_isShut = some (.iconst 5, (0, 0, 0, 0)) := by decide +kernel
theorem s_X11_isShut_4 {ca : Nat → List Value → tM → tO} {M : tM} {L : tL} {S : List Value} : rn ca C_X11_isShut 4 L S M = rn ca C_X11_isShut 5 L (.int (iI 5) :: S) M := (rn_at k_X11_isShut_4).trans rfl
theorem k_X11_isShut_5 : lk 5 C_X11_isShut = some (.iload_n 1, (0, 0, 0, 0)) := by decide +kernel
theorem s_X11_isShut_5 {ca : Nat → List Value → tM → tO} {M : tM} {a0 : Option Value} {x : Int32} {S : List Value} : rn ca C_X11_isShut 5 [a0, some (.int x)] S M = rn ca C_X11_isShut 6 [a0, some (.int x)] (.int x :: S) M := (rn_at k_X11_isShut_5).trans rfl
theorem k_X11_isShut_6 : lk 6 C_X11_isShut = some (.imul, (0, 0, 0, 0)) := by decide +kernel
theorem s_X11_isShut_6 {ca : Nat → List Value → tM → tO} {M : tM} {L : tL} {x y : Int32} {S : List Value} : rn ca C_X11_isShut 6 L (.int y :: .int x :: S) M = rn ca C_X11_isShut 7 L (.int (x * y) :: S) M := (rn_at k_X11_isShut_6).trans rfl
theorem k_X11_isShut_7 : lk 7 C_X11_isShut = some (.iconst 4, (0, 0, 0, 0)) := by decide +kernel
theorem s_X11_isShut_7 {ca : Nat → List Value → tM → tO} {M : tM} {L : tL} {S : List Value} : rn ca C_X11_isShut 7 L S M = rn ca C_X11_isShut 8 L (.int (iI 4) :: S) M := (rn_at k_X11_isShut_7).trans rfl
theorem k_X11_isShut_8 : lk 8 C_X11_isShut = some (.iadd, (0, 0, 0, 0)) := by decide +kernel
theorem s_X11_isShut_8 {ca : Nat → List Value → tM → tO} {M : tM} {L : tL} {x y : Int32} {S : List Value} : rn ca C_X11_isShut 8 L (.int y :: .int x :: S) M = rn ca C_X11_isShut 9 L (.int (x + y) :: S) M := (rn_at k_X11_isShut_8).trans rfl
theorem k_X11_isShut_9 : lk 9 C_X11_isShut = some (.iaload, (0, 0, 0, 0)) := by decide +kernel
theorem s_X11_isShut_9 {ca : Nat → List Value → tM → tO} {M : tM} {L : tL} {a : Nat} {i : Int32} {S : List Value} : rn ca C_X11_isShut 9 L (.int i :: .ref a :: S) M = if (akind a = 0 ∨ akind a = 6 ∨ akind a = 7) ∧ inb i (alen M a) then rn ca C_X11_isShut 10 L (.int (M.1 a i.toInt.toNat) :: S) M else none := (rn_at k_X11_isShut_9).trans rnx_ite
theorem k_X11_isShut_10 : lk 10 C_X11_isShut = some (.iconst 1, (0, 0, 0, 0)) := by decide +kernel
theorem s_X11_isShut_10 {ca : Nat → List Value → tM → tO} {M : tM} {L : tL} {S : List Value} : rn ca C_X11_isShut 10 L S M = rn ca C_X11_isShut 11 L (.int (iI 1) :: S) M := (rn_at k_X11_isShut_10).trans rfl
theorem k_X11_isShut_11 : lk 11 C_X11_isShut = some (.if_icmp .ne 7, (18, 0, 0, 0)) := by decide +kernel
theorem s_X11_isShut_11 {ca : Nat → List Value → tM → tO} {M : tM} {L : tL} {x y : Int32} {S : List Value} : rn ca C_X11_isShut 11 L (.int y :: .int x :: S) M = if ¬ x = y then rn ca C_X11_isShut 18 L S M else rn ca C_X11_isShut 14 L S M := (rn_at k_X11_isShut_11).trans rnx_ite
theorem k_X11_isShut_14 : lk 14 C_X11_isShut = some (.iconst 1, (0, 0, 0, 0)) := by decide +kernel
theorem s_X11_isShut_14 {ca : Nat → List Value → tM → tO} {M : tM} {L : tL} {S : List Value} : rn ca C_X11_isShut 14 L S M = rn ca C_X11_isShut 15 L (.int (iI 1) :: S) M := (rn_at k_X11_isShut_14).trans rfl
theorem k_X11_isShut_15 : lk 15 C_X11_isShut = some (.goto 4, (19, 0, 0, 0)) := by decide +kernel
theorem s_X11_isShut_15 {ca : Nat → List Value → tM → tO} {M : tM} {L : tL} {S : List Value} : rn ca C_X11_isShut 15 L S M = rn ca C_X11_isShut 19 L S M := (rn_at k_X11_isShut_15).trans rfl
theorem k_X11_isShut_18 : lk 18 C_X11_isShut = some (.iconst 0, (0, 0, 0, 0)) := by decide +kernel
theorem s_X11_isShut_18 {ca : Nat → List Value → tM → tO} {M : tM} {L : tL} {S : List Value} : rn ca C_X11_isShut 18 L S M = rn ca C_X11_isShut 19 L (.int (iI 0) :: S) M := (rn_at k_X11_isShut_18).trans rfl
theorem k_X11_isShut_19 : lk 19 C_X11_isShut = some (.ireturn, (1, 0, 0, 0)) := by decide +kernel
theorem s_X11_isShut_19 {ca : Nat → List Value → tM → tO} {M : tM} {L : tL} {x : Int32} : rn ca C_X11_isShut 19 L [.int x] M = if x = iI 0 ∨ x = iI 1 then some (some (.int x), M) else none := (rn_at k_X11_isShut_19).trans rnx_ite
theorem k_X11_kind_0 : lk 0 C_X11_kind = some (.aload_n 0, (0, 0, 0, 0)) := by decide +kernel
theorem s_X11_kind_0 {ca : Nat → List Value → tM → tO} {M : tM} {a1 : Option Value} {x : Nat} {S : List Value} : rn ca C_X11_kind 0 [some (.ref x), a1] S M = rn ca C_X11_kind 1 [some (.ref x), a1] (.ref x :: S) M := (rn_at k_X11_kind_0).trans rfl
theorem k_X11_kind_1 : lk 1 C_X11_kind = some (.getfield 17, (11, 1, 0, 147)) := by decide +kernel
theorem s_X11_kind_1 {ca : Nat → List Value → tM → tO} {M : tM} {L : tL} {b : Nat} {S : List Value} : rn ca C_X11_kind 1 L (.ref b :: S) M = if clsO b = some 11 then rn ca C_X11_kind 4 L (fv M b 1 :: S) M else none := (rn_at k_X11_kind_1).trans rnx_ite
theorem k_X11_kind_4 : lk 4 C_X11_kind = some (.bipush 88, (0, 0, 0, 0)) := by decide +kernel
theorem s_X11_kind_4 {ca : Nat → List Value → tM → tO} {M : tM} {L : tL} {S : List Value} : rn ca C_X11_kind 4 L S M = rn ca C_X11_kind 6 L (.int (iI 88) :: S) M := (rn_at k_X11_kind_4).trans rfl
theorem k_X11_kind_6 : lk 6 C_X11_kind = some (.iconst 4, (0, 0, 0, 0)) := by decide +kernel
theorem s_X11_kind_6 {ca : Nat → List Value → tM → tO} {M : tM} {L : tL} {S : List Value} : rn ca C_X11_kind 6 L S M = rn ca C_X11_kind 7 L (.int (iI 4) :: S) M := (rn_at k_X11_kind_6).trans rfl
theorem k_X11_kind_7 : lk 7 C_X11_kind = some (.iload_n 1, (0, 0, 0, 0)) := by decide +kernel
theorem s_X11_kind_7 {ca : Nat → List Value → tM → tO} {M : tM} {a0 : Option Value} {x : Int32} {S : List Value} : rn ca C_X11_kind 7 [a0, some (.int x)] S M = rn ca C_X11_kind 8 [a0, some (.int x)] (.int x :: S) M := (rn_at k_X11_kind_7).trans rfl
theorem k_X11_kind_8 : lk 8 C_X11_kind = some (.imul, (0, 0, 0, 0)) := by decide +kernel
theorem s_X11_kind_8 {ca : Nat → List Value → tM → tO} {M : tM} {L : tL} {x y : Int32} {S : List Value} : rn ca C_X11_kind 8 L (.int y :: .int x :: S) M = rn ca C_X11_kind 9 L (.int (x * y) :: S) M := (rn_at k_X11_kind_8).trans rfl
theorem k_X11_kind_9 : lk 9 C_X11_kind = some (.iadd, (0, 0, 0, 0)) := by decide +kernel
theorem s_X11_kind_9 {ca : Nat → List Value → tM → tO} {M : tM} {L : tL} {x y : Int32} {S : List Value} : rn ca C_X11_kind 9 L (.int y :: .int x :: S) M = rn ca C_X11_kind 10 L (.int (x + y) :: S) M := (rn_at k_X11_kind_9).trans rfl
theorem k_X11_kind_10 : lk 10 C_X11_kind = some (.iaload, (0, 0, 0, 0)) := by decide +kernel
theorem s_X11_kind_10 {ca : Nat → List Value → tM → tO} {M : tM} {L : tL} {a : Nat} {i : Int32} {S : List Value} : rn ca C_X11_kind 10 L (.int i :: .ref a :: S) M = if (akind a = 0 ∨ akind a = 6 ∨ akind a = 7) ∧ inb i (alen M a) then rn ca C_X11_kind 11 L (.int (M.1 a i.toInt.toNat) :: S) M else none := (rn_at k_X11_kind_10).trans rnx_ite
theorem k_X11_kind_11 : lk 11 C_X11_kind = some (.ireturn, (0, 0, 0, 0)) := by decide +kernel
theorem s_X11_kind_11 {ca : Nat → List Value → tM → tO} {M : tM} {L : tL} {x : Int32} : rn ca C_X11_kind 11 L [.int x] M = some (some (.int x), M) := (rn_at k_X11_kind_11).trans rfl
theorem k_X11_a_0 : lk 0 C_X11_a = some (.aload_n 0, (0, 0, 0, 0)) := by decide +kernel
theorem s_X11_a_0 {ca : Nat → List Value → tM → tO} {M : tM} {a1 : Option Value} {x : Nat} {S : List Value} : rn ca C_X11_a 0 [some (.ref x), a1] S M = rn ca C_X11_a 1 [some (.ref x), a1] (.ref x :: S) M := (rn_at k_X11_a_0).trans rfl
theorem k_X11_a_1 : lk 1 C_X11_a = some (.getfield 17, (11, 1, 0, 147)) := by decide +kernel
theorem s_X11_a_1 {ca : Nat → List Value → tM → tO} {M : tM} {L : tL} {b : Nat} {S : List Value} : rn ca C_X11_a 1 L (.ref b :: S) M = if clsO b = some 11 then rn ca C_X11_a 4 L (fv M b 1 :: S) M else none := (rn_at k_X11_a_1).trans rnx_ite
theorem k_X11_a_4 : lk 4 C_X11_a = some (.bipush 88, (0, 0, 0, 0)) := by decide +kernel
theorem s_X11_a_4 {ca : Nat → List Value → tM → tO} {M : tM} {L : tL} {S : List Value} : rn ca C_X11_a 4 L S M = rn ca C_X11_a 6 L (.int (iI 88) :: S) M := (rn_at k_X11_a_4).trans rfl
theorem k_X11_a_6 : lk 6 C_X11_a = some (.iconst 4, (0, 0, 0, 0)) := by decide +kernel
theorem s_X11_a_6 {ca : Nat → List Value → tM → tO} {M : tM} {L : tL} {S : List Value} : rn ca C_X11_a 6 L S M = rn ca C_X11_a 7 L (.int (iI 4) :: S) M := (rn_at k_X11_a_6).trans rfl
theorem k_X11_a_7 : lk 7 C_X11_a = some (.iload_n 1, (0, 0, 0, 0)) := by decide +kernel
theorem s_X11_a_7 {ca : Nat → List Value → tM → tO} {M : tM} {a0 : Option Value} {x : Int32} {S : List Value} : rn ca C_X11_a 7 [a0, some (.int x)] S M = rn ca C_X11_a 8 [a0, some (.int x)] (.int x :: S) M := (rn_at k_X11_a_7).trans rfl
theorem k_X11_a_8 : lk 8 C_X11_a = some (.imul, (0, 0, 0, 0)) := by decide +kernel
theorem s_X11_a_8 {ca : Nat → List Value → tM → tO} {M : tM} {L : tL} {x y : Int32} {S : List Value} : rn ca C_X11_a 8 L (.int y :: .int x :: S) M = rn ca C_X11_a 9 L (.int (x * y) :: S) M := (rn_at k_X11_a_8).trans rfl
theorem k_X11_a_9 : lk 9 C_X11_a = some (.iadd, (0, 0, 0, 0)) := by decide +kernel
theorem s_X11_a_9 {ca : Nat → List Value → tM → tO} {M : tM} {L : tL} {x y : Int32} {S : List Value} : rn ca C_X11_a 9 L (.int y :: .int x :: S) M = rn ca C_X11_a 10 L (.int (x + y) :: S) M := (rn_at k_X11_a_9).trans rfl
theorem k_X11_a_10 : lk 10 C_X11_a = some (.iconst 1, (0, 0, 0, 0)) := by decide +kernel
theorem s_X11_a_10 {ca : Nat → List Value → tM → tO} {M : tM} {L : tL} {S : List Value} : rn ca C_X11_a 10 L S M = rn ca C_X11_a 11 L (.int (iI 1) :: S) M := (rn_at k_X11_a_10).trans rfl
theorem k_X11_a_11 : lk 11 C_X11_a = some (.iadd, (0, 0, 0, 0)) := by decide +kernel
theorem s_X11_a_11 {ca : Nat → List Value → tM → tO} {M : tM} {L : tL} {x y : Int32} {S : List Value} : rn ca C_X11_a 11 L (.int y :: .int x :: S) M = rn ca C_X11_a 12 L (.int (x + y) :: S) M := (rn_at k_X11_a_11).trans rfl
theorem k_X11_a_12 : lk 12 C_X11_a = some (.iaload, (0, 0, 0, 0)) := by decide +kernel
theorem s_X11_a_12 {ca : Nat → List Value → tM → tO} {M : tM} {L : tL} {a : Nat} {i : Int32} {S : List Value} : rn ca C_X11_a 12 L (.int i :: .ref a :: S) M = if (akind a = 0 ∨ akind a = 6 ∨ akind a = 7) ∧ inb i (alen M a) then rn ca C_X11_a 13 L (.int (M.1 a i.toInt.toNat) :: S) M else none := (rn_at k_X11_a_12).trans rnx_ite
theorem k_X11_a_13 : lk 13 C_X11_a = some (.ireturn, (0, 0, 0, 0)) := by decide +kernel
theorem s_X11_a_13 {ca : Nat → List Value → tM → tO} {M : tM} {L : tL} {x : Int32} : rn ca C_X11_a 13 L [.int x] M = some (some (.int x), M) := (rn_at k_X11_a_13).trans rfl
theorem k_X11_weight_0 : lk 0 C_X11_weight = some (.aload_n 0, (0, 0, 0, 0)) := by decide +kernel
theorem s_X11_weight_0 {ca : Nat → List Value → tM → tO} {M : tM} {a1 : Option Value} {x : Nat} {S : List Value} : rn ca C_X11_weight 0 [some (.ref x), a1] S M = rn ca C_X11_weight 1 [some (.ref x), a1] (.ref x :: S) M := (rn_at k_X11_weight_0).trans rfl
theorem k_X11_weight_1 : lk 1 C_X11_weight = some (.getfield 17, (11, 1, 0, 147)) := by decide +kernel
theorem s_X11_weight_1 {ca : Nat → List Value → tM → tO} {M : tM} {L : tL} {b : Nat} {S : List Value} : rn ca C_X11_weight 1 L (.ref b :: S) M = if clsO b = some 11 then rn ca C_X11_weight 4 L (fv M b 1 :: S) M else none := (rn_at k_X11_weight_1).trans rnx_ite
theorem k_X11_weight_4 : lk 4 C_X11_weight = some (.bipush 88, (0, 0, 0, 0)) := by decide +kernel
theorem s_X11_weight_4 {ca : Nat → List Value → tM → tO} {M : tM} {L : tL} {S : List Value} : rn ca C_X11_weight 4 L S M = rn ca C_X11_weight 6 L (.int (iI 88) :: S) M := (rn_at k_X11_weight_4).trans rfl
theorem k_X11_weight_6 : lk 6 C_X11_weight = some (.iconst 4, (0, 0, 0, 0)) := by decide +kernel
theorem s_X11_weight_6 {ca : Nat → List Value → tM → tO} {M : tM} {L : tL} {S : List Value} : rn ca C_X11_weight 6 L S M = rn ca C_X11_weight 7 L (.int (iI 4) :: S) M := (rn_at k_X11_weight_6).trans rfl
theorem k_X11_weight_7 : lk 7 C_X11_weight = some (.iload_n 1, (0, 0, 0, 0)) := by decide +kernel
theorem s_X11_weight_7 {ca : Nat → List Value → tM → tO} {M : tM} {a0 : Option Value} {x : Int32} {S : List Value} : rn ca C_X11_weight 7 [a0, some (.int x)] S M = rn ca C_X11_weight 8 [a0, some (.int x)] (.int x :: S) M := (rn_at k_X11_weight_7).trans rfl
theorem k_X11_weight_8 : lk 8 C_X11_weight = some (.imul, (0, 0, 0, 0)) := by decide +kernel
theorem s_X11_weight_8 {ca : Nat → List Value → tM → tO} {M : tM} {L : tL} {x y : Int32} {S : List Value} : rn ca C_X11_weight 8 L (.int y :: .int x :: S) M = rn ca C_X11_weight 9 L (.int (x * y) :: S) M := (rn_at k_X11_weight_8).trans rfl
theorem k_X11_weight_9 : lk 9 C_X11_weight = some (.iadd, (0, 0, 0, 0)) := by decide +kernel
theorem s_X11_weight_9 {ca : Nat → List Value → tM → tO} {M : tM} {L : tL} {x y : Int32} {S : List Value} : rn ca C_X11_weight 9 L (.int y :: .int x :: S) M = rn ca C_X11_weight 10 L (.int (x + y) :: S) M := (rn_at k_X11_weight_9).trans rfl
theorem k_X11_weight_10 : lk 10 C_X11_weight = some (.iconst 2, (0, 0, 0, 0)) := by decide +kernel
theorem s_X11_weight_10 {ca : Nat → List Value → tM → tO} {M : tM} {L : tL} {S : List Value} : rn ca C_X11_weight 10 L S M = rn ca C_X11_weight 11 L (.int (iI 2) :: S) M := (rn_at k_X11_weight_10).trans rfl
theorem k_X11_weight_11 : lk 11 C_X11_weight = some (.iadd, (0, 0, 0, 0)) := by decide +kernel
theorem s_X11_weight_11 {ca : Nat → List Value → tM → tO} {M : tM} {L : tL} {x y : Int32} {S : List Value} : rn ca C_X11_weight 11 L (.int y :: .int x :: S) M = rn ca C_X11_weight 12 L (.int (x + y) :: S) M := (rn_at k_X11_weight_11).trans rfl
theorem k_X11_weight_12 : lk 12 C_X11_weight = some (.iaload, (0, 0, 0, 0)) := by decide +kernel
theorem s_X11_weight_12 {ca : Nat → List Value → tM → tO} {M : tM} {L : tL} {a : Nat} {i : Int32} {S : List Value} : rn ca C_X11_weight 12 L (.int i :: .ref a :: S) M = if (akind a = 0 ∨ akind a = 6 ∨ akind a = 7) ∧ inb i (alen M a) then rn ca C_X11_weight 13 L (.int (M.1 a i.toInt.toNat) :: S) M else none := (rn_at k_X11_weight_12).trans rnx_ite
theorem k_X11_weight_13 : lk 13 C_X11_weight = some (.ireturn, (0, 0, 0, 0)) := by decide +kernel
theorem s_X11_weight_13 {ca : Nat → List Value → tM → tO} {M : tM} {L : tL} {x : Int32} : rn ca C_X11_weight 13 L [.int x] M = some (some (.int x), M) := (rn_at k_X11_weight_13).trans rfl
theorem k_X11_at_0 : lk 0 C_X11_at = some (.aload_n 0, (0, 0, 0, 0)) := by decide +kernel
theorem s_X11_at_0 {ca : Nat → List Value → tM → tO} {M : tM} {a1 : Option Value} {x : Nat} {S : List Value} : rn ca C_X11_at 0 [some (.ref x), a1] S M = rn ca C_X11_at 1 [some (.ref x), a1] (.ref x :: S) M := (rn_at k_X11_at_0).trans rfl
theorem k_X11_at_1 : lk 1 C_X11_at = some (.getfield 17, (11, 1, 0, 147)) := by decide +kernel
theorem s_X11_at_1 {ca : Nat → List Value → tM → tO} {M : tM} {L : tL} {b : Nat} {S : List Value} : rn ca C_X11_at 1 L (.ref b :: S) M = if clsO b = some 11 then rn ca C_X11_at 4 L (fv M b 1 :: S) M else none := (rn_at k_X11_at_1).trans rnx_ite
theorem k_X11_at_4 : lk 4 C_X11_at = some (.bipush 88, (0, 0, 0, 0)) := by decide +kernel
theorem s_X11_at_4 {ca : Nat → List Value → tM → tO} {M : tM} {L : tL} {S : List Value} : rn ca C_X11_at 4 L S M = rn ca C_X11_at 6 L (.int (iI 88) :: S) M := (rn_at k_X11_at_4).trans rfl
theorem k_X11_at_6 : lk 6 C_X11_at = some (.iconst 4, (0, 0, 0, 0)) := by decide +kernel
theorem s_X11_at_6 {ca : Nat → List Value → tM → tO} {M : tM} {L : tL} {S : List Value} : rn ca C_X11_at 6 L S M = rn ca C_X11_at 7 L (.int (iI 4) :: S) M := (rn_at k_X11_at_6).trans rfl
theorem k_X11_at_7 : lk 7 C_X11_at = some (.iload_n 1, (0, 0, 0, 0)) := by decide +kernel
theorem s_X11_at_7 {ca : Nat → List Value → tM → tO} {M : tM} {a0 : Option Value} {x : Int32} {S : List Value} : rn ca C_X11_at 7 [a0, some (.int x)] S M = rn ca C_X11_at 8 [a0, some (.int x)] (.int x :: S) M := (rn_at k_X11_at_7).trans rfl
theorem k_X11_at_8 : lk 8 C_X11_at = some (.imul, (0, 0, 0, 0)) := by decide +kernel
theorem s_X11_at_8 {ca : Nat → List Value → tM → tO} {M : tM} {L : tL} {x y : Int32} {S : List Value} : rn ca C_X11_at 8 L (.int y :: .int x :: S) M = rn ca C_X11_at 9 L (.int (x * y) :: S) M := (rn_at k_X11_at_8).trans rfl
theorem k_X11_at_9 : lk 9 C_X11_at = some (.iadd, (0, 0, 0, 0)) := by decide +kernel
theorem s_X11_at_9 {ca : Nat → List Value → tM → tO} {M : tM} {L : tL} {x y : Int32} {S : List Value} : rn ca C_X11_at 9 L (.int y :: .int x :: S) M = rn ca C_X11_at 10 L (.int (x + y) :: S) M := (rn_at k_X11_at_9).trans rfl
theorem k_X11_at_10 : lk 10 C_X11_at = some (.iconst 3, (0, 0, 0, 0)) := by decide +kernel
theorem s_X11_at_10 {ca : Nat → List Value → tM → tO} {M : tM} {L : tL} {S : List Value} : rn ca C_X11_at 10 L S M = rn ca C_X11_at 11 L (.int (iI 3) :: S) M := (rn_at k_X11_at_10).trans rfl
theorem k_X11_at_11 : lk 11 C_X11_at = some (.iadd, (0, 0, 0, 0)) := by decide +kernel
theorem s_X11_at_11 {ca : Nat → List Value → tM → tO} {M : tM} {L : tL} {x y : Int32} {S : List Value} : rn ca C_X11_at 11 L (.int y :: .int x :: S) M = rn ca C_X11_at 12 L (.int (x + y) :: S) M := (rn_at k_X11_at_11).trans rfl
theorem k_X11_at_12 : lk 12 C_X11_at = some (.iaload, (0, 0, 0, 0)) := by decide +kernel
theorem s_X11_at_12 {ca : Nat → List Value → tM → tO} {M : tM} {L : tL} {a : Nat} {i : Int32} {S : List Value} : rn ca C_X11_at 12 L (.int i :: .ref a :: S) M = if (akind a = 0 ∨ akind a = 6 ∨ akind a = 7) ∧ inb i (alen M a) then rn ca C_X11_at 13 L (.int (M.1 a i.toInt.toNat) :: S) M else none := (rn_at k_X11_at_12).trans rnx_ite
theorem k_X11_at_13 : lk 13 C_X11_at = some (.ireturn, (0, 0, 0, 0)) := by decide +kernel
theorem s_X11_at_13 {ca : Nat → List Value → tM → tO} {M : tM} {L : tL} {x : Int32} : rn ca C_X11_at 13 L [.int x] M = some (some (.int x), M) := (rn_at k_X11_at_13).trans rfl
theorem k_X11_addDesk_0 : lk 0 C_X11_addDesk = some (.aload_n 0, (0, 0, 0, 0)) := by decide +kernel
theorem s_X11_addDesk_0 {ca : Nat → List Value → tM → tO} {M : tM} {a1 : Option Value} {x : Nat} {S : List Value} : rn ca C_X11_addDesk 0 [some (.ref x), a1] S M = rn ca C_X11_addDesk 1 [some (.ref x), a1] (.ref x :: S) M := (rn_at k_X11_addDesk_0).trans rfl
theorem k_X11_addDesk_1 : lk 1 C_X11_addDesk = some (.getfield 17, (11, 1, 0, 147)) := by decide +kernel
theorem s_X11_addDesk_1 {ca : Nat → List Value → tM → tO} {M : tM} {L : tL} {b : Nat} {S : List Value} : rn ca C_X11_addDesk 1 L (.ref b :: S) M = if clsO b = some 11 then rn ca C_X11_addDesk 4 L (fv M b 1 :: S) M else none := (rn_at k_X11_addDesk_1).trans rnx_ite
theorem k_X11_addDesk_4 : lk 4 C_X11_addDesk = some (.bipush 108, (0, 0, 0, 0)) := by decide +kernel
theorem s_X11_addDesk_4 {ca : Nat → List Value → tM → tO} {M : tM} {L : tL} {S : List Value} : rn ca C_X11_addDesk 4 L S M = rn ca C_X11_addDesk 6 L (.int (iI 108) :: S) M := (rn_at k_X11_addDesk_4).trans rfl
theorem k_X11_addDesk_6 : lk 6 C_X11_addDesk = some (.iaload, (0, 0, 0, 0)) := by decide +kernel
theorem s_X11_addDesk_6 {ca : Nat → List Value → tM → tO} {M : tM} {L : tL} {a : Nat} {i : Int32} {S : List Value} : rn ca C_X11_addDesk 6 L (.int i :: .ref a :: S) M = if (akind a = 0 ∨ akind a = 6 ∨ akind a = 7) ∧ inb i (alen M a) then rn ca C_X11_addDesk 7 L (.int (M.1 a i.toInt.toNat) :: S) M else none := (rn_at k_X11_addDesk_6).trans rnx_ite
theorem k_X11_addDesk_7 : lk 7 C_X11_addDesk = some (.istore_n 1, (0, 0, 0, 0)) := by decide +kernel
theorem s_X11_addDesk_7 {ca : Nat → List Value → tM → tO} {M : tM} {a0 a1 : Option Value} {x : Int32} {S : List Value} : rn ca C_X11_addDesk 7 [a0, a1] (.int x :: S) M = rn ca C_X11_addDesk 8 [a0, some (.int x)] S M := (rn_at k_X11_addDesk_7).trans rfl
theorem k_X11_addDesk_8 : lk 8 C_X11_addDesk = some (.aload_n 0, (0, 0, 0, 0)) := by decide +kernel
theorem s_X11_addDesk_8 {ca : Nat → List Value → tM → tO} {M : tM} {a1 : Option Value} {x : Nat} {S : List Value} : rn ca C_X11_addDesk 8 [some (.ref x), a1] S M = rn ca C_X11_addDesk 9 [some (.ref x), a1] (.ref x :: S) M := (rn_at k_X11_addDesk_8).trans rfl
theorem k_X11_addDesk_9 : lk 9 C_X11_addDesk = some (.getfield 17, (11, 1, 0, 147)) := by decide +kernel
theorem s_X11_addDesk_9 {ca : Nat → List Value → tM → tO} {M : tM} {L : tL} {b : Nat} {S : List Value} : rn ca C_X11_addDesk 9 L (.ref b :: S) M = if clsO b = some 11 then rn ca C_X11_addDesk 12 L (fv M b 1 :: S) M else none := (rn_at k_X11_addDesk_9).trans rnx_ite
theorem k_X11_addDesk_12 : lk 12 C_X11_addDesk = some (.bipush 80, (0, 0, 0, 0)) := by decide +kernel
theorem s_X11_addDesk_12 {ca : Nat → List Value → tM → tO} {M : tM} {L : tL} {S : List Value} : rn ca C_X11_addDesk 12 L S M = rn ca C_X11_addDesk 14 L (.int (iI 80) :: S) M := (rn_at k_X11_addDesk_12).trans rfl
theorem k_X11_addDesk_14 : lk 14 C_X11_addDesk = some (.iload_n 1, (0, 0, 0, 0)) := by decide +kernel
theorem s_X11_addDesk_14 {ca : Nat → List Value → tM → tO} {M : tM} {a0 : Option Value} {x : Int32} {S : List Value} : rn ca C_X11_addDesk 14 [a0, some (.int x)] S M = rn ca C_X11_addDesk 15 [a0, some (.int x)] (.int x :: S) M := (rn_at k_X11_addDesk_14).trans rfl
theorem k_X11_addDesk_15 : lk 15 C_X11_addDesk = some (.iadd, (0, 0, 0, 0)) := by decide +kernel
theorem s_X11_addDesk_15 {ca : Nat → List Value → tM → tO} {M : tM} {L : tL} {x y : Int32} {S : List Value} : rn ca C_X11_addDesk 15 L (.int y :: .int x :: S) M = rn ca C_X11_addDesk 16 L (.int (x + y) :: S) M := (rn_at k_X11_addDesk_15).trans rfl
theorem k_X11_addDesk_16 : lk 16 C_X11_addDesk = some (.iconst 0, (0, 0, 0, 0)) := by decide +kernel
theorem s_X11_addDesk_16 {ca : Nat → List Value → tM → tO} {M : tM} {L : tL} {S : List Value} : rn ca C_X11_addDesk 16 L S M = rn ca C_X11_addDesk 17 L (.int (iI 0) :: S) M := (rn_at k_X11_addDesk_16).trans rfl
theorem k_X11_addDesk_17 : lk 17 C_X11_addDesk = some (.iastore, (0, 0, 0, 0)) := by decide +kernel
theorem s_X11_addDesk_17 {ca : Nat → List Value → tM → tO} {M : tM} {L : tL} {a : Nat} {i x : Int32} {S : List Value} : rn ca C_X11_addDesk 17 L (.int x :: .int i :: .ref a :: S) M = if akind a = 0 ∧ inb i (alen M a) then rn ca C_X11_addDesk 18 L S (sI M a i.toInt.toNat x) else none := (rn_at k_X11_addDesk_17).trans rnx_ite
theorem k_X11_addDesk_18 : lk 18 C_X11_addDesk = some (.aload_n 0, (0, 0, 0, 0)) := by decide +kernel
theorem s_X11_addDesk_18 {ca : Nat → List Value → tM → tO} {M : tM} {a1 : Option Value} {x : Nat} {S : List Value} : rn ca C_X11_addDesk 18 [some (.ref x), a1] S M = rn ca C_X11_addDesk 19 [some (.ref x), a1] (.ref x :: S) M := (rn_at k_X11_addDesk_18).trans rfl
theorem k_X11_addDesk_19 : lk 19 C_X11_addDesk = some (.getfield 17, (11, 1, 0, 147)) := by decide +kernel
theorem s_X11_addDesk_19 {ca : Nat → List Value → tM → tO} {M : tM} {L : tL} {b : Nat} {S : List Value} : rn ca C_X11_addDesk 19 L (.ref b :: S) M = if clsO b = some 11 then rn ca C_X11_addDesk 22 L (fv M b 1 :: S) M else none := (rn_at k_X11_addDesk_19).trans rnx_ite
theorem k_X11_addDesk_22 : lk 22 C_X11_addDesk = some (.bipush 108, (0, 0, 0, 0)) := by decide +kernel
theorem s_X11_addDesk_22 {ca : Nat → List Value → tM → tO} {M : tM} {L : tL} {S : List Value} : rn ca C_X11_addDesk 22 L S M = rn ca C_X11_addDesk 24 L (.int (iI 108) :: S) M := (rn_at k_X11_addDesk_22).trans rfl
theorem k_X11_addDesk_24 : lk 24 C_X11_addDesk = some (.dup2, (0, 0, 0, 0)) := by decide +kernel
theorem s_X11_addDesk_24 {ca : Nat → List Value → tM → tO} {M : tM} {L : tL} {x : Nat} {y : Int32} {S : List Value} : rn ca C_X11_addDesk 24 L (.int y :: .ref x :: S) M = rn ca C_X11_addDesk 25 L (.int y :: .ref x :: .int y :: .ref x :: S) M := (rn_at k_X11_addDesk_24).trans rfl
theorem k_X11_addDesk_25 : lk 25 C_X11_addDesk = some (.iaload, (0, 0, 0, 0)) := by decide +kernel
theorem s_X11_addDesk_25 {ca : Nat → List Value → tM → tO} {M : tM} {L : tL} {a : Nat} {i : Int32} {S : List Value} : rn ca C_X11_addDesk 25 L (.int i :: .ref a :: S) M = if (akind a = 0 ∨ akind a = 6 ∨ akind a = 7) ∧ inb i (alen M a) then rn ca C_X11_addDesk 26 L (.int (M.1 a i.toInt.toNat) :: S) M else none := (rn_at k_X11_addDesk_25).trans rnx_ite
theorem k_X11_addDesk_26 : lk 26 C_X11_addDesk = some (.iconst 1, (0, 0, 0, 0)) := by decide +kernel
theorem s_X11_addDesk_26 {ca : Nat → List Value → tM → tO} {M : tM} {L : tL} {S : List Value} : rn ca C_X11_addDesk 26 L S M = rn ca C_X11_addDesk 27 L (.int (iI 1) :: S) M := (rn_at k_X11_addDesk_26).trans rfl
theorem k_X11_addDesk_27 : lk 27 C_X11_addDesk = some (.iadd, (0, 0, 0, 0)) := by decide +kernel
theorem s_X11_addDesk_27 {ca : Nat → List Value → tM → tO} {M : tM} {L : tL} {x y : Int32} {S : List Value} : rn ca C_X11_addDesk 27 L (.int y :: .int x :: S) M = rn ca C_X11_addDesk 28 L (.int (x + y) :: S) M := (rn_at k_X11_addDesk_27).trans rfl
theorem k_X11_addDesk_28 : lk 28 C_X11_addDesk = some (.iastore, (0, 0, 0, 0)) := by decide +kernel
theorem s_X11_addDesk_28 {ca : Nat → List Value → tM → tO} {M : tM} {L : tL} {a : Nat} {i x : Int32} {S : List Value} : rn ca C_X11_addDesk 28 L (.int x :: .int i :: .ref a :: S) M = if akind a = 0 ∧ inb i (alen M a) then rn ca C_X11_addDesk 29 L S (sI M a i.toInt.toNat x) else none := (rn_at k_X11_addDesk_28).trans rnx_ite
theorem k_X11_addDesk_29 : lk 29 C_X11_addDesk = some (.iload_n 1, (0, 0, 0, 0)) := by decide +kernel
theorem s_X11_addDesk_29 {ca : Nat → List Value → tM → tO} {M : tM} {a0 : Option Value} {x : Int32} {S : List Value} : rn ca C_X11_addDesk 29 [a0, some (.int x)] S M = rn ca C_X11_addDesk 30 [a0, some (.int x)] (.int x :: S) M := (rn_at k_X11_addDesk_29).trans rfl
theorem k_X11_addDesk_30 : lk 30 C_X11_addDesk = some (.ireturn, (0, 0, 0, 0)) := by decide +kernel
theorem s_X11_addDesk_30 {ca : Nat → List Value → tM → tO} {M : tM} {L : tL} {x : Int32} : rn ca C_X11_addDesk 30 L [.int x] M = some (some (.int x), M) := (rn_at k_X11_addDesk_30).trans rfl
theorem k_X11_addTube_0 : lk 0 C_X11_addTube = some (.aload_n 0, (0, 0, 0, 0)) := by decide +kernel
theorem s_X11_addTube_0 {ca : Nat → List Value → tM → tO} {M : tM} {a1 a2 a3 a4 a5 : Option Value} {x : Nat} {S : List Value} : rn ca C_X11_addTube 0 [some (.ref x), a1, a2, a3, a4, a5] S M = rn ca C_X11_addTube 1 [some (.ref x), a1, a2, a3, a4, a5] (.ref x :: S) M := (rn_at k_X11_addTube_0).trans rfl
theorem k_X11_addTube_1 : lk 1 C_X11_addTube = some (.getfield 17, (11, 1, 0, 147)) := by decide +kernel
theorem s_X11_addTube_1 {ca : Nat → List Value → tM → tO} {M : tM} {L : tL} {b : Nat} {S : List Value} : rn ca C_X11_addTube 1 L (.ref b :: S) M = if clsO b = some 11 then rn ca C_X11_addTube 4 L (fv M b 1 :: S) M else none := (rn_at k_X11_addTube_1).trans rnx_ite
theorem k_X11_addTube_4 : lk 4 C_X11_addTube = some (.bipush 109, (0, 0, 0, 0)) := by decide +kernel
theorem s_X11_addTube_4 {ca : Nat → List Value → tM → tO} {M : tM} {L : tL} {S : List Value} : rn ca C_X11_addTube 4 L S M = rn ca C_X11_addTube 6 L (.int (iI 109) :: S) M := (rn_at k_X11_addTube_4).trans rfl
theorem k_X11_addTube_6 : lk 6 C_X11_addTube = some (.iaload, (0, 0, 0, 0)) := by decide +kernel
theorem s_X11_addTube_6 {ca : Nat → List Value → tM → tO} {M : tM} {L : tL} {a : Nat} {i : Int32} {S : List Value} : rn ca C_X11_addTube 6 L (.int i :: .ref a :: S) M = if (akind a = 0 ∨ akind a = 6 ∨ akind a = 7) ∧ inb i (alen M a) then rn ca C_X11_addTube 7 L (.int (M.1 a i.toInt.toNat) :: S) M else none := (rn_at k_X11_addTube_6).trans rnx_ite
theorem k_X11_addTube_7 : lk 7 C_X11_addTube = some (.istore 5, (0, 0, 0, 0)) := by decide +kernel
theorem s_X11_addTube_7 {ca : Nat → List Value → tM → tO} {M : tM} {a0 a1 a2 a3 a4 a5 : Option Value} {x : Int32} {S : List Value} : rn ca C_X11_addTube 7 [a0, a1, a2, a3, a4, a5] (.int x :: S) M = rn ca C_X11_addTube 9 [a0, a1, a2, a3, a4, some (.int x)] S M := (rn_at k_X11_addTube_7).trans rfl
theorem k_X11_addTube_9 : lk 9 C_X11_addTube = some (.aload_n 0, (0, 0, 0, 0)) := by decide +kernel
theorem s_X11_addTube_9 {ca : Nat → List Value → tM → tO} {M : tM} {a1 a2 a3 a4 a5 : Option Value} {x : Nat} {S : List Value} : rn ca C_X11_addTube 9 [some (.ref x), a1, a2, a3, a4, a5] S M = rn ca C_X11_addTube 10 [some (.ref x), a1, a2, a3, a4, a5] (.ref x :: S) M := (rn_at k_X11_addTube_9).trans rfl
theorem k_X11_addTube_10 : lk 10 C_X11_addTube = some (.getfield 17, (11, 1, 0, 147)) := by decide +kernel
theorem s_X11_addTube_10 {ca : Nat → List Value → tM → tO} {M : tM} {L : tL} {b : Nat} {S : List Value} : rn ca C_X11_addTube 10 L (.ref b :: S) M = if clsO b = some 11 then rn ca C_X11_addTube 13 L (fv M b 1 :: S) M else none := (rn_at k_X11_addTube_10).trans rnx_ite
theorem k_X11_addTube_13 : lk 13 C_X11_addTube = some (.iconst 5, (0, 0, 0, 0)) := by decide +kernel
theorem s_X11_addTube_13 {ca : Nat → List Value → tM → tO} {M : tM} {L : tL} {S : List Value} : rn ca C_X11_addTube 13 L S M = rn ca C_X11_addTube 14 L (.int (iI 5) :: S) M := (rn_at k_X11_addTube_13).trans rfl
theorem k_X11_addTube_14 : lk 14 C_X11_addTube = some (.iload 5, (0, 0, 0, 0)) := by decide +kernel
theorem s_X11_addTube_14 {ca : Nat → List Value → tM → tO} {M : tM} {a0 a1 a2 a3 a4 : Option Value} {x : Int32} {S : List Value} : rn ca C_X11_addTube 14 [a0, a1, a2, a3, a4, some (.int x)] S M = rn ca C_X11_addTube 16 [a0, a1, a2, a3, a4, some (.int x)] (.int x :: S) M := (rn_at k_X11_addTube_14).trans rfl
theorem k_X11_addTube_16 : lk 16 C_X11_addTube = some (.imul, (0, 0, 0, 0)) := by decide +kernel
theorem s_X11_addTube_16 {ca : Nat → List Value → tM → tO} {M : tM} {L : tL} {x y : Int32} {S : List Value} : rn ca C_X11_addTube 16 L (.int y :: .int x :: S) M = rn ca C_X11_addTube 17 L (.int (x * y) :: S) M := (rn_at k_X11_addTube_16).trans rfl
theorem k_X11_addTube_17 : lk 17 C_X11_addTube = some (.iload_n 1, (0, 0, 0, 0)) := by decide +kernel
theorem s_X11_addTube_17 {ca : Nat → List Value → tM → tO} {M : tM} {a0 a2 a3 a4 a5 : Option Value} {x : Int32} {S : List Value} : rn ca C_X11_addTube 17 [a0, some (.int x), a2, a3, a4, a5] S M = rn ca C_X11_addTube 18 [a0, some (.int x), a2, a3, a4, a5] (.int x :: S) M := (rn_at k_X11_addTube_17).trans rfl
theorem k_X11_addTube_18 : lk 18 C_X11_addTube = some (.iastore, (0, 0, 0, 0)) := by decide +kernel
theorem s_X11_addTube_18 {ca : Nat → List Value → tM → tO} {M : tM} {L : tL} {a : Nat} {i x : Int32} {S : List Value} : rn ca C_X11_addTube 18 L (.int x :: .int i :: .ref a :: S) M = if akind a = 0 ∧ inb i (alen M a) then rn ca C_X11_addTube 19 L S (sI M a i.toInt.toNat x) else none := (rn_at k_X11_addTube_18).trans rnx_ite
theorem k_X11_addTube_19 : lk 19 C_X11_addTube = some (.aload_n 0, (0, 0, 0, 0)) := by decide +kernel
theorem s_X11_addTube_19 {ca : Nat → List Value → tM → tO} {M : tM} {a1 a2 a3 a4 a5 : Option Value} {x : Nat} {S : List Value} : rn ca C_X11_addTube 19 [some (.ref x), a1, a2, a3, a4, a5] S M = rn ca C_X11_addTube 20 [some (.ref x), a1, a2, a3, a4, a5] (.ref x :: S) M := (rn_at k_X11_addTube_19).trans rfl
theorem k_X11_addTube_20 : lk 20 C_X11_addTube = some (.getfield 17, (11, 1, 0, 147)) := by decide +kernel
theorem s_X11_addTube_20 {ca : Nat → List Value → tM → tO} {M : tM} {L : tL} {b : Nat} {S : List Value} : rn ca C_X11_addTube 20 L (.ref b :: S) M = if clsO b = some 11 then rn ca C_X11_addTube 23 L (fv M b 1 :: S) M else none := (rn_at k_X11_addTube_20).trans rnx_ite
theorem k_X11_addTube_23 : lk 23 C_X11_addTube = some (.iconst 5, (0, 0, 0, 0)) := by decide +kernel
theorem s_X11_addTube_23 {ca : Nat → List Value → tM → tO} {M : tM} {L : tL} {S : List Value} : rn ca C_X11_addTube 23 L S M = rn ca C_X11_addTube 24 L (.int (iI 5) :: S) M := (rn_at k_X11_addTube_23).trans rfl
theorem k_X11_addTube_24 : lk 24 C_X11_addTube = some (.iload 5, (0, 0, 0, 0)) := by decide +kernel
theorem s_X11_addTube_24 {ca : Nat → List Value → tM → tO} {M : tM} {a0 a1 a2 a3 a4 : Option Value} {x : Int32} {S : List Value} : rn ca C_X11_addTube 24 [a0, a1, a2, a3, a4, some (.int x)] S M = rn ca C_X11_addTube 26 [a0, a1, a2, a3, a4, some (.int x)] (.int x :: S) M := (rn_at k_X11_addTube_24).trans rfl
theorem k_X11_addTube_26 : lk 26 C_X11_addTube = some (.imul, (0, 0, 0, 0)) := by decide +kernel
theorem s_X11_addTube_26 {ca : Nat → List Value → tM → tO} {M : tM} {L : tL} {x y : Int32} {S : List Value} : rn ca C_X11_addTube 26 L (.int y :: .int x :: S) M = rn ca C_X11_addTube 27 L (.int (x * y) :: S) M := (rn_at k_X11_addTube_26).trans rfl
theorem k_X11_addTube_27 : lk 27 C_X11_addTube = some (.iconst 1, (0, 0, 0, 0)) := by decide +kernel
theorem s_X11_addTube_27 {ca : Nat → List Value → tM → tO} {M : tM} {L : tL} {S : List Value} : rn ca C_X11_addTube 27 L S M = rn ca C_X11_addTube 28 L (.int (iI 1) :: S) M := (rn_at k_X11_addTube_27).trans rfl
theorem k_X11_addTube_28 : lk 28 C_X11_addTube = some (.iadd, (0, 0, 0, 0)) := by decide +kernel
theorem s_X11_addTube_28 {ca : Nat → List Value → tM → tO} {M : tM} {L : tL} {x y : Int32} {S : List Value} : rn ca C_X11_addTube 28 L (.int y :: .int x :: S) M = rn ca C_X11_addTube 29 L (.int (x + y) :: S) M := (rn_at k_X11_addTube_28).trans rfl
theorem k_X11_addTube_29 : lk 29 C_X11_addTube = some (.iload_n 2, (0, 0, 0, 0)) := by decide +kernel
theorem s_X11_addTube_29 {ca : Nat → List Value → tM → tO} {M : tM} {a0 a1 a3 a4 a5 : Option Value} {x : Int32} {S : List Value} : rn ca C_X11_addTube 29 [a0, a1, some (.int x), a3, a4, a5] S M = rn ca C_X11_addTube 30 [a0, a1, some (.int x), a3, a4, a5] (.int x :: S) M := (rn_at k_X11_addTube_29).trans rfl
theorem k_X11_addTube_30 : lk 30 C_X11_addTube = some (.iastore, (0, 0, 0, 0)) := by decide +kernel
theorem s_X11_addTube_30 {ca : Nat → List Value → tM → tO} {M : tM} {L : tL} {a : Nat} {i x : Int32} {S : List Value} : rn ca C_X11_addTube 30 L (.int x :: .int i :: .ref a :: S) M = if akind a = 0 ∧ inb i (alen M a) then rn ca C_X11_addTube 31 L S (sI M a i.toInt.toNat x) else none := (rn_at k_X11_addTube_30).trans rnx_ite
theorem k_X11_addTube_31 : lk 31 C_X11_addTube = some (.aload_n 0, (0, 0, 0, 0)) := by decide +kernel
theorem s_X11_addTube_31 {ca : Nat → List Value → tM → tO} {M : tM} {a1 a2 a3 a4 a5 : Option Value} {x : Nat} {S : List Value} : rn ca C_X11_addTube 31 [some (.ref x), a1, a2, a3, a4, a5] S M = rn ca C_X11_addTube 32 [some (.ref x), a1, a2, a3, a4, a5] (.ref x :: S) M := (rn_at k_X11_addTube_31).trans rfl
theorem k_X11_addTube_32 : lk 32 C_X11_addTube = some (.getfield 17, (11, 1, 0, 147)) := by decide +kernel
theorem s_X11_addTube_32 {ca : Nat → List Value → tM → tO} {M : tM} {L : tL} {b : Nat} {S : List Value} : rn ca C_X11_addTube 32 L (.ref b :: S) M = if clsO b = some 11 then rn ca C_X11_addTube 35 L (fv M b 1 :: S) M else none := (rn_at k_X11_addTube_32).trans rnx_ite
theorem k_X11_addTube_35 : lk 35 C_X11_addTube = some (.iconst 5, (0, 0, 0, 0)) := by decide +kernel
theorem s_X11_addTube_35 {ca : Nat → List Value → tM → tO} {M : tM} {L : tL} {S : List Value} : rn ca C_X11_addTube 35 L S M = rn ca C_X11_addTube 36 L (.int (iI 5) :: S) M := (rn_at k_X11_addTube_35).trans rfl
theorem k_X11_addTube_36 : lk 36 C_X11_addTube = some (.iload 5, (0, 0, 0, 0)) := by decide +kernel
theorem s_X11_addTube_36 {ca : Nat → List Value → tM → tO} {M : tM} {a0 a1 a2 a3 a4 : Option Value} {x : Int32} {S : List Value} : rn ca C_X11_addTube 36 [a0, a1, a2, a3, a4, some (.int x)] S M = rn ca C_X11_addTube 38 [a0, a1, a2, a3, a4, some (.int x)] (.int x :: S) M := (rn_at k_X11_addTube_36).trans rfl
theorem k_X11_addTube_38 : lk 38 C_X11_addTube = some (.imul, (0, 0, 0, 0)) := by decide +kernel
theorem s_X11_addTube_38 {ca : Nat → List Value → tM → tO} {M : tM} {L : tL} {x y : Int32} {S : List Value} : rn ca C_X11_addTube 38 L (.int y :: .int x :: S) M = rn ca C_X11_addTube 39 L (.int (x * y) :: S) M := (rn_at k_X11_addTube_38).trans rfl
theorem k_X11_addTube_39 : lk 39 C_X11_addTube = some (.iconst 2, (0, 0, 0, 0)) := by decide +kernel
theorem s_X11_addTube_39 {ca : Nat → List Value → tM → tO} {M : tM} {L : tL} {S : List Value} : rn ca C_X11_addTube 39 L S M = rn ca C_X11_addTube 40 L (.int (iI 2) :: S) M := (rn_at k_X11_addTube_39).trans rfl
theorem k_X11_addTube_40 : lk 40 C_X11_addTube = some (.iadd, (0, 0, 0, 0)) := by decide +kernel
theorem s_X11_addTube_40 {ca : Nat → List Value → tM → tO} {M : tM} {L : tL} {x y : Int32} {S : List Value} : rn ca C_X11_addTube 40 L (.int y :: .int x :: S) M = rn ca C_X11_addTube 41 L (.int (x + y) :: S) M := (rn_at k_X11_addTube_40).trans rfl
theorem k_X11_addTube_41 : lk 41 C_X11_addTube = some (.iload_n 3, (0, 0, 0, 0)) := by decide +kernel
theorem s_X11_addTube_41 {ca : Nat → List Value → tM → tO} {M : tM} {a0 a1 a2 a4 a5 : Option Value} {x : Int32} {S : List Value} : rn ca C_X11_addTube 41 [a0, a1, a2, some (.int x), a4, a5] S M = rn ca C_X11_addTube 42 [a0, a1, a2, some (.int x), a4, a5] (.int x :: S) M := (rn_at k_X11_addTube_41).trans rfl
theorem k_X11_addTube_42 : lk 42 C_X11_addTube = some (.iastore, (0, 0, 0, 0)) := by decide +kernel
theorem s_X11_addTube_42 {ca : Nat → List Value → tM → tO} {M : tM} {L : tL} {a : Nat} {i x : Int32} {S : List Value} : rn ca C_X11_addTube 42 L (.int x :: .int i :: .ref a :: S) M = if akind a = 0 ∧ inb i (alen M a) then rn ca C_X11_addTube 43 L S (sI M a i.toInt.toNat x) else none := (rn_at k_X11_addTube_42).trans rnx_ite
theorem k_X11_addTube_43 : lk 43 C_X11_addTube = some (.aload_n 0, (0, 0, 0, 0)) := by decide +kernel
theorem s_X11_addTube_43 {ca : Nat → List Value → tM → tO} {M : tM} {a1 a2 a3 a4 a5 : Option Value} {x : Nat} {S : List Value} : rn ca C_X11_addTube 43 [some (.ref x), a1, a2, a3, a4, a5] S M = rn ca C_X11_addTube 44 [some (.ref x), a1, a2, a3, a4, a5] (.ref x :: S) M := (rn_at k_X11_addTube_43).trans rfl
theorem k_X11_addTube_44 : lk 44 C_X11_addTube = some (.getfield 17, (11, 1, 0, 147)) := by decide +kernel
theorem s_X11_addTube_44 {ca : Nat → List Value → tM → tO} {M : tM} {L : tL} {b : Nat} {S : List Value} : rn ca C_X11_addTube 44 L (.ref b :: S) M = if clsO b = some 11 then rn ca C_X11_addTube 47 L (fv M b 1 :: S) M else none := (rn_at k_X11_addTube_44).trans rnx_ite
theorem k_X11_addTube_47 : lk 47 C_X11_addTube = some (.iconst 5, (0, 0, 0, 0)) := by decide +kernel
theorem s_X11_addTube_47 {ca : Nat → List Value → tM → tO} {M : tM} {L : tL} {S : List Value} : rn ca C_X11_addTube 47 L S M = rn ca C_X11_addTube 48 L (.int (iI 5) :: S) M := (rn_at k_X11_addTube_47).trans rfl
theorem k_X11_addTube_48 : lk 48 C_X11_addTube = some (.iload 5, (0, 0, 0, 0)) := by decide +kernel
theorem s_X11_addTube_48 {ca : Nat → List Value → tM → tO} {M : tM} {a0 a1 a2 a3 a4 : Option Value} {x : Int32} {S : List Value} : rn ca C_X11_addTube 48 [a0, a1, a2, a3, a4, some (.int x)] S M = rn ca C_X11_addTube 50 [a0, a1, a2, a3, a4, some (.int x)] (.int x :: S) M := (rn_at k_X11_addTube_48).trans rfl
theorem k_X11_addTube_50 : lk 50 C_X11_addTube = some (.imul, (0, 0, 0, 0)) := by decide +kernel
theorem s_X11_addTube_50 {ca : Nat → List Value → tM → tO} {M : tM} {L : tL} {x y : Int32} {S : List Value} : rn ca C_X11_addTube 50 L (.int y :: .int x :: S) M = rn ca C_X11_addTube 51 L (.int (x * y) :: S) M := (rn_at k_X11_addTube_50).trans rfl
theorem k_X11_addTube_51 : lk 51 C_X11_addTube = some (.iconst 3, (0, 0, 0, 0)) := by decide +kernel
theorem s_X11_addTube_51 {ca : Nat → List Value → tM → tO} {M : tM} {L : tL} {S : List Value} : rn ca C_X11_addTube 51 L S M = rn ca C_X11_addTube 52 L (.int (iI 3) :: S) M := (rn_at k_X11_addTube_51).trans rfl
theorem k_X11_addTube_52 : lk 52 C_X11_addTube = some (.iadd, (0, 0, 0, 0)) := by decide +kernel
theorem s_X11_addTube_52 {ca : Nat → List Value → tM → tO} {M : tM} {L : tL} {x y : Int32} {S : List Value} : rn ca C_X11_addTube 52 L (.int y :: .int x :: S) M = rn ca C_X11_addTube 53 L (.int (x + y) :: S) M := (rn_at k_X11_addTube_52).trans rfl
theorem k_X11_addTube_53 : lk 53 C_X11_addTube = some (.iload 4, (0, 0, 0, 0)) := by decide +kernel
theorem s_X11_addTube_53 {ca : Nat → List Value → tM → tO} {M : tM} {a0 a1 a2 a3 a5 : Option Value} {x : Int32} {S : List Value} : rn ca C_X11_addTube 53 [a0, a1, a2, a3, some (.int x), a5] S M = rn ca C_X11_addTube 55 [a0, a1, a2, a3, some (.int x), a5] (.int x :: S) M := (rn_at k_X11_addTube_53).trans rfl
theorem k_X11_addTube_55 : lk 55 C_X11_addTube = some (.iastore, (0, 0, 0, 0)) := by decide +kernel
theorem s_X11_addTube_55 {ca : Nat → List Value → tM → tO} {M : tM} {L : tL} {a : Nat} {i x : Int32} {S : List Value} : rn ca C_X11_addTube 55 L (.int x :: .int i :: .ref a :: S) M = if akind a = 0 ∧ inb i (alen M a) then rn ca C_X11_addTube 56 L S (sI M a i.toInt.toNat x) else none := (rn_at k_X11_addTube_55).trans rnx_ite
theorem k_X11_addTube_56 : lk 56 C_X11_addTube = some (.aload_n 0, (0, 0, 0, 0)) := by decide +kernel
theorem s_X11_addTube_56 {ca : Nat → List Value → tM → tO} {M : tM} {a1 a2 a3 a4 a5 : Option Value} {x : Nat} {S : List Value} : rn ca C_X11_addTube 56 [some (.ref x), a1, a2, a3, a4, a5] S M = rn ca C_X11_addTube 57 [some (.ref x), a1, a2, a3, a4, a5] (.ref x :: S) M := (rn_at k_X11_addTube_56).trans rfl
theorem k_X11_addTube_57 : lk 57 C_X11_addTube = some (.getfield 17, (11, 1, 0, 147)) := by decide +kernel
theorem s_X11_addTube_57 {ca : Nat → List Value → tM → tO} {M : tM} {L : tL} {b : Nat} {S : List Value} : rn ca C_X11_addTube 57 L (.ref b :: S) M = if clsO b = some 11 then rn ca C_X11_addTube 60 L (fv M b 1 :: S) M else none := (rn_at k_X11_addTube_57).trans rnx_ite
theorem k_X11_addTube_60 : lk 60 C_X11_addTube = some (.iconst 5, (0, 0, 0, 0)) := by decide +kernel
theorem s_X11_addTube_60 {ca : Nat → List Value → tM → tO} {M : tM} {L : tL} {S : List Value} : rn ca C_X11_addTube 60 L S M = rn ca C_X11_addTube 61 L (.int (iI 5) :: S) M := (rn_at k_X11_addTube_60).trans rfl
theorem k_X11_addTube_61 : lk 61 C_X11_addTube = some (.iload 5, (0, 0, 0, 0)) := by decide +kernel
theorem s_X11_addTube_61 {ca : Nat → List Value → tM → tO} {M : tM} {a0 a1 a2 a3 a4 : Option Value} {x : Int32} {S : List Value} : rn ca C_X11_addTube 61 [a0, a1, a2, a3, a4, some (.int x)] S M = rn ca C_X11_addTube 63 [a0, a1, a2, a3, a4, some (.int x)] (.int x :: S) M := (rn_at k_X11_addTube_61).trans rfl
theorem k_X11_addTube_63 : lk 63 C_X11_addTube = some (.imul, (0, 0, 0, 0)) := by decide +kernel
theorem s_X11_addTube_63 {ca : Nat → List Value → tM → tO} {M : tM} {L : tL} {x y : Int32} {S : List Value} : rn ca C_X11_addTube 63 L (.int y :: .int x :: S) M = rn ca C_X11_addTube 64 L (.int (x * y) :: S) M := (rn_at k_X11_addTube_63).trans rfl
theorem k_X11_addTube_64 : lk 64 C_X11_addTube = some (.iconst 4, (0, 0, 0, 0)) := by decide +kernel
theorem s_X11_addTube_64 {ca : Nat → List Value → tM → tO} {M : tM} {L : tL} {S : List Value} : rn ca C_X11_addTube 64 L S M = rn ca C_X11_addTube 65 L (.int (iI 4) :: S) M := (rn_at k_X11_addTube_64).trans rfl
theorem k_X11_addTube_65 : lk 65 C_X11_addTube = some (.iadd, (0, 0, 0, 0)) := by decide +kernel
theorem s_X11_addTube_65 {ca : Nat → List Value → tM → tO} {M : tM} {L : tL} {x y : Int32} {S : List Value} : rn ca C_X11_addTube 65 L (.int y :: .int x :: S) M = rn ca C_X11_addTube 66 L (.int (x + y) :: S) M := (rn_at k_X11_addTube_65).trans rfl
theorem k_X11_addTube_66 : lk 66 C_X11_addTube = some (.iconst 0, (0, 0, 0, 0)) := by decide +kernel
theorem s_X11_addTube_66 {ca : Nat → List Value → tM → tO} {M : tM} {L : tL} {S : List Value} : rn ca C_X11_addTube 66 L S M = rn ca C_X11_addTube 67 L (.int (iI 0) :: S) M := (rn_at k_X11_addTube_66).trans rfl
theorem k_X11_addTube_67 : lk 67 C_X11_addTube = some (.iastore, (0, 0, 0, 0)) := by decide +kernel
theorem s_X11_addTube_67 {ca : Nat → List Value → tM → tO} {M : tM} {L : tL} {a : Nat} {i x : Int32} {S : List Value} : rn ca C_X11_addTube 67 L (.int x :: .int i :: .ref a :: S) M = if akind a = 0 ∧ inb i (alen M a) then rn ca C_X11_addTube 68 L S (sI M a i.toInt.toNat x) else none := (rn_at k_X11_addTube_67).trans rnx_ite
theorem k_X11_addTube_68 : lk 68 C_X11_addTube = some (.aload_n 0, (0, 0, 0, 0)) := by decide +kernel
theorem s_X11_addTube_68 {ca : Nat → List Value → tM → tO} {M : tM} {a1 a2 a3 a4 a5 : Option Value} {x : Nat} {S : List Value} : rn ca C_X11_addTube 68 [some (.ref x), a1, a2, a3, a4, a5] S M = rn ca C_X11_addTube 69 [some (.ref x), a1, a2, a3, a4, a5] (.ref x :: S) M := (rn_at k_X11_addTube_68).trans rfl
theorem k_X11_addTube_69 : lk 69 C_X11_addTube = some (.getfield 17, (11, 1, 0, 147)) := by decide +kernel
theorem s_X11_addTube_69 {ca : Nat → List Value → tM → tO} {M : tM} {L : tL} {b : Nat} {S : List Value} : rn ca C_X11_addTube 69 L (.ref b :: S) M = if clsO b = some 11 then rn ca C_X11_addTube 72 L (fv M b 1 :: S) M else none := (rn_at k_X11_addTube_69).trans rnx_ite
theorem k_X11_addTube_72 : lk 72 C_X11_addTube = some (.bipush 109, (0, 0, 0, 0)) := by decide +kernel
theorem s_X11_addTube_72 {ca : Nat → List Value → tM → tO} {M : tM} {L : tL} {S : List Value} : rn ca C_X11_addTube 72 L S M = rn ca C_X11_addTube 74 L (.int (iI 109) :: S) M := (rn_at k_X11_addTube_72).trans rfl
theorem k_X11_addTube_74 : lk 74 C_X11_addTube = some (.dup2, (0, 0, 0, 0)) := by decide +kernel
theorem s_X11_addTube_74 {ca : Nat → List Value → tM → tO} {M : tM} {L : tL} {x : Nat} {y : Int32} {S : List Value} : rn ca C_X11_addTube 74 L (.int y :: .ref x :: S) M = rn ca C_X11_addTube 75 L (.int y :: .ref x :: .int y :: .ref x :: S) M := (rn_at k_X11_addTube_74).trans rfl
theorem k_X11_addTube_75 : lk 75 C_X11_addTube = some (.iaload, (0, 0, 0, 0)) := by decide +kernel
theorem s_X11_addTube_75 {ca : Nat → List Value → tM → tO} {M : tM} {L : tL} {a : Nat} {i : Int32} {S : List Value} : rn ca C_X11_addTube 75 L (.int i :: .ref a :: S) M = if (akind a = 0 ∨ akind a = 6 ∨ akind a = 7) ∧ inb i (alen M a) then rn ca C_X11_addTube 76 L (.int (M.1 a i.toInt.toNat) :: S) M else none := (rn_at k_X11_addTube_75).trans rnx_ite
theorem k_X11_addTube_76 : lk 76 C_X11_addTube = some (.iconst 1, (0, 0, 0, 0)) := by decide +kernel
theorem s_X11_addTube_76 {ca : Nat → List Value → tM → tO} {M : tM} {L : tL} {S : List Value} : rn ca C_X11_addTube 76 L S M = rn ca C_X11_addTube 77 L (.int (iI 1) :: S) M := (rn_at k_X11_addTube_76).trans rfl
theorem k_X11_addTube_77 : lk 77 C_X11_addTube = some (.iadd, (0, 0, 0, 0)) := by decide +kernel
theorem s_X11_addTube_77 {ca : Nat → List Value → tM → tO} {M : tM} {L : tL} {x y : Int32} {S : List Value} : rn ca C_X11_addTube 77 L (.int y :: .int x :: S) M = rn ca C_X11_addTube 78 L (.int (x + y) :: S) M := (rn_at k_X11_addTube_77).trans rfl
theorem k_X11_addTube_78 : lk 78 C_X11_addTube = some (.iastore, (0, 0, 0, 0)) := by decide +kernel
theorem s_X11_addTube_78 {ca : Nat → List Value → tM → tO} {M : tM} {L : tL} {a : Nat} {i x : Int32} {S : List Value} : rn ca C_X11_addTube 78 L (.int x :: .int i :: .ref a :: S) M = if akind a = 0 ∧ inb i (alen M a) then rn ca C_X11_addTube 79 L S (sI M a i.toInt.toNat x) else none := (rn_at k_X11_addTube_78).trans rnx_ite
theorem k_X11_addTube_79 : lk 79 C_X11_addTube = some (.iload 5, (0, 0, 0, 0)) := by decide +kernel
theorem s_X11_addTube_79 {ca : Nat → List Value → tM → tO} {M : tM} {a0 a1 a2 a3 a4 : Option Value} {x : Int32} {S : List Value} : rn ca C_X11_addTube 79 [a0, a1, a2, a3, a4, some (.int x)] S M = rn ca C_X11_addTube 81 [a0, a1, a2, a3, a4, some (.int x)] (.int x :: S) M := (rn_at k_X11_addTube_79).trans rfl
theorem k_X11_addTube_81 : lk 81 C_X11_addTube = some (.ireturn, (0, 0, 0, 0)) := by decide +kernel
theorem s_X11_addTube_81 {ca : Nat → List Value → tM → tO} {M : tM} {L : tL} {x : Int32} : rn ca C_X11_addTube 81 L [.int x] M = some (some (.int x), M) := (rn_at k_X11_addTube_81).trans rfl
theorem k_X11_addCapsule_0 : lk 0 C_X11_addCapsule = some (.aload_n 0, (0, 0, 0, 0)) := by decide +kernel
theorem s_X11_addCapsule_0 {ca : Nat → List Value → tM → tO} {M : tM} {a1 a2 a3 a4 a5 : Option Value} {x : Nat} {S : List Value} : rn ca C_X11_addCapsule 0 [some (.ref x), a1, a2, a3, a4, a5] S M = rn ca C_X11_addCapsule 1 [some (.ref x), a1, a2, a3, a4, a5] (.ref x :: S) M := (rn_at k_X11_addCapsule_0).trans rfl
theorem k_X11_addCapsule_1 : lk 1 C_X11_addCapsule = some (.getfield 17, (11, 1, 0, 147)) := by decide +kernel
theorem s_X11_addCapsule_1 {ca : Nat → List Value → tM → tO} {M : tM} {L : tL} {b : Nat} {S : List Value} : rn ca C_X11_addCapsule 1 L (.ref b :: S) M = if clsO b = some 11 then rn ca C_X11_addCapsule 4 L (fv M b 1 :: S) M else none := (rn_at k_X11_addCapsule_1).trans rnx_ite
theorem k_X11_addCapsule_4 : lk 4 C_X11_addCapsule = some (.bipush 110, (0, 0, 0, 0)) := by decide +kernel
theorem s_X11_addCapsule_4 {ca : Nat → List Value → tM → tO} {M : tM} {L : tL} {S : List Value} : rn ca C_X11_addCapsule 4 L S M = rn ca C_X11_addCapsule 6 L (.int (iI 110) :: S) M := (rn_at k_X11_addCapsule_4).trans rfl
theorem k_X11_addCapsule_6 : lk 6 C_X11_addCapsule = some (.iaload, (0, 0, 0, 0)) := by decide +kernel
theorem s_X11_addCapsule_6 {ca : Nat → List Value → tM → tO} {M : tM} {L : tL} {a : Nat} {i : Int32} {S : List Value} : rn ca C_X11_addCapsule 6 L (.int i :: .ref a :: S) M = if (akind a = 0 ∨ akind a = 6 ∨ akind a = 7) ∧ inb i (alen M a) then rn ca C_X11_addCapsule 7 L (.int (M.1 a i.toInt.toNat) :: S) M else none := (rn_at k_X11_addCapsule_6).trans rnx_ite
theorem k_X11_addCapsule_7 : lk 7 C_X11_addCapsule = some (.istore 5, (0, 0, 0, 0)) := by decide +kernel
theorem s_X11_addCapsule_7 {ca : Nat → List Value → tM → tO} {M : tM} {a0 a1 a2 a3 a4 a5 : Option Value} {x : Int32} {S : List Value} : rn ca C_X11_addCapsule 7 [a0, a1, a2, a3, a4, a5] (.int x :: S) M = rn ca C_X11_addCapsule 9 [a0, a1, a2, a3, a4, some (.int x)] S M := (rn_at k_X11_addCapsule_7).trans rfl
theorem k_X11_addCapsule_9 : lk 9 C_X11_addCapsule = some (.aload_n 0, (0, 0, 0, 0)) := by decide +kernel
theorem s_X11_addCapsule_9 {ca : Nat → List Value → tM → tO} {M : tM} {a1 a2 a3 a4 a5 : Option Value} {x : Nat} {S : List Value} : rn ca C_X11_addCapsule 9 [some (.ref x), a1, a2, a3, a4, a5] S M = rn ca C_X11_addCapsule 10 [some (.ref x), a1, a2, a3, a4, a5] (.ref x :: S) M := (rn_at k_X11_addCapsule_9).trans rfl
theorem k_X11_addCapsule_10 : lk 10 C_X11_addCapsule = some (.getfield 17, (11, 1, 0, 147)) := by decide +kernel
theorem s_X11_addCapsule_10 {ca : Nat → List Value → tM → tO} {M : tM} {L : tL} {b : Nat} {S : List Value} : rn ca C_X11_addCapsule 10 L (.ref b :: S) M = if clsO b = some 11 then rn ca C_X11_addCapsule 13 L (fv M b 1 :: S) M else none := (rn_at k_X11_addCapsule_10).trans rnx_ite
theorem k_X11_addCapsule_13 : lk 13 C_X11_addCapsule = some (.bipush 88, (0, 0, 0, 0)) := by decide +kernel
theorem s_X11_addCapsule_13 {ca : Nat → List Value → tM → tO} {M : tM} {L : tL} {S : List Value} : rn ca C_X11_addCapsule 13 L S M = rn ca C_X11_addCapsule 15 L (.int (iI 88) :: S) M := (rn_at k_X11_addCapsule_13).trans rfl
theorem k_X11_addCapsule_15 : lk 15 C_X11_addCapsule = some (.iconst 4, (0, 0, 0, 0)) := by decide +kernel
theorem s_X11_addCapsule_15 {ca : Nat → List Value → tM → tO} {M : tM} {L : tL} {S : List Value} : rn ca C_X11_addCapsule 15 L S M = rn ca C_X11_addCapsule 16 L (.int (iI 4) :: S) M := (rn_at k_X11_addCapsule_15).trans rfl
theorem k_X11_addCapsule_16 : lk 16 C_X11_addCapsule = some (.iload 5, (0, 0, 0, 0)) := by decide +kernel
theorem s_X11_addCapsule_16 {ca : Nat → List Value → tM → tO} {M : tM} {a0 a1 a2 a3 a4 : Option Value} {x : Int32} {S : List Value} : rn ca C_X11_addCapsule 16 [a0, a1, a2, a3, a4, some (.int x)] S M = rn ca C_X11_addCapsule 18 [a0, a1, a2, a3, a4, some (.int x)] (.int x :: S) M := (rn_at k_X11_addCapsule_16).trans rfl
theorem k_X11_addCapsule_18 : lk 18 C_X11_addCapsule = some (.imul, (0, 0, 0, 0)) := by decide +kernel
theorem s_X11_addCapsule_18 {ca : Nat → List Value → tM → tO} {M : tM} {L : tL} {x y : Int32} {S : List Value} : rn ca C_X11_addCapsule 18 L (.int y :: .int x :: S) M = rn ca C_X11_addCapsule 19 L (.int (x * y) :: S) M := (rn_at k_X11_addCapsule_18).trans rfl
theorem k_X11_addCapsule_19 : lk 19 C_X11_addCapsule = some (.iadd, (0, 0, 0, 0)) := by decide +kernel
theorem s_X11_addCapsule_19 {ca : Nat → List Value → tM → tO} {M : tM} {L : tL} {x y : Int32} {S : List Value} : rn ca C_X11_addCapsule 19 L (.int y :: .int x :: S) M = rn ca C_X11_addCapsule 20 L (.int (x + y) :: S) M := (rn_at k_X11_addCapsule_19).trans rfl
theorem k_X11_addCapsule_20 : lk 20 C_X11_addCapsule = some (.iload_n 1, (0, 0, 0, 0)) := by decide +kernel
theorem s_X11_addCapsule_20 {ca : Nat → List Value → tM → tO} {M : tM} {a0 a2 a3 a4 a5 : Option Value} {x : Int32} {S : List Value} : rn ca C_X11_addCapsule 20 [a0, some (.int x), a2, a3, a4, a5] S M = rn ca C_X11_addCapsule 21 [a0, some (.int x), a2, a3, a4, a5] (.int x :: S) M := (rn_at k_X11_addCapsule_20).trans rfl
theorem k_X11_addCapsule_21 : lk 21 C_X11_addCapsule = some (.iastore, (0, 0, 0, 0)) := by decide +kernel
theorem s_X11_addCapsule_21 {ca : Nat → List Value → tM → tO} {M : tM} {L : tL} {a : Nat} {i x : Int32} {S : List Value} : rn ca C_X11_addCapsule 21 L (.int x :: .int i :: .ref a :: S) M = if akind a = 0 ∧ inb i (alen M a) then rn ca C_X11_addCapsule 22 L S (sI M a i.toInt.toNat x) else none := (rn_at k_X11_addCapsule_21).trans rnx_ite
theorem k_X11_addCapsule_22 : lk 22 C_X11_addCapsule = some (.aload_n 0, (0, 0, 0, 0)) := by decide +kernel
theorem s_X11_addCapsule_22 {ca : Nat → List Value → tM → tO} {M : tM} {a1 a2 a3 a4 a5 : Option Value} {x : Nat} {S : List Value} : rn ca C_X11_addCapsule 22 [some (.ref x), a1, a2, a3, a4, a5] S M = rn ca C_X11_addCapsule 23 [some (.ref x), a1, a2, a3, a4, a5] (.ref x :: S) M := (rn_at k_X11_addCapsule_22).trans rfl
theorem k_X11_addCapsule_23 : lk 23 C_X11_addCapsule = some (.getfield 17, (11, 1, 0, 147)) := by decide +kernel
theorem s_X11_addCapsule_23 {ca : Nat → List Value → tM → tO} {M : tM} {L : tL} {b : Nat} {S : List Value} : rn ca C_X11_addCapsule 23 L (.ref b :: S) M = if clsO b = some 11 then rn ca C_X11_addCapsule 26 L (fv M b 1 :: S) M else none := (rn_at k_X11_addCapsule_23).trans rnx_ite
theorem k_X11_addCapsule_26 : lk 26 C_X11_addCapsule = some (.bipush 88, (0, 0, 0, 0)) := by decide +kernel
theorem s_X11_addCapsule_26 {ca : Nat → List Value → tM → tO} {M : tM} {L : tL} {S : List Value} : rn ca C_X11_addCapsule 26 L S M = rn ca C_X11_addCapsule 28 L (.int (iI 88) :: S) M := (rn_at k_X11_addCapsule_26).trans rfl
theorem k_X11_addCapsule_28 : lk 28 C_X11_addCapsule = some (.iconst 4, (0, 0, 0, 0)) := by decide +kernel
theorem s_X11_addCapsule_28 {ca : Nat → List Value → tM → tO} {M : tM} {L : tL} {S : List Value} : rn ca C_X11_addCapsule 28 L S M = rn ca C_X11_addCapsule 29 L (.int (iI 4) :: S) M := (rn_at k_X11_addCapsule_28).trans rfl
theorem k_X11_addCapsule_29 : lk 29 C_X11_addCapsule = some (.iload 5, (0, 0, 0, 0)) := by decide +kernel
theorem s_X11_addCapsule_29 {ca : Nat → List Value → tM → tO} {M : tM} {a0 a1 a2 a3 a4 : Option Value} {x : Int32} {S : List Value} : rn ca C_X11_addCapsule 29 [a0, a1, a2, a3, a4, some (.int x)] S M = rn ca C_X11_addCapsule 31 [a0, a1, a2, a3, a4, some (.int x)] (.int x :: S) M := (rn_at k_X11_addCapsule_29).trans rfl
theorem k_X11_addCapsule_31 : lk 31 C_X11_addCapsule = some (.imul, (0, 0, 0, 0)) := by decide +kernel
theorem s_X11_addCapsule_31 {ca : Nat → List Value → tM → tO} {M : tM} {L : tL} {x y : Int32} {S : List Value} : rn ca C_X11_addCapsule 31 L (.int y :: .int x :: S) M = rn ca C_X11_addCapsule 32 L (.int (x * y) :: S) M := (rn_at k_X11_addCapsule_31).trans rfl
theorem k_X11_addCapsule_32 : lk 32 C_X11_addCapsule = some (.iadd, (0, 0, 0, 0)) := by decide +kernel
theorem s_X11_addCapsule_32 {ca : Nat → List Value → tM → tO} {M : tM} {L : tL} {x y : Int32} {S : List Value} : rn ca C_X11_addCapsule 32 L (.int y :: .int x :: S) M = rn ca C_X11_addCapsule 33 L (.int (x + y) :: S) M := (rn_at k_X11_addCapsule_32).trans rfl
theorem k_X11_addCapsule_33 : lk 33 C_X11_addCapsule = some (.iconst 1, (0, 0, 0, 0)) := by decide +kernel
theorem s_X11_addCapsule_33 {ca : Nat → List Value → tM → tO} {M : tM} {L : tL} {S : List Value} : rn ca C_X11_addCapsule 33 L S M = rn ca C_X11_addCapsule 34 L (.int (iI 1) :: S) M := (rn_at k_X11_addCapsule_33).trans rfl
theorem k_X11_addCapsule_34 : lk 34 C_X11_addCapsule = some (.iadd, (0, 0, 0, 0)) := by decide +kernel
theorem s_X11_addCapsule_34 {ca : Nat → List Value → tM → tO} {M : tM} {L : tL} {x y : Int32} {S : List Value} : rn ca C_X11_addCapsule 34 L (.int y :: .int x :: S) M = rn ca C_X11_addCapsule 35 L (.int (x + y) :: S) M := (rn_at k_X11_addCapsule_34).trans rfl
theorem k_X11_addCapsule_35 : lk 35 C_X11_addCapsule = some (.iload_n 2, (0, 0, 0, 0)) := by decide +kernel
theorem s_X11_addCapsule_35 {ca : Nat → List Value → tM → tO} {M : tM} {a0 a1 a3 a4 a5 : Option Value} {x : Int32} {S : List Value} : rn ca C_X11_addCapsule 35 [a0, a1, some (.int x), a3, a4, a5] S M = rn ca C_X11_addCapsule 36 [a0, a1, some (.int x), a3, a4, a5] (.int x :: S) M := (rn_at k_X11_addCapsule_35).trans rfl
theorem k_X11_addCapsule_36 : lk 36 C_X11_addCapsule = some (.iastore, (0, 0, 0, 0)) := by decide +kernel
theorem s_X11_addCapsule_36 {ca : Nat → List Value → tM → tO} {M : tM} {L : tL} {a : Nat} {i x : Int32} {S : List Value} : rn ca C_X11_addCapsule 36 L (.int x :: .int i :: .ref a :: S) M = if akind a = 0 ∧ inb i (alen M a) then rn ca C_X11_addCapsule 37 L S (sI M a i.toInt.toNat x) else none := (rn_at k_X11_addCapsule_36).trans rnx_ite
theorem k_X11_addCapsule_37 : lk 37 C_X11_addCapsule = some (.aload_n 0, (0, 0, 0, 0)) := by decide +kernel
theorem s_X11_addCapsule_37 {ca : Nat → List Value → tM → tO} {M : tM} {a1 a2 a3 a4 a5 : Option Value} {x : Nat} {S : List Value} : rn ca C_X11_addCapsule 37 [some (.ref x), a1, a2, a3, a4, a5] S M = rn ca C_X11_addCapsule 38 [some (.ref x), a1, a2, a3, a4, a5] (.ref x :: S) M := (rn_at k_X11_addCapsule_37).trans rfl
theorem k_X11_addCapsule_38 : lk 38 C_X11_addCapsule = some (.getfield 17, (11, 1, 0, 147)) := by decide +kernel
theorem s_X11_addCapsule_38 {ca : Nat → List Value → tM → tO} {M : tM} {L : tL} {b : Nat} {S : List Value} : rn ca C_X11_addCapsule 38 L (.ref b :: S) M = if clsO b = some 11 then rn ca C_X11_addCapsule 41 L (fv M b 1 :: S) M else none := (rn_at k_X11_addCapsule_38).trans rnx_ite
theorem k_X11_addCapsule_41 : lk 41 C_X11_addCapsule = some (.bipush 88, (0, 0, 0, 0)) := by decide +kernel
theorem s_X11_addCapsule_41 {ca : Nat → List Value → tM → tO} {M : tM} {L : tL} {S : List Value} : rn ca C_X11_addCapsule 41 L S M = rn ca C_X11_addCapsule 43 L (.int (iI 88) :: S) M := (rn_at k_X11_addCapsule_41).trans rfl
theorem k_X11_addCapsule_43 : lk 43 C_X11_addCapsule = some (.iconst 4, (0, 0, 0, 0)) := by decide +kernel
theorem s_X11_addCapsule_43 {ca : Nat → List Value → tM → tO} {M : tM} {L : tL} {S : List Value} : rn ca C_X11_addCapsule 43 L S M = rn ca C_X11_addCapsule 44 L (.int (iI 4) :: S) M := (rn_at k_X11_addCapsule_43).trans rfl
theorem k_X11_addCapsule_44 : lk 44 C_X11_addCapsule = some (.iload 5, (0, 0, 0, 0)) := by decide +kernel
theorem s_X11_addCapsule_44 {ca : Nat → List Value → tM → tO} {M : tM} {a0 a1 a2 a3 a4 : Option Value} {x : Int32} {S : List Value} : rn ca C_X11_addCapsule 44 [a0, a1, a2, a3, a4, some (.int x)] S M = rn ca C_X11_addCapsule 46 [a0, a1, a2, a3, a4, some (.int x)] (.int x :: S) M := (rn_at k_X11_addCapsule_44).trans rfl
theorem k_X11_addCapsule_46 : lk 46 C_X11_addCapsule = some (.imul, (0, 0, 0, 0)) := by decide +kernel
theorem s_X11_addCapsule_46 {ca : Nat → List Value → tM → tO} {M : tM} {L : tL} {x y : Int32} {S : List Value} : rn ca C_X11_addCapsule 46 L (.int y :: .int x :: S) M = rn ca C_X11_addCapsule 47 L (.int (x * y) :: S) M := (rn_at k_X11_addCapsule_46).trans rfl
theorem k_X11_addCapsule_47 : lk 47 C_X11_addCapsule = some (.iadd, (0, 0, 0, 0)) := by decide +kernel
theorem s_X11_addCapsule_47 {ca : Nat → List Value → tM → tO} {M : tM} {L : tL} {x y : Int32} {S : List Value} : rn ca C_X11_addCapsule 47 L (.int y :: .int x :: S) M = rn ca C_X11_addCapsule 48 L (.int (x + y) :: S) M := (rn_at k_X11_addCapsule_47).trans rfl
theorem k_X11_addCapsule_48 : lk 48 C_X11_addCapsule = some (.iconst 2, (0, 0, 0, 0)) := by decide +kernel
theorem s_X11_addCapsule_48 {ca : Nat → List Value → tM → tO} {M : tM} {L : tL} {S : List Value} : rn ca C_X11_addCapsule 48 L S M = rn ca C_X11_addCapsule 49 L (.int (iI 2) :: S) M := (rn_at k_X11_addCapsule_48).trans rfl
theorem k_X11_addCapsule_49 : lk 49 C_X11_addCapsule = some (.iadd, (0, 0, 0, 0)) := by decide +kernel
theorem s_X11_addCapsule_49 {ca : Nat → List Value → tM → tO} {M : tM} {L : tL} {x y : Int32} {S : List Value} : rn ca C_X11_addCapsule 49 L (.int y :: .int x :: S) M = rn ca C_X11_addCapsule 50 L (.int (x + y) :: S) M := (rn_at k_X11_addCapsule_49).trans rfl
theorem k_X11_addCapsule_50 : lk 50 C_X11_addCapsule = some (.iload_n 3, (0, 0, 0, 0)) := by decide +kernel
theorem s_X11_addCapsule_50 {ca : Nat → List Value → tM → tO} {M : tM} {a0 a1 a2 a4 a5 : Option Value} {x : Int32} {S : List Value} : rn ca C_X11_addCapsule 50 [a0, a1, a2, some (.int x), a4, a5] S M = rn ca C_X11_addCapsule 51 [a0, a1, a2, some (.int x), a4, a5] (.int x :: S) M := (rn_at k_X11_addCapsule_50).trans rfl
theorem k_X11_addCapsule_51 : lk 51 C_X11_addCapsule = some (.iastore, (0, 0, 0, 0)) := by decide +kernel
theorem s_X11_addCapsule_51 {ca : Nat → List Value → tM → tO} {M : tM} {L : tL} {a : Nat} {i x : Int32} {S : List Value} : rn ca C_X11_addCapsule 51 L (.int x :: .int i :: .ref a :: S) M = if akind a = 0 ∧ inb i (alen M a) then rn ca C_X11_addCapsule 52 L S (sI M a i.toInt.toNat x) else none := (rn_at k_X11_addCapsule_51).trans rnx_ite
theorem k_X11_addCapsule_52 : lk 52 C_X11_addCapsule = some (.aload_n 0, (0, 0, 0, 0)) := by decide +kernel
theorem s_X11_addCapsule_52 {ca : Nat → List Value → tM → tO} {M : tM} {a1 a2 a3 a4 a5 : Option Value} {x : Nat} {S : List Value} : rn ca C_X11_addCapsule 52 [some (.ref x), a1, a2, a3, a4, a5] S M = rn ca C_X11_addCapsule 53 [some (.ref x), a1, a2, a3, a4, a5] (.ref x :: S) M := (rn_at k_X11_addCapsule_52).trans rfl
theorem k_X11_addCapsule_53 : lk 53 C_X11_addCapsule = some (.getfield 17, (11, 1, 0, 147)) := by decide +kernel
theorem s_X11_addCapsule_53 {ca : Nat → List Value → tM → tO} {M : tM} {L : tL} {b : Nat} {S : List Value} : rn ca C_X11_addCapsule 53 L (.ref b :: S) M = if clsO b = some 11 then rn ca C_X11_addCapsule 56 L (fv M b 1 :: S) M else none := (rn_at k_X11_addCapsule_53).trans rnx_ite
theorem k_X11_addCapsule_56 : lk 56 C_X11_addCapsule = some (.bipush 88, (0, 0, 0, 0)) := by decide +kernel
theorem s_X11_addCapsule_56 {ca : Nat → List Value → tM → tO} {M : tM} {L : tL} {S : List Value} : rn ca C_X11_addCapsule 56 L S M = rn ca C_X11_addCapsule 58 L (.int (iI 88) :: S) M := (rn_at k_X11_addCapsule_56).trans rfl
theorem k_X11_addCapsule_58 : lk 58 C_X11_addCapsule = some (.iconst 4, (0, 0, 0, 0)) := by decide +kernel
theorem s_X11_addCapsule_58 {ca : Nat → List Value → tM → tO} {M : tM} {L : tL} {S : List Value} : rn ca C_X11_addCapsule 58 L S M = rn ca C_X11_addCapsule 59 L (.int (iI 4) :: S) M := (rn_at k_X11_addCapsule_58).trans rfl
theorem k_X11_addCapsule_59 : lk 59 C_X11_addCapsule = some (.iload 5, (0, 0, 0, 0)) := by decide +kernel
theorem s_X11_addCapsule_59 {ca : Nat → List Value → tM → tO} {M : tM} {a0 a1 a2 a3 a4 : Option Value} {x : Int32} {S : List Value} : rn ca C_X11_addCapsule 59 [a0, a1, a2, a3, a4, some (.int x)] S M = rn ca C_X11_addCapsule 61 [a0, a1, a2, a3, a4, some (.int x)] (.int x :: S) M := (rn_at k_X11_addCapsule_59).trans rfl
theorem k_X11_addCapsule_61 : lk 61 C_X11_addCapsule = some (.imul, (0, 0, 0, 0)) := by decide +kernel
theorem s_X11_addCapsule_61 {ca : Nat → List Value → tM → tO} {M : tM} {L : tL} {x y : Int32} {S : List Value} : rn ca C_X11_addCapsule 61 L (.int y :: .int x :: S) M = rn ca C_X11_addCapsule 62 L (.int (x * y) :: S) M := (rn_at k_X11_addCapsule_61).trans rfl
theorem k_X11_addCapsule_62 : lk 62 C_X11_addCapsule = some (.iadd, (0, 0, 0, 0)) := by decide +kernel
theorem s_X11_addCapsule_62 {ca : Nat → List Value → tM → tO} {M : tM} {L : tL} {x y : Int32} {S : List Value} : rn ca C_X11_addCapsule 62 L (.int y :: .int x :: S) M = rn ca C_X11_addCapsule 63 L (.int (x + y) :: S) M := (rn_at k_X11_addCapsule_62).trans rfl
theorem k_X11_addCapsule_63 : lk 63 C_X11_addCapsule = some (.iconst 3, (0, 0, 0, 0)) := by decide +kernel
theorem s_X11_addCapsule_63 {ca : Nat → List Value → tM → tO} {M : tM} {L : tL} {S : List Value} : rn ca C_X11_addCapsule 63 L S M = rn ca C_X11_addCapsule 64 L (.int (iI 3) :: S) M := (rn_at k_X11_addCapsule_63).trans rfl
theorem k_X11_addCapsule_64 : lk 64 C_X11_addCapsule = some (.iadd, (0, 0, 0, 0)) := by decide +kernel
theorem s_X11_addCapsule_64 {ca : Nat → List Value → tM → tO} {M : tM} {L : tL} {x y : Int32} {S : List Value} : rn ca C_X11_addCapsule 64 L (.int y :: .int x :: S) M = rn ca C_X11_addCapsule 65 L (.int (x + y) :: S) M := (rn_at k_X11_addCapsule_64).trans rfl
theorem k_X11_addCapsule_65 : lk 65 C_X11_addCapsule = some (.iload 4, (0, 0, 0, 0)) := by decide +kernel
theorem s_X11_addCapsule_65 {ca : Nat → List Value → tM → tO} {M : tM} {a0 a1 a2 a3 a5 : Option Value} {x : Int32} {S : List Value} : rn ca C_X11_addCapsule 65 [a0, a1, a2, a3, some (.int x), a5] S M = rn ca C_X11_addCapsule 67 [a0, a1, a2, a3, some (.int x), a5] (.int x :: S) M := (rn_at k_X11_addCapsule_65).trans rfl
theorem k_X11_addCapsule_67 : lk 67 C_X11_addCapsule = some (.iastore, (0, 0, 0, 0)) := by decide +kernel
theorem s_X11_addCapsule_67 {ca : Nat → List Value → tM → tO} {M : tM} {L : tL} {a : Nat} {i x : Int32} {S : List Value} : rn ca C_X11_addCapsule 67 L (.int x :: .int i :: .ref a :: S) M = if akind a = 0 ∧ inb i (alen M a) then rn ca C_X11_addCapsule 68 L S (sI M a i.toInt.toNat x) else none := (rn_at k_X11_addCapsule_67).trans rnx_ite
theorem k_X11_addCapsule_68 : lk 68 C_X11_addCapsule = some (.aload_n 0, (0, 0, 0, 0)) := by decide +kernel
theorem s_X11_addCapsule_68 {ca : Nat → List Value → tM → tO} {M : tM} {a1 a2 a3 a4 a5 : Option Value} {x : Nat} {S : List Value} : rn ca C_X11_addCapsule 68 [some (.ref x), a1, a2, a3, a4, a5] S M = rn ca C_X11_addCapsule 69 [some (.ref x), a1, a2, a3, a4, a5] (.ref x :: S) M := (rn_at k_X11_addCapsule_68).trans rfl
theorem k_X11_addCapsule_69 : lk 69 C_X11_addCapsule = some (.getfield 17, (11, 1, 0, 147)) := by decide +kernel
theorem s_X11_addCapsule_69 {ca : Nat → List Value → tM → tO} {M : tM} {L : tL} {b : Nat} {S : List Value} : rn ca C_X11_addCapsule 69 L (.ref b :: S) M = if clsO b = some 11 then rn ca C_X11_addCapsule 72 L (fv M b 1 :: S) M else none := (rn_at k_X11_addCapsule_69).trans rnx_ite
theorem k_X11_addCapsule_72 : lk 72 C_X11_addCapsule = some (.bipush 110, (0, 0, 0, 0)) := by decide +kernel
theorem s_X11_addCapsule_72 {ca : Nat → List Value → tM → tO} {M : tM} {L : tL} {S : List Value} : rn ca C_X11_addCapsule 72 L S M = rn ca C_X11_addCapsule 74 L (.int (iI 110) :: S) M := (rn_at k_X11_addCapsule_72).trans rfl
theorem k_X11_addCapsule_74 : lk 74 C_X11_addCapsule = some (.dup2, (0, 0, 0, 0)) := by decide +kernel
theorem s_X11_addCapsule_74 {ca : Nat → List Value → tM → tO} {M : tM} {L : tL} {x : Nat} {y : Int32} {S : List Value} : rn ca C_X11_addCapsule 74 L (.int y :: .ref x :: S) M = rn ca C_X11_addCapsule 75 L (.int y :: .ref x :: .int y :: .ref x :: S) M := (rn_at k_X11_addCapsule_74).trans rfl
theorem k_X11_addCapsule_75 : lk 75 C_X11_addCapsule = some (.iaload, (0, 0, 0, 0)) := by decide +kernel
theorem s_X11_addCapsule_75 {ca : Nat → List Value → tM → tO} {M : tM} {L : tL} {a : Nat} {i : Int32} {S : List Value} : rn ca C_X11_addCapsule 75 L (.int i :: .ref a :: S) M = if (akind a = 0 ∨ akind a = 6 ∨ akind a = 7) ∧ inb i (alen M a) then rn ca C_X11_addCapsule 76 L (.int (M.1 a i.toInt.toNat) :: S) M else none := (rn_at k_X11_addCapsule_75).trans rnx_ite
theorem k_X11_addCapsule_76 : lk 76 C_X11_addCapsule = some (.iconst 1, (0, 0, 0, 0)) := by decide +kernel
theorem s_X11_addCapsule_76 {ca : Nat → List Value → tM → tO} {M : tM} {L : tL} {S : List Value} : rn ca C_X11_addCapsule 76 L S M = rn ca C_X11_addCapsule 77 L (.int (iI 1) :: S) M := (rn_at k_X11_addCapsule_76).trans rfl
theorem k_X11_addCapsule_77 : lk 77 C_X11_addCapsule = some (.iadd, (0, 0, 0, 0)) := by decide +kernel
theorem s_X11_addCapsule_77 {ca : Nat → List Value → tM → tO} {M : tM} {L : tL} {x y : Int32} {S : List Value} : rn ca C_X11_addCapsule 77 L (.int y :: .int x :: S) M = rn ca C_X11_addCapsule 78 L (.int (x + y) :: S) M := (rn_at k_X11_addCapsule_77).trans rfl
theorem k_X11_addCapsule_78 : lk 78 C_X11_addCapsule = some (.iastore, (0, 0, 0, 0)) := by decide +kernel
theorem s_X11_addCapsule_78 {ca : Nat → List Value → tM → tO} {M : tM} {L : tL} {a : Nat} {i x : Int32} {S : List Value} : rn ca C_X11_addCapsule 78 L (.int x :: .int i :: .ref a :: S) M = if akind a = 0 ∧ inb i (alen M a) then rn ca C_X11_addCapsule 79 L S (sI M a i.toInt.toNat x) else none := (rn_at k_X11_addCapsule_78).trans rnx_ite
theorem k_X11_addCapsule_79 : lk 79 C_X11_addCapsule = some (.iload 5, (0, 0, 0, 0)) := by decide +kernel
theorem s_X11_addCapsule_79 {ca : Nat → List Value → tM → tO} {M : tM} {a0 a1 a2 a3 a4 : Option Value} {x : Int32} {S : List Value} : rn ca C_X11_addCapsule 79 [a0, a1, a2, a3, a4, some (.int x)] S M = rn ca C_X11_addCapsule 81 [a0, a1, a2, a3, a4, some (.int x)] (.int x :: S) M := (rn_at k_X11_addCapsule_79).trans rfl
theorem k_X11_addCapsule_81 : lk 81 C_X11_addCapsule = some (.ireturn, (0, 0, 0, 0)) := by decide +kernel
theorem s_X11_addCapsule_81 {ca : Nat → List Value → tM → tO} {M : tM} {L : tL} {x : Int32} : rn ca C_X11_addCapsule 81 L [.int x] M = some (some (.int x), M) := (rn_at k_X11_addCapsule_81).trans rfl
theorem k_X11_desk_0 : lk 0 C_X11_desk = some (.aload_n 0, (0, 0, 0, 0)) := by decide +kernel
theorem s_X11_desk_0 {ca : Nat → List Value → tM → tO} {M : tM} {x : Nat} {S : List Value} : rn ca C_X11_desk 0 [some (.ref x)] S M = rn ca C_X11_desk 1 [some (.ref x)] (.ref x :: S) M := (rn_at k_X11_desk_0).trans rfl
theorem k_X11_desk_1 : lk 1 C_X11_desk = some (.getfield 17, (11, 1, 0, 147)) := by decide +kernel
theorem s_X11_desk_1 {ca : Nat → List Value → tM → tO} {M : tM} {L : tL} {b : Nat} {S : List Value} : rn ca C_X11_desk 1 L (.ref b :: S) M = if clsO b = some 11 then rn ca C_X11_desk 4 L (fv M b 1 :: S) M else none := (rn_at k_X11_desk_1).trans rnx_ite
theorem k_X11_desk_4 : lk 4 C_X11_desk = some (.bipush 108, (0, 0, 0, 0)) := by decide +kernel
theorem s_X11_desk_4 {ca : Nat → List Value → tM → tO} {M : tM} {L : tL} {S : List Value} : rn ca C_X11_desk 4 L S M = rn ca C_X11_desk 6 L (.int (iI 108) :: S) M := (rn_at k_X11_desk_4).trans rfl
theorem k_X11_desk_6 : lk 6 C_X11_desk = some (.iaload, (0, 0, 0, 0)) := by decide +kernel
theorem s_X11_desk_6 {ca : Nat → List Value → tM → tO} {M : tM} {L : tL} {a : Nat} {i : Int32} {S : List Value} : rn ca C_X11_desk 6 L (.int i :: .ref a :: S) M = if (akind a = 0 ∨ akind a = 6 ∨ akind a = 7) ∧ inb i (alen M a) then rn ca C_X11_desk 7 L (.int (M.1 a i.toInt.toNat) :: S) M else none := (rn_at k_X11_desk_6).trans rnx_ite
theorem k_X11_desk_7 : lk 7 C_X11_desk = some (.bipush 8, (0, 0, 0, 0)) := by decide +kernel
theorem s_X11_desk_7 {ca : Nat → List Value → tM → tO} {M : tM} {L : tL} {S : List Value} : rn ca C_X11_desk 7 L S M = rn ca C_X11_desk 9 L (.int (iI 8) :: S) M := (rn_at k_X11_desk_7).trans rfl
theorem k_X11_desk_9 : lk 9 C_X11_desk = some (.if_icmp .ne 12, (21, 0, 0, 0)) := by decide +kernel
theorem s_X11_desk_9 {ca : Nat → List Value → tM → tO} {M : tM} {L : tL} {x y : Int32} {S : List Value} : rn ca C_X11_desk 9 L (.int y :: .int x :: S) M = if ¬ x = y then rn ca C_X11_desk 21 L S M else rn ca C_X11_desk 12 L S M := (rn_at k_X11_desk_9).trans rnx_ite
theorem k_X11_desk_12 : lk 12 C_X11_desk = some (.aload_n 0, (0, 0, 0, 0)) := by decide +kernel
theorem s_X11_desk_12 {ca : Nat → List Value → tM → tO} {M : tM} {x : Nat} {S : List Value} : rn ca C_X11_desk 12 [some (.ref x)] S M = rn ca C_X11_desk 13 [some (.ref x)] (.ref x :: S) M := (rn_at k_X11_desk_12).trans rfl
theorem k_X11_desk_13 : lk 13 C_X11_desk = some (.bipush (-7), (0, 0, 0, 0)) := by decide +kernel
theorem s_X11_desk_13 {ca : Nat → List Value → tM → tO} {M : tM} {L : tL} {S : List Value} : rn ca C_X11_desk 13 L S M = rn ca C_X11_desk 15 L (.int (iI (-7)) :: S) M := (rn_at k_X11_desk_13).trans rfl
theorem k_X11_desk_15 : lk 15 C_X11_desk = some (.invokevirtual 83, (144, 1, 11, 200)) := by decide +kernel
theorem s_X11_desk_15 {ca : Nat → List Value → tM → tO} {M : tM} {L : tL} {v1 : Value} {b : Nat} : rn ca C_X11_desk 15 L [v1, .ref b] M = if clsO b = some 11 then rnk ca C_X11_desk 18 L [] (ca m_X11_refuse [.ref b, v1] M) else none := (rn_at k_X11_desk_15).trans rnx_ite
theorem k_X11_desk_18 : lk 18 C_X11_desk = some (.goto 7, (25, 0, 0, 0)) := by decide +kernel
theorem s_X11_desk_18 {ca : Nat → List Value → tM → tO} {M : tM} {L : tL} {S : List Value} : rn ca C_X11_desk 18 L S M = rn ca C_X11_desk 25 L S M := (rn_at k_X11_desk_18).trans rfl
theorem k_X11_desk_21 : lk 21 C_X11_desk = some (.aload_n 0, (0, 0, 0, 0)) := by decide +kernel
theorem s_X11_desk_21 {ca : Nat → List Value → tM → tO} {M : tM} {x : Nat} {S : List Value} : rn ca C_X11_desk 21 [some (.ref x)] S M = rn ca C_X11_desk 22 [some (.ref x)] (.ref x :: S) M := (rn_at k_X11_desk_21).trans rfl
theorem k_X11_desk_22 : lk 22 C_X11_desk = some (.invokevirtual 91, (159, 0, 11, 360)) := by decide +kernel
theorem s_X11_desk_22 {ca : Nat → List Value → tM → tO} {M : tM} {L : tL} {b : Nat} : rn ca C_X11_desk 22 L [.ref b] M = if clsO b = some 11 then rnk ca C_X11_desk 25 L [] (ca m_X11_addDesk [.ref b] M) else none := (rn_at k_X11_desk_22).trans rnx_ite
theorem k_X11_desk_25 : lk 25 C_X11_desk = some (.ireturn, (0, 0, 0, 0)) := by decide +kernel
theorem s_X11_desk_25 {ca : Nat → List Value → tM → tO} {M : tM} {L : tL} {x : Int32} : rn ca C_X11_desk 25 L [.int x] M = some (some (.int x), M) := (rn_at k_X11_desk_25).trans rfl
theorem k_X11_tube_0 : lk 0 C_X11_tube = some (.aload_n 0, (0, 0, 0, 0)) := by decide +kernel
theorem s_X11_tube_0 {ca : Nat → List Value → tM → tO} {M : tM} {a1 a2 a3 a4 : Option Value} {x : Nat} {S : List Value} : rn ca C_X11_tube 0 [some (.ref x), a1, a2, a3, a4] S M = rn ca C_X11_tube 1 [some (.ref x), a1, a2, a3, a4] (.ref x :: S) M := (rn_at k_X11_tube_0).trans rfl
theorem k_X11_tube_1 : lk 1 C_X11_tube = some (.iload_n 1, (0, 0, 0, 0)) := by decide +kernel
theorem s_X11_tube_1 {ca : Nat → List Value → tM → tO} {M : tM} {a0 a2 a3 a4 : Option Value} {x : Int32} {S : List Value} : rn ca C_X11_tube 1 [a0, some (.int x), a2, a3, a4] S M = rn ca C_X11_tube 2 [a0, some (.int x), a2, a3, a4] (.int x :: S) M := (rn_at k_X11_tube_1).trans rfl
theorem k_X11_tube_2 : lk 2 C_X11_tube = some (.i2l, (0, 0, 0, 0)) := by decide +kernel
theorem s_X11_tube_2 {ca : Nat → List Value → tM → tO} {M : tM} {L : tL} {x : Int32} {S : List Value} : rn ca C_X11_tube 2 L (.int x :: S) M = rn ca C_X11_tube 3 L (.long x.toInt64 :: S) M := (rn_at k_X11_tube_2).trans rfl
theorem k_X11_tube_3 : lk 3 C_X11_tube = some (.invokevirtual 95, (147, 1, 11, 397)) := by decide +kernel
theorem s_X11_tube_3 {ca : Nat → List Value → tM → tO} {M : tM} {L : tL} {v1 : Value} {b : Nat} : rn ca C_X11_tube 3 L [v1, .ref b] M = if clsO b = some 11 then rnk ca C_X11_tube 6 L [] (ca m_X11_isDesk [.ref b, v1] M) else none := (rn_at k_X11_tube_3).trans rnx_ite
theorem k_X11_tube_6 : lk 6 C_X11_tube = some (.ifCond .eq 12, (18, 0, 0, 0)) := by decide +kernel
theorem s_X11_tube_6 {ca : Nat → List Value → tM → tO} {M : tM} {L : tL} {x : Int32} {S : List Value} : rn ca C_X11_tube 6 L (.int x :: S) M = if x = iI 0 then rn ca C_X11_tube 18 L S M else rn ca C_X11_tube 9 L S M := (rn_at k_X11_tube_6).trans rnx_ite
theorem k_X11_tube_9 : lk 9 C_X11_tube = some (.aload_n 0, (0, 0, 0, 0)) := by decide +kernel
theorem s_X11_tube_9 {ca : Nat → List Value → tM → tO} {M : tM} {a1 a2 a3 a4 : Option Value} {x : Nat} {S : List Value} : rn ca C_X11_tube 9 [some (.ref x), a1, a2, a3, a4] S M = rn ca C_X11_tube 10 [some (.ref x), a1, a2, a3, a4] (.ref x :: S) M := (rn_at k_X11_tube_9).trans rfl
theorem k_X11_tube_10 : lk 10 C_X11_tube = some (.iload_n 2, (0, 0, 0, 0)) := by decide +kernel
theorem s_X11_tube_10 {ca : Nat → List Value → tM → tO} {M : tM} {a0 a1 a3 a4 : Option Value} {x : Int32} {S : List Value} : rn ca C_X11_tube 10 [a0, a1, some (.int x), a3, a4] S M = rn ca C_X11_tube 11 [a0, a1, some (.int x), a3, a4] (.int x :: S) M := (rn_at k_X11_tube_10).trans rfl
theorem k_X11_tube_11 : lk 11 C_X11_tube = some (.i2l, (0, 0, 0, 0)) := by decide +kernel
theorem s_X11_tube_11 {ca : Nat → List Value → tM → tO} {M : tM} {L : tL} {x : Int32} {S : List Value} : rn ca C_X11_tube 11 L (.int x :: S) M = rn ca C_X11_tube 12 L (.long x.toInt64 :: S) M := (rn_at k_X11_tube_11).trans rfl
theorem k_X11_tube_12 : lk 12 C_X11_tube = some (.invokevirtual 95, (147, 1, 11, 397)) := by decide +kernel
theorem s_X11_tube_12 {ca : Nat → List Value → tM → tO} {M : tM} {L : tL} {v1 : Value} {b : Nat} : rn ca C_X11_tube 12 L [v1, .ref b] M = if clsO b = some 11 then rnk ca C_X11_tube 15 L [] (ca m_X11_isDesk [.ref b, v1] M) else none := (rn_at k_X11_tube_12).trans rnx_ite
theorem k_X11_tube_15 : lk 15 C_X11_tube = some (.ifCond .ne 9, (24, 0, 0, 0)) := by decide +kernel
theorem s_X11_tube_15 {ca : Nat → List Value → tM → tO} {M : tM} {L : tL} {x : Int32} {S : List Value} : rn ca C_X11_tube 15 L (.int x :: S) M = if ¬ x = iI 0 then rn ca C_X11_tube 24 L S M else rn ca C_X11_tube 18 L S M := (rn_at k_X11_tube_15).trans rnx_ite
theorem k_X11_tube_18 : lk 18 C_X11_tube = some (.aload_n 0, (0, 0, 0, 0)) := by decide +kernel
theorem s_X11_tube_18 {ca : Nat → List Value → tM → tO} {M : tM} {a1 a2 a3 a4 : Option Value} {x : Nat} {S : List Value} : rn ca C_X11_tube 18 [some (.ref x), a1, a2, a3, a4] S M = rn ca C_X11_tube 19 [some (.ref x), a1, a2, a3, a4] (.ref x :: S) M := (rn_at k_X11_tube_18).trans rfl
theorem k_X11_tube_19 : lk 19 C_X11_tube = some (.iconst (-1), (0, 0, 0, 0)) := by decide +kernel
theorem s_X11_tube_19 {ca : Nat → List Value → tM → tO} {M : tM} {L : tL} {S : List Value} : rn ca C_X11_tube 19 L S M = rn ca C_X11_tube 20 L (.int (iI (-1)) :: S) M := (rn_at k_X11_tube_19).trans rfl
theorem k_X11_tube_20 : lk 20 C_X11_tube = some (.invokevirtual 83, (144, 1, 11, 200)) := by decide +kernel
theorem s_X11_tube_20 {ca : Nat → List Value → tM → tO} {M : tM} {L : tL} {v1 : Value} {b : Nat} : rn ca C_X11_tube 20 L [v1, .ref b] M = if clsO b = some 11 then rnk ca C_X11_tube 23 L [] (ca m_X11_refuse [.ref b, v1] M) else none := (rn_at k_X11_tube_20).trans rnx_ite
theorem k_X11_tube_23 : lk 23 C_X11_tube = some (.ireturn, (0, 0, 0, 0)) := by decide +kernel
theorem s_X11_tube_23 {ca : Nat → List Value → tM → tO} {M : tM} {L : tL} {x : Int32} : rn ca C_X11_tube 23 L [.int x] M = some (some (.int x), M) := (rn_at k_X11_tube_23).trans rfl
theorem k_X11_tube_24 : lk 24 C_X11_tube = some (.iload_n 1, (0, 0, 0, 0)) := by decide +kernel
theorem s_X11_tube_24 {ca : Nat → List Value → tM → tO} {M : tM} {a0 a2 a3 a4 : Option Value} {x : Int32} {S : List Value} : rn ca C_X11_tube 24 [a0, some (.int x), a2, a3, a4] S M = rn ca C_X11_tube 25 [a0, some (.int x), a2, a3, a4] (.int x :: S) M := (rn_at k_X11_tube_24).trans rfl
theorem k_X11_tube_25 : lk 25 C_X11_tube = some (.iload_n 2, (0, 0, 0, 0)) := by decide +kernel
theorem s_X11_tube_25 {ca : Nat → List Value → tM → tO} {M : tM} {a0 a1 a3 a4 : Option Value} {x : Int32} {S : List Value} : rn ca C_X11_tube 25 [a0, a1, some (.int x), a3, a4] S M = rn ca C_X11_tube 26 [a0, a1, some (.int x), a3, a4] (.int x :: S) M := (rn_at k_X11_tube_25).trans rfl
theorem k_X11_tube_26 : lk 26 C_X11_tube = some (.if_icmp .eq 28, (54, 0, 0, 0)) := by decide +kernel
theorem s_X11_tube_26 {ca : Nat → List Value → tM → tO} {M : tM} {L : tL} {x y : Int32} {S : List Value} : rn ca C_X11_tube 26 L (.int y :: .int x :: S) M = if x = y then rn ca C_X11_tube 54 L S M else rn ca C_X11_tube 29 L S M := (rn_at k_X11_tube_26).trans rnx_ite
theorem k_X11_tube_29 : lk 29 C_X11_tube = some (.iload_n 3, (0, 0, 0, 0)) := by decide +kernel
theorem s_X11_tube_29 {ca : Nat → List Value → tM → tO} {M : tM} {a0 a1 a2 a4 : Option Value} {x : Int32} {S : List Value} : rn ca C_X11_tube 29 [a0, a1, a2, some (.int x), a4] S M = rn ca C_X11_tube 30 [a0, a1, a2, some (.int x), a4] (.int x :: S) M := (rn_at k_X11_tube_29).trans rfl
theorem k_X11_tube_30 : lk 30 C_X11_tube = some (.i2l, (0, 0, 0, 0)) := by decide +kernel
theorem s_X11_tube_30 {ca : Nat → List Value → tM → tO} {M : tM} {L : tL} {x : Int32} {S : List Value} : rn ca C_X11_tube 30 L (.int x :: S) M = rn ca C_X11_tube 31 L (.long x.toInt64 :: S) M := (rn_at k_X11_tube_30).trans rfl
theorem k_X11_tube_31 : lk 31 C_X11_tube = some (.lconst 1, (0, 0, 0, 0)) := by decide +kernel
theorem s_X11_tube_31 {ca : Nat → List Value → tM → tO} {M : tM} {L : tL} {S : List Value} : rn ca C_X11_tube 31 L S M = rn ca C_X11_tube 32 L (.long (jJ 1) :: S) M := (rn_at k_X11_tube_31).trans rfl
theorem k_X11_tube_32 : lk 32 C_X11_tube = some (.ldc2_w 99, (0, 0, 9, 396)) := by decide +kernel
theorem s_X11_tube_32 {ca : Nat → List Value → tM → tO} {M : tM} {L : tL} {S : List Value} : rn ca C_X11_tube 32 L S M = rn ca C_X11_tube 35 L (.long (jJ 9) :: S) M := (rn_at k_X11_tube_32).trans rfl
theorem k_X11_tube_35 : lk 35 C_X11_tube = some (.invokestatic 87, (143, 3, 0, 197)) := by decide +kernel
theorem s_X11_tube_35 {ca : Nat → List Value → tM → tO} {M : tM} {L : tL} {v1 v2 v3 : Value} : rn ca C_X11_tube 35 L [v3, v2, v1] M = rnk ca C_X11_tube 38 L [] (ca m_X11_isIn [v1, v2, v3] M) := (rn_at k_X11_tube_35).trans rfl
theorem k_X11_tube_38 : lk 38 C_X11_tube = some (.ifCond .eq 16, (54, 0, 0, 0)) := by decide +kernel
theorem s_X11_tube_38 {ca : Nat → List Value → tM → tO} {M : tM} {L : tL} {x : Int32} {S : List Value} : rn ca C_X11_tube 38 L (.int x :: S) M = if x = iI 0 then rn ca C_X11_tube 54 L S M else rn ca C_X11_tube 41 L S M := (rn_at k_X11_tube_38).trans rnx_ite
theorem k_X11_tube_41 : lk 41 C_X11_tube = some (.iload 4, (0, 0, 0, 0)) := by decide +kernel
theorem s_X11_tube_41 {ca : Nat → List Value → tM → tO} {M : tM} {a0 a1 a2 a3 : Option Value} {x : Int32} {S : List Value} : rn ca C_X11_tube 41 [a0, a1, a2, a3, some (.int x)] S M = rn ca C_X11_tube 43 [a0, a1, a2, a3, some (.int x)] (.int x :: S) M := (rn_at k_X11_tube_41).trans rfl
theorem k_X11_tube_43 : lk 43 C_X11_tube = some (.i2l, (0, 0, 0, 0)) := by decide +kernel
theorem s_X11_tube_43 {ca : Nat → List Value → tM → tO} {M : tM} {L : tL} {x : Int32} {S : List Value} : rn ca C_X11_tube 43 L (.int x :: S) M = rn ca C_X11_tube 44 L (.long x.toInt64 :: S) M := (rn_at k_X11_tube_43).trans rfl
theorem k_X11_tube_44 : lk 44 C_X11_tube = some (.lconst 1, (0, 0, 0, 0)) := by decide +kernel
theorem s_X11_tube_44 {ca : Nat → List Value → tM → tO} {M : tM} {L : tL} {S : List Value} : rn ca C_X11_tube 44 L S M = rn ca C_X11_tube 45 L (.long (jJ 1) :: S) M := (rn_at k_X11_tube_44).trans rfl
theorem k_X11_tube_45 : lk 45 C_X11_tube = some (.ldc2_w 99, (0, 0, 9, 396)) := by decide +kernel
theorem s_X11_tube_45 {ca : Nat → List Value → tM → tO} {M : tM} {L : tL} {S : List Value} : rn ca C_X11_tube 45 L S M = rn ca C_X11_tube 48 L (.long (jJ 9) :: S) M := (rn_at k_X11_tube_45).trans rfl
theorem k_X11_tube_48 : lk 48 C_X11_tube = some (.invokestatic 87, (143, 3, 0, 197)) := by decide +kernel
theorem s_X11_tube_48 {ca : Nat → List Value → tM → tO} {M : tM} {L : tL} {v1 v2 v3 : Value} : rn ca C_X11_tube 48 L [v3, v2, v1] M = rnk ca C_X11_tube 51 L [] (ca m_X11_isIn [v1, v2, v3] M) := (rn_at k_X11_tube_48).trans rfl
theorem k_X11_tube_51 : lk 51 C_X11_tube = some (.ifCond .ne 10, (61, 0, 0, 0)) := by decide +kernel
theorem s_X11_tube_51 {ca : Nat → List Value → tM → tO} {M : tM} {L : tL} {x : Int32} {S : List Value} : rn ca C_X11_tube 51 L (.int x :: S) M = if ¬ x = iI 0 then rn ca C_X11_tube 61 L S M else rn ca C_X11_tube 54 L S M := (rn_at k_X11_tube_51).trans rnx_ite
theorem k_X11_tube_54 : lk 54 C_X11_tube = some (.aload_n 0, (0, 0, 0, 0)) := by decide +kernel
theorem s_X11_tube_54 {ca : Nat → List Value → tM → tO} {M : tM} {a1 a2 a3 a4 : Option Value} {x : Nat} {S : List Value} : rn ca C_X11_tube 54 [some (.ref x), a1, a2, a3, a4] S M = rn ca C_X11_tube 55 [some (.ref x), a1, a2, a3, a4] (.ref x :: S) M := (rn_at k_X11_tube_54).trans rfl
theorem k_X11_tube_55 : lk 55 C_X11_tube = some (.bipush (-6), (0, 0, 0, 0)) := by decide +kernel
theorem s_X11_tube_55 {ca : Nat → List Value → tM → tO} {M : tM} {L : tL} {S : List Value} : rn ca C_X11_tube 55 L S M = rn ca C_X11_tube 57 L (.int (iI (-6)) :: S) M := (rn_at k_X11_tube_55).trans rfl
theorem k_X11_tube_57 : lk 57 C_X11_tube = some (.invokevirtual 83, (144, 1, 11, 200)) := by decide +kernel
theorem s_X11_tube_57 {ca : Nat → List Value → tM → tO} {M : tM} {L : tL} {v1 : Value} {b : Nat} : rn ca C_X11_tube 57 L [v1, .ref b] M = if clsO b = some 11 then rnk ca C_X11_tube 60 L [] (ca m_X11_refuse [.ref b, v1] M) else none := (rn_at k_X11_tube_57).trans rnx_ite
theorem k_X11_tube_60 : lk 60 C_X11_tube = some (.ireturn, (0, 0, 0, 0)) := by decide +kernel
theorem s_X11_tube_60 {ca : Nat → List Value → tM → tO} {M : tM} {L : tL} {x : Int32} : rn ca C_X11_tube 60 L [.int x] M = some (some (.int x), M) := (rn_at k_X11_tube_60).trans rfl
theorem k_X11_tube_61 : lk 61 C_X11_tube = some (.aload_n 0, (0, 0, 0, 0)) := by decide +kernel
theorem s_X11_tube_61 {ca : Nat → List Value → tM → tO} {M : tM} {a1 a2 a3 a4 : Option Value} {x : Nat} {S : List Value} : rn ca C_X11_tube 61 [some (.ref x), a1, a2, a3, a4] S M = rn ca C_X11_tube 62 [some (.ref x), a1, a2, a3, a4] (.ref x :: S) M := (rn_at k_X11_tube_61).trans rfl
theorem k_X11_tube_62 : lk 62 C_X11_tube = some (.getfield 17, (11, 1, 0, 147)) := by decide +kernel
theorem s_X11_tube_62 {ca : Nat → List Value → tM → tO} {M : tM} {L : tL} {b : Nat} {S : List Value} : rn ca C_X11_tube 62 L (.ref b :: S) M = if clsO b = some 11 then rn ca C_X11_tube 65 L (fv M b 1 :: S) M else none := (rn_at k_X11_tube_62).trans rnx_ite
theorem k_X11_tube_65 : lk 65 C_X11_tube = some (.bipush 109, (0, 0, 0, 0)) := by decide +kernel
theorem s_X11_tube_65 {ca : Nat → List Value → tM → tO} {M : tM} {L : tL} {S : List Value} : rn ca C_X11_tube 65 L S M = rn ca C_X11_tube 67 L (.int (iI 109) :: S) M := (rn_at k_X11_tube_65).trans rfl
theorem k_X11_tube_67 : lk 67 C_X11_tube = some (.iaload, (0, 0, 0, 0)) := by decide +kernel
theorem s_X11_tube_67 {ca : Nat → List Value → tM → tO} {M : tM} {L : tL} {a : Nat} {i : Int32} {S : List Value} : rn ca C_X11_tube 67 L (.int i :: .ref a :: S) M = if (akind a = 0 ∨ akind a = 6 ∨ akind a = 7) ∧ inb i (alen M a) then rn ca C_X11_tube 68 L (.int (M.1 a i.toInt.toNat) :: S) M else none := (rn_at k_X11_tube_67).trans rnx_ite
theorem k_X11_tube_68 : lk 68 C_X11_tube = some (.bipush 16, (0, 0, 0, 0)) := by decide +kernel
theorem s_X11_tube_68 {ca : Nat → List Value → tM → tO} {M : tM} {L : tL} {S : List Value} : rn ca C_X11_tube 68 L S M = rn ca C_X11_tube 70 L (.int (iI 16) :: S) M := (rn_at k_X11_tube_68).trans rfl
theorem k_X11_tube_70 : lk 70 C_X11_tube = some (.if_icmp .ne 12, (82, 0, 0, 0)) := by decide +kernel
theorem s_X11_tube_70 {ca : Nat → List Value → tM → tO} {M : tM} {L : tL} {x y : Int32} {S : List Value} : rn ca C_X11_tube 70 L (.int y :: .int x :: S) M = if ¬ x = y then rn ca C_X11_tube 82 L S M else rn ca C_X11_tube 73 L S M := (rn_at k_X11_tube_70).trans rnx_ite
theorem k_X11_tube_73 : lk 73 C_X11_tube = some (.aload_n 0, (0, 0, 0, 0)) := by decide +kernel
theorem s_X11_tube_73 {ca : Nat → List Value → tM → tO} {M : tM} {a1 a2 a3 a4 : Option Value} {x : Nat} {S : List Value} : rn ca C_X11_tube 73 [some (.ref x), a1, a2, a3, a4] S M = rn ca C_X11_tube 74 [some (.ref x), a1, a2, a3, a4] (.ref x :: S) M := (rn_at k_X11_tube_73).trans rfl
theorem k_X11_tube_74 : lk 74 C_X11_tube = some (.bipush (-7), (0, 0, 0, 0)) := by decide +kernel
theorem s_X11_tube_74 {ca : Nat → List Value → tM → tO} {M : tM} {L : tL} {S : List Value} : rn ca C_X11_tube 74 L S M = rn ca C_X11_tube 76 L (.int (iI (-7)) :: S) M := (rn_at k_X11_tube_74).trans rfl
theorem k_X11_tube_76 : lk 76 C_X11_tube = some (.invokevirtual 83, (144, 1, 11, 200)) := by decide +kernel
theorem s_X11_tube_76 {ca : Nat → List Value → tM → tO} {M : tM} {L : tL} {v1 : Value} {b : Nat} : rn ca C_X11_tube 76 L [v1, .ref b] M = if clsO b = some 11 then rnk ca C_X11_tube 79 L [] (ca m_X11_refuse [.ref b, v1] M) else none := (rn_at k_X11_tube_76).trans rnx_ite
theorem k_X11_tube_79 : lk 79 C_X11_tube = some (.goto 12, (91, 0, 0, 0)) := by decide +kernel
theorem s_X11_tube_79 {ca : Nat → List Value → tM → tO} {M : tM} {L : tL} {S : List Value} : rn ca C_X11_tube 79 L S M = rn ca C_X11_tube 91 L S M := (rn_at k_X11_tube_79).trans rfl
theorem k_X11_tube_82 : lk 82 C_X11_tube = some (.aload_n 0, (0, 0, 0, 0)) := by decide +kernel
theorem s_X11_tube_82 {ca : Nat → List Value → tM → tO} {M : tM} {a1 a2 a3 a4 : Option Value} {x : Nat} {S : List Value} : rn ca C_X11_tube 82 [some (.ref x), a1, a2, a3, a4] S M = rn ca C_X11_tube 83 [some (.ref x), a1, a2, a3, a4] (.ref x :: S) M := (rn_at k_X11_tube_82).trans rfl
theorem k_X11_tube_83 : lk 83 C_X11_tube = some (.iload_n 1, (0, 0, 0, 0)) := by decide +kernel
theorem s_X11_tube_83 {ca : Nat → List Value → tM → tO} {M : tM} {a0 a2 a3 a4 : Option Value} {x : Int32} {S : List Value} : rn ca C_X11_tube 83 [a0, some (.int x), a2, a3, a4] S M = rn ca C_X11_tube 84 [a0, some (.int x), a2, a3, a4] (.int x :: S) M := (rn_at k_X11_tube_83).trans rfl
theorem k_X11_tube_84 : lk 84 C_X11_tube = some (.iload_n 2, (0, 0, 0, 0)) := by decide +kernel
theorem s_X11_tube_84 {ca : Nat → List Value → tM → tO} {M : tM} {a0 a1 a3 a4 : Option Value} {x : Int32} {S : List Value} : rn ca C_X11_tube 84 [a0, a1, some (.int x), a3, a4] S M = rn ca C_X11_tube 85 [a0, a1, some (.int x), a3, a4] (.int x :: S) M := (rn_at k_X11_tube_84).trans rfl
theorem k_X11_tube_85 : lk 85 C_X11_tube = some (.iload_n 3, (0, 0, 0, 0)) := by decide +kernel
theorem s_X11_tube_85 {ca : Nat → List Value → tM → tO} {M : tM} {a0 a1 a2 a4 : Option Value} {x : Int32} {S : List Value} : rn ca C_X11_tube 85 [a0, a1, a2, some (.int x), a4] S M = rn ca C_X11_tube 86 [a0, a1, a2, some (.int x), a4] (.int x :: S) M := (rn_at k_X11_tube_85).trans rfl
theorem k_X11_tube_86 : lk 86 C_X11_tube = some (.iload 4, (0, 0, 0, 0)) := by decide +kernel
theorem s_X11_tube_86 {ca : Nat → List Value → tM → tO} {M : tM} {a0 a1 a2 a3 : Option Value} {x : Int32} {S : List Value} : rn ca C_X11_tube 86 [a0, a1, a2, a3, some (.int x)] S M = rn ca C_X11_tube 88 [a0, a1, a2, a3, some (.int x)] (.int x :: S) M := (rn_at k_X11_tube_86).trans rfl
theorem k_X11_tube_88 : lk 88 C_X11_tube = some (.invokevirtual 101, (160, 4, 11, 401)) := by decide +kernel
theorem s_X11_tube_88 {ca : Nat → List Value → tM → tO} {M : tM} {L : tL} {v1 v2 v3 v4 : Value} {b : Nat} : rn ca C_X11_tube 88 L [v4, v3, v2, v1, .ref b] M = if clsO b = some 11 then rnk ca C_X11_tube 91 L [] (ca m_X11_addTube [.ref b, v1, v2, v3, v4] M) else none := (rn_at k_X11_tube_88).trans rnx_ite
theorem k_X11_tube_91 : lk 91 C_X11_tube = some (.ireturn, (0, 0, 0, 0)) := by decide +kernel
theorem s_X11_tube_91 {ca : Nat → List Value → tM → tO} {M : tM} {L : tL} {x : Int32} : rn ca C_X11_tube 91 L [.int x] M = some (some (.int x), M) := (rn_at k_X11_tube_91).trans rfl
theorem k_X11_capsule_0 : lk 0 C_X11_capsule = some (.iload_n 1, (0, 0, 0, 0)) := by decide +kernel
theorem s_X11_capsule_0 {ca : Nat → List Value → tM → tO} {M : tM} {a0 a2 a3 a4 : Option Value} {x : Int32} {S : List Value} : rn ca C_X11_capsule 0 [a0, some (.int x), a2, a3, a4] S M = rn ca C_X11_capsule 1 [a0, some (.int x), a2, a3, a4] (.int x :: S) M := (rn_at k_X11_capsule_0).trans rfl
theorem k_X11_capsule_1 : lk 1 C_X11_capsule = some (.i2l, (0, 0, 0, 0)) := by decide +kernel
theorem s_X11_capsule_1 {ca : Nat → List Value → tM → tO} {M : tM} {L : tL} {x : Int32} {S : List Value} : rn ca C_X11_capsule 1 L (.int x :: S) M = rn ca C_X11_capsule 2 L (.long x.toInt64 :: S) M := (rn_at k_X11_capsule_1).trans rfl
theorem k_X11_capsule_2 : lk 2 C_X11_capsule = some (.lconst 0, (0, 0, 0, 0)) := by decide +kernel
theorem s_X11_capsule_2 {ca : Nat → List Value → tM → tO} {M : tM} {L : tL} {S : List Value} : rn ca C_X11_capsule 2 L S M = rn ca C_X11_capsule 3 L (.long (jJ 0) :: S) M := (rn_at k_X11_capsule_2).trans rfl
theorem k_X11_capsule_3 : lk 3 C_X11_capsule = some (.ldc2_w 105, (0, 0, 6, 326)) := by decide +kernel
theorem s_X11_capsule_3 {ca : Nat → List Value → tM → tO} {M : tM} {L : tL} {S : List Value} : rn ca C_X11_capsule 3 L S M = rn ca C_X11_capsule 6 L (.long (jJ 6) :: S) M := (rn_at k_X11_capsule_3).trans rfl
theorem k_X11_capsule_6 : lk 6 C_X11_capsule = some (.invokestatic 87, (143, 3, 0, 197)) := by decide +kernel
theorem s_X11_capsule_6 {ca : Nat → List Value → tM → tO} {M : tM} {L : tL} {v1 v2 v3 : Value} : rn ca C_X11_capsule 6 L [v3, v2, v1] M = rnk ca C_X11_capsule 9 L [] (ca m_X11_isIn [v1, v2, v3] M) := (rn_at k_X11_capsule_6).trans rfl
theorem k_X11_capsule_9 : lk 9 C_X11_capsule = some (.ifCond .eq 13, (22, 0, 0, 0)) := by decide +kernel
theorem s_X11_capsule_9 {ca : Nat → List Value → tM → tO} {M : tM} {L : tL} {x : Int32} {S : List Value} : rn ca C_X11_capsule 9 L (.int x :: S) M = if x = iI 0 then rn ca C_X11_capsule 22 L S M else rn ca C_X11_capsule 12 L S M := (rn_at k_X11_capsule_9).trans rnx_ite
theorem k_X11_capsule_12 : lk 12 C_X11_capsule = some (.aload_n 0, (0, 0, 0, 0)) := by decide +kernel
theorem s_X11_capsule_12 {ca : Nat → List Value → tM → tO} {M : tM} {a1 a2 a3 a4 : Option Value} {x : Nat} {S : List Value} : rn ca C_X11_capsule 12 [some (.ref x), a1, a2, a3, a4] S M = rn ca C_X11_capsule 13 [some (.ref x), a1, a2, a3, a4] (.ref x :: S) M := (rn_at k_X11_capsule_12).trans rfl
theorem k_X11_capsule_13 : lk 13 C_X11_capsule = some (.iload 4, (0, 0, 0, 0)) := by decide +kernel
theorem s_X11_capsule_13 {ca : Nat → List Value → tM → tO} {M : tM} {a0 a1 a2 a3 : Option Value} {x : Int32} {S : List Value} : rn ca C_X11_capsule 13 [a0, a1, a2, a3, some (.int x)] S M = rn ca C_X11_capsule 15 [a0, a1, a2, a3, some (.int x)] (.int x :: S) M := (rn_at k_X11_capsule_13).trans rfl
theorem k_X11_capsule_15 : lk 15 C_X11_capsule = some (.i2l, (0, 0, 0, 0)) := by decide +kernel
theorem s_X11_capsule_15 {ca : Nat → List Value → tM → tO} {M : tM} {L : tL} {x : Int32} {S : List Value} : rn ca C_X11_capsule 15 L (.int x :: S) M = rn ca C_X11_capsule 16 L (.long x.toInt64 :: S) M := (rn_at k_X11_capsule_15).trans rfl
theorem k_X11_capsule_16 : lk 16 C_X11_capsule = some (.invokevirtual 95, (147, 1, 11, 397)) := by decide +kernel
theorem s_X11_capsule_16 {ca : Nat → List Value → tM → tO} {M : tM} {L : tL} {v1 : Value} {b : Nat} : rn ca C_X11_capsule 16 L [v1, .ref b] M = if clsO b = some 11 then rnk ca C_X11_capsule 19 L [] (ca m_X11_isDesk [.ref b, v1] M) else none := (rn_at k_X11_capsule_16).trans rnx_ite
theorem k_X11_capsule_19 : lk 19 C_X11_capsule = some (.ifCond .ne 9, (28, 0, 0, 0)) := by decide +kernel
theorem s_X11_capsule_19 {ca : Nat → List Value → tM → tO} {M : tM} {L : tL} {x : Int32} {S : List Value} : rn ca C_X11_capsule 19 L (.int x :: S) M = if ¬ x = iI 0 then rn ca C_X11_capsule 28 L S M else rn ca C_X11_capsule 22 L S M := (rn_at k_X11_capsule_19).trans rnx_ite
theorem k_X11_capsule_22 : lk 22 C_X11_capsule = some (.aload_n 0, (0, 0, 0, 0)) := by decide +kernel
theorem s_X11_capsule_22 {ca : Nat → List Value → tM → tO} {M : tM} {a1 a2 a3 a4 : Option Value} {x : Nat} {S : List Value} : rn ca C_X11_capsule 22 [some (.ref x), a1, a2, a3, a4] S M = rn ca C_X11_capsule 23 [some (.ref x), a1, a2, a3, a4] (.ref x :: S) M := (rn_at k_X11_capsule_22).trans rfl
theorem k_X11_capsule_23 : lk 23 C_X11_capsule = some (.iconst (-1), (0, 0, 0, 0)) := by decide +kernel
theorem s_X11_capsule_23 {ca : Nat → List Value → tM → tO} {M : tM} {L : tL} {S : List Value} : rn ca C_X11_capsule 23 L S M = rn ca C_X11_capsule 24 L (.int (iI (-1)) :: S) M := (rn_at k_X11_capsule_23).trans rfl
theorem k_X11_capsule_24 : lk 24 C_X11_capsule = some (.invokevirtual 83, (144, 1, 11, 200)) := by decide +kernel
theorem s_X11_capsule_24 {ca : Nat → List Value → tM → tO} {M : tM} {L : tL} {v1 : Value} {b : Nat} : rn ca C_X11_capsule 24 L [v1, .ref b] M = if clsO b = some 11 then rnk ca C_X11_capsule 27 L [] (ca m_X11_refuse [.ref b, v1] M) else none := (rn_at k_X11_capsule_24).trans rnx_ite
theorem k_X11_capsule_27 : lk 27 C_X11_capsule = some (.ireturn, (0, 0, 0, 0)) := by decide +kernel
theorem s_X11_capsule_27 {ca : Nat → List Value → tM → tO} {M : tM} {L : tL} {x : Int32} : rn ca C_X11_capsule 27 L [.int x] M = some (some (.int x), M) := (rn_at k_X11_capsule_27).trans rfl
theorem k_X11_capsule_28 : lk 28 C_X11_capsule = some (.iload_n 2, (0, 0, 0, 0)) := by decide +kernel
theorem s_X11_capsule_28 {ca : Nat → List Value → tM → tO} {M : tM} {a0 a1 a3 a4 : Option Value} {x : Int32} {S : List Value} : rn ca C_X11_capsule 28 [a0, a1, some (.int x), a3, a4] S M = rn ca C_X11_capsule 29 [a0, a1, some (.int x), a3, a4] (.int x :: S) M := (rn_at k_X11_capsule_28).trans rfl
theorem k_X11_capsule_29 : lk 29 C_X11_capsule = some (.i2l, (0, 0, 0, 0)) := by decide +kernel
theorem s_X11_capsule_29 {ca : Nat → List Value → tM → tO} {M : tM} {L : tL} {x : Int32} {S : List Value} : rn ca C_X11_capsule 29 L (.int x :: S) M = rn ca C_X11_capsule 30 L (.long x.toInt64 :: S) M := (rn_at k_X11_capsule_29).trans rfl
theorem k_X11_capsule_30 : lk 30 C_X11_capsule = some (.lconst 0, (0, 0, 0, 0)) := by decide +kernel
theorem s_X11_capsule_30 {ca : Nat → List Value → tM → tO} {M : tM} {L : tL} {S : List Value} : rn ca C_X11_capsule 30 L S M = rn ca C_X11_capsule 31 L (.long (jJ 0) :: S) M := (rn_at k_X11_capsule_30).trans rfl
theorem k_X11_capsule_31 : lk 31 C_X11_capsule = some (.ldc2_w 99, (0, 0, 9, 396)) := by decide +kernel
theorem s_X11_capsule_31 {ca : Nat → List Value → tM → tO} {M : tM} {L : tL} {S : List Value} : rn ca C_X11_capsule 31 L S M = rn ca C_X11_capsule 34 L (.long (jJ 9) :: S) M := (rn_at k_X11_capsule_31).trans rfl
theorem k_X11_capsule_34 : lk 34 C_X11_capsule = some (.invokestatic 87, (143, 3, 0, 197)) := by decide +kernel
theorem s_X11_capsule_34 {ca : Nat → List Value → tM → tO} {M : tM} {L : tL} {v1 v2 v3 : Value} : rn ca C_X11_capsule 34 L [v3, v2, v1] M = rnk ca C_X11_capsule 37 L [] (ca m_X11_isIn [v1, v2, v3] M) := (rn_at k_X11_capsule_34).trans rfl
theorem k_X11_capsule_37 : lk 37 C_X11_capsule = some (.ifCond .eq 15, (52, 0, 0, 0)) := by decide +kernel
theorem s_X11_capsule_37 {ca : Nat → List Value → tM → tO} {M : tM} {L : tL} {x : Int32} {S : List Value} : rn ca C_X11_capsule 37 L (.int x :: S) M = if x = iI 0 then rn ca C_X11_capsule 52 L S M else rn ca C_X11_capsule 40 L S M := (rn_at k_X11_capsule_37).trans rnx_ite
theorem k_X11_capsule_40 : lk 40 C_X11_capsule = some (.iload_n 3, (0, 0, 0, 0)) := by decide +kernel
theorem s_X11_capsule_40 {ca : Nat → List Value → tM → tO} {M : tM} {a0 a1 a2 a4 : Option Value} {x : Int32} {S : List Value} : rn ca C_X11_capsule 40 [a0, a1, a2, some (.int x), a4] S M = rn ca C_X11_capsule 41 [a0, a1, a2, some (.int x), a4] (.int x :: S) M := (rn_at k_X11_capsule_40).trans rfl
theorem k_X11_capsule_41 : lk 41 C_X11_capsule = some (.i2l, (0, 0, 0, 0)) := by decide +kernel
theorem s_X11_capsule_41 {ca : Nat → List Value → tM → tO} {M : tM} {L : tL} {x : Int32} {S : List Value} : rn ca C_X11_capsule 41 L (.int x :: S) M = rn ca C_X11_capsule 42 L (.long x.toInt64 :: S) M := (rn_at k_X11_capsule_41).trans rfl
theorem k_X11_capsule_42 : lk 42 C_X11_capsule = some (.lconst 1, (0, 0, 0, 0)) := by decide +kernel
theorem s_X11_capsule_42 {ca : Nat → List Value → tM → tO} {M : tM} {L : tL} {S : List Value} : rn ca C_X11_capsule 42 L S M = rn ca C_X11_capsule 43 L (.long (jJ 1) :: S) M := (rn_at k_X11_capsule_42).trans rfl
theorem k_X11_capsule_43 : lk 43 C_X11_capsule = some (.ldc2_w 99, (0, 0, 9, 396)) := by decide +kernel
theorem s_X11_capsule_43 {ca : Nat → List Value → tM → tO} {M : tM} {L : tL} {S : List Value} : rn ca C_X11_capsule 43 L S M = rn ca C_X11_capsule 46 L (.long (jJ 9) :: S) M := (rn_at k_X11_capsule_43).trans rfl
theorem k_X11_capsule_46 : lk 46 C_X11_capsule = some (.invokestatic 87, (143, 3, 0, 197)) := by decide +kernel
theorem s_X11_capsule_46 {ca : Nat → List Value → tM → tO} {M : tM} {L : tL} {v1 v2 v3 : Value} : rn ca C_X11_capsule 46 L [v3, v2, v1] M = rnk ca C_X11_capsule 49 L [] (ca m_X11_isIn [v1, v2, v3] M) := (rn_at k_X11_capsule_46).trans rfl
theorem k_X11_capsule_49 : lk 49 C_X11_capsule = some (.ifCond .ne 10, (59, 0, 0, 0)) := by decide +kernel
theorem s_X11_capsule_49 {ca : Nat → List Value → tM → tO} {M : tM} {L : tL} {x : Int32} {S : List Value} : rn ca C_X11_capsule 49 L (.int x :: S) M = if ¬ x = iI 0 then rn ca C_X11_capsule 59 L S M else rn ca C_X11_capsule 52 L S M := (rn_at k_X11_capsule_49).trans rnx_ite
theorem k_X11_capsule_52 : lk 52 C_X11_capsule = some (.aload_n 0, (0, 0, 0, 0)) := by decide +kernel
theorem s_X11_capsule_52 {ca : Nat → List Value → tM → tO} {M : tM} {a1 a2 a3 a4 : Option Value} {x : Nat} {S : List Value} : rn ca C_X11_capsule 52 [some (.ref x), a1, a2, a3, a4] S M = rn ca C_X11_capsule 53 [some (.ref x), a1, a2, a3, a4] (.ref x :: S) M := (rn_at k_X11_capsule_52).trans rfl
theorem k_X11_capsule_53 : lk 53 C_X11_capsule = some (.bipush (-6), (0, 0, 0, 0)) := by decide +kernel
theorem s_X11_capsule_53 {ca : Nat → List Value → tM → tO} {M : tM} {L : tL} {S : List Value} : rn ca C_X11_capsule 53 L S M = rn ca C_X11_capsule 55 L (.int (iI (-6)) :: S) M := (rn_at k_X11_capsule_53).trans rfl
theorem k_X11_capsule_55 : lk 55 C_X11_capsule = some (.invokevirtual 83, (144, 1, 11, 200)) := by decide +kernel
theorem s_X11_capsule_55 {ca : Nat → List Value → tM → tO} {M : tM} {L : tL} {v1 : Value} {b : Nat} : rn ca C_X11_capsule 55 L [v1, .ref b] M = if clsO b = some 11 then rnk ca C_X11_capsule 58 L [] (ca m_X11_refuse [.ref b, v1] M) else none := (rn_at k_X11_capsule_55).trans rnx_ite
theorem k_X11_capsule_58 : lk 58 C_X11_capsule = some (.ireturn, (0, 0, 0, 0)) := by decide +kernel
theorem s_X11_capsule_58 {ca : Nat → List Value → tM → tO} {M : tM} {L : tL} {x : Int32} : rn ca C_X11_capsule 58 L [.int x] M = some (some (.int x), M) := (rn_at k_X11_capsule_58).trans rfl
theorem k_X11_capsule_59 : lk 59 C_X11_capsule = some (.aload_n 0, (0, 0, 0, 0)) := by decide +kernel
theorem s_X11_capsule_59 {ca : Nat → List Value → tM → tO} {M : tM} {a1 a2 a3 a4 : Option Value} {x : Nat} {S : List Value} : rn ca C_X11_capsule 59 [some (.ref x), a1, a2, a3, a4] S M = rn ca C_X11_capsule 60 [some (.ref x), a1, a2, a3, a4] (.ref x :: S) M := (rn_at k_X11_capsule_59).trans rfl
theorem k_X11_capsule_60 : lk 60 C_X11_capsule = some (.getfield 17, (11, 1, 0, 147)) := by decide +kernel
theorem s_X11_capsule_60 {ca : Nat → List Value → tM → tO} {M : tM} {L : tL} {b : Nat} {S : List Value} : rn ca C_X11_capsule 60 L (.ref b :: S) M = if clsO b = some 11 then rn ca C_X11_capsule 63 L (fv M b 1 :: S) M else none := (rn_at k_X11_capsule_60).trans rnx_ite
theorem k_X11_capsule_63 : lk 63 C_X11_capsule = some (.bipush 110, (0, 0, 0, 0)) := by decide +kernel
theorem s_X11_capsule_63 {ca : Nat → List Value → tM → tO} {M : tM} {L : tL} {S : List Value} : rn ca C_X11_capsule 63 L S M = rn ca C_X11_capsule 65 L (.int (iI 110) :: S) M := (rn_at k_X11_capsule_63).trans rfl
theorem k_X11_capsule_65 : lk 65 C_X11_capsule = some (.iaload, (0, 0, 0, 0)) := by decide +kernel
theorem s_X11_capsule_65 {ca : Nat → List Value → tM → tO} {M : tM} {L : tL} {a : Nat} {i : Int32} {S : List Value} : rn ca C_X11_capsule 65 L (.int i :: .ref a :: S) M = if (akind a = 0 ∨ akind a = 6 ∨ akind a = 7) ∧ inb i (alen M a) then rn ca C_X11_capsule 66 L (.int (M.1 a i.toInt.toNat) :: S) M else none := (rn_at k_X11_capsule_65).trans rnx_ite
theorem k_X11_capsule_66 : lk 66 C_X11_capsule = some (.iconst 5, (0, 0, 0, 0)) := by decide +kernel
theorem s_X11_capsule_66 {ca : Nat → List Value → tM → tO} {M : tM} {L : tL} {S : List Value} : rn ca C_X11_capsule 66 L S M = rn ca C_X11_capsule 67 L (.int (iI 5) :: S) M := (rn_at k_X11_capsule_66).trans rfl
theorem k_X11_capsule_67 : lk 67 C_X11_capsule = some (.if_icmp .ne 12, (79, 0, 0, 0)) := by decide +kernel
theorem s_X11_capsule_67 {ca : Nat → List Value → tM → tO} {M : tM} {L : tL} {x y : Int32} {S : List Value} : rn ca C_X11_capsule 67 L (.int y :: .int x :: S) M = if ¬ x = y then rn ca C_X11_capsule 79 L S M else rn ca C_X11_capsule 70 L S M := (rn_at k_X11_capsule_67).trans rnx_ite
theorem k_X11_capsule_70 : lk 70 C_X11_capsule = some (.aload_n 0, (0, 0, 0, 0)) := by decide +kernel
theorem s_X11_capsule_70 {ca : Nat → List Value → tM → tO} {M : tM} {a1 a2 a3 a4 : Option Value} {x : Nat} {S : List Value} : rn ca C_X11_capsule 70 [some (.ref x), a1, a2, a3, a4] S M = rn ca C_X11_capsule 71 [some (.ref x), a1, a2, a3, a4] (.ref x :: S) M := (rn_at k_X11_capsule_70).trans rfl
theorem k_X11_capsule_71 : lk 71 C_X11_capsule = some (.bipush (-7), (0, 0, 0, 0)) := by decide +kernel
theorem s_X11_capsule_71 {ca : Nat → List Value → tM → tO} {M : tM} {L : tL} {S : List Value} : rn ca C_X11_capsule 71 L S M = rn ca C_X11_capsule 73 L (.int (iI (-7)) :: S) M := (rn_at k_X11_capsule_71).trans rfl
theorem k_X11_capsule_73 : lk 73 C_X11_capsule = some (.invokevirtual 83, (144, 1, 11, 200)) := by decide +kernel
theorem s_X11_capsule_73 {ca : Nat → List Value → tM → tO} {M : tM} {L : tL} {v1 : Value} {b : Nat} : rn ca C_X11_capsule 73 L [v1, .ref b] M = if clsO b = some 11 then rnk ca C_X11_capsule 76 L [] (ca m_X11_refuse [.ref b, v1] M) else none := (rn_at k_X11_capsule_73).trans rnx_ite
theorem k_X11_capsule_76 : lk 76 C_X11_capsule = some (.goto 12, (88, 0, 0, 0)) := by decide +kernel
theorem s_X11_capsule_76 {ca : Nat → List Value → tM → tO} {M : tM} {L : tL} {S : List Value} : rn ca C_X11_capsule 76 L S M = rn ca C_X11_capsule 88 L S M := (rn_at k_X11_capsule_76).trans rfl
theorem k_X11_capsule_79 : lk 79 C_X11_capsule = some (.aload_n 0, (0, 0, 0, 0)) := by decide +kernel
theorem s_X11_capsule_79 {ca : Nat → List Value → tM → tO} {M : tM} {a1 a2 a3 a4 : Option Value} {x : Nat} {S : List Value} : rn ca C_X11_capsule 79 [some (.ref x), a1, a2, a3, a4] S M = rn ca C_X11_capsule 80 [some (.ref x), a1, a2, a3, a4] (.ref x :: S) M := (rn_at k_X11_capsule_79).trans rfl
theorem k_X11_capsule_80 : lk 80 C_X11_capsule = some (.iload_n 1, (0, 0, 0, 0)) := by decide +kernel
theorem s_X11_capsule_80 {ca : Nat → List Value → tM → tO} {M : tM} {a0 a2 a3 a4 : Option Value} {x : Int32} {S : List Value} : rn ca C_X11_capsule 80 [a0, some (.int x), a2, a3, a4] S M = rn ca C_X11_capsule 81 [a0, some (.int x), a2, a3, a4] (.int x :: S) M := (rn_at k_X11_capsule_80).trans rfl
theorem k_X11_capsule_81 : lk 81 C_X11_capsule = some (.iload_n 2, (0, 0, 0, 0)) := by decide +kernel
theorem s_X11_capsule_81 {ca : Nat → List Value → tM → tO} {M : tM} {a0 a1 a3 a4 : Option Value} {x : Int32} {S : List Value} : rn ca C_X11_capsule 81 [a0, a1, some (.int x), a3, a4] S M = rn ca C_X11_capsule 82 [a0, a1, some (.int x), a3, a4] (.int x :: S) M := (rn_at k_X11_capsule_81).trans rfl
theorem k_X11_capsule_82 : lk 82 C_X11_capsule = some (.iload_n 3, (0, 0, 0, 0)) := by decide +kernel
theorem s_X11_capsule_82 {ca : Nat → List Value → tM → tO} {M : tM} {a0 a1 a2 a4 : Option Value} {x : Int32} {S : List Value} : rn ca C_X11_capsule 82 [a0, a1, a2, some (.int x), a4] S M = rn ca C_X11_capsule 83 [a0, a1, a2, some (.int x), a4] (.int x :: S) M := (rn_at k_X11_capsule_82).trans rfl
theorem k_X11_capsule_83 : lk 83 C_X11_capsule = some (.iload 4, (0, 0, 0, 0)) := by decide +kernel
theorem s_X11_capsule_83 {ca : Nat → List Value → tM → tO} {M : tM} {a0 a1 a2 a3 : Option Value} {x : Int32} {S : List Value} : rn ca C_X11_capsule 83 [a0, a1, a2, a3, some (.int x)] S M = rn ca C_X11_capsule 85 [a0, a1, a2, a3, some (.int x)] (.int x :: S) M := (rn_at k_X11_capsule_83).trans rfl
theorem k_X11_capsule_85 : lk 85 C_X11_capsule = some (.invokevirtual 107, (161, 4, 11, 422)) := by decide +kernel
theorem s_X11_capsule_85 {ca : Nat → List Value → tM → tO} {M : tM} {L : tL} {v1 v2 v3 v4 : Value} {b : Nat} : rn ca C_X11_capsule 85 L [v4, v3, v2, v1, .ref b] M = if clsO b = some 11 then rnk ca C_X11_capsule 88 L [] (ca m_X11_addCapsule [.ref b, v1, v2, v3, v4] M) else none := (rn_at k_X11_capsule_85).trans rnx_ite
theorem k_X11_capsule_88 : lk 88 C_X11_capsule = some (.ireturn, (0, 0, 0, 0)) := by decide +kernel
theorem s_X11_capsule_88 {ca : Nat → List Value → tM → tO} {M : tM} {L : tL} {x : Int32} : rn ca C_X11_capsule 88 L [.int x] M = some (some (.int x), M) := (rn_at k_X11_capsule_88).trans rfl
theorem k_X11_shut_0 : lk 0 C_X11_shut = some (.aload_n 0, (0, 0, 0, 0)) := by decide +kernel
theorem s_X11_shut_0 {ca : Nat → List Value → tM → tO} {M : tM} {a1 a2 a3 : Option Value} {x : Nat} {S : List Value} : rn ca C_X11_shut 0 [some (.ref x), a1, a2, a3] S M = rn ca C_X11_shut 1 [some (.ref x), a1, a2, a3] (.ref x :: S) M := (rn_at k_X11_shut_0).trans rfl
theorem k_X11_shut_1 : lk 1 C_X11_shut = some (.iload_n 1, (0, 0, 0, 0)) := by decide +kernel
theorem s_X11_shut_1 {ca : Nat → List Value → tM → tO} {M : tM} {a0 a2 a3 : Option Value} {x : Int32} {S : List Value} : rn ca C_X11_shut 1 [a0, some (.int x), a2, a3] S M = rn ca C_X11_shut 2 [a0, some (.int x), a2, a3] (.int x :: S) M := (rn_at k_X11_shut_1).trans rfl
theorem k_X11_shut_2 : lk 2 C_X11_shut = some (.invokevirtual 110, (148, 1, 11, 440)) := by decide +kernel
theorem s_X11_shut_2 {ca : Nat → List Value → tM → tO} {M : tM} {L : tL} {v1 : Value} {b : Nat} : rn ca C_X11_shut 2 L [v1, .ref b] M = if clsO b = some 11 then rnk ca C_X11_shut 5 L [] (ca m_X11_isTube [.ref b, v1] M) else none := (rn_at k_X11_shut_2).trans rnx_ite
theorem k_X11_shut_5 : lk 5 C_X11_shut = some (.ifCond .ne 9, (14, 0, 0, 0)) := by decide +kernel
theorem s_X11_shut_5 {ca : Nat → List Value → tM → tO} {M : tM} {L : tL} {x : Int32} {S : List Value} : rn ca C_X11_shut 5 L (.int x :: S) M = if ¬ x = iI 0 then rn ca C_X11_shut 14 L S M else rn ca C_X11_shut 8 L S M := (rn_at k_X11_shut_5).trans rnx_ite
theorem k_X11_shut_8 : lk 8 C_X11_shut = some (.aload_n 0, (0, 0, 0, 0)) := by decide +kernel
theorem s_X11_shut_8 {ca : Nat → List Value → tM → tO} {M : tM} {a1 a2 a3 : Option Value} {x : Nat} {S : List Value} : rn ca C_X11_shut 8 [some (.ref x), a1, a2, a3] S M = rn ca C_X11_shut 9 [some (.ref x), a1, a2, a3] (.ref x :: S) M := (rn_at k_X11_shut_8).trans rfl
theorem k_X11_shut_9 : lk 9 C_X11_shut = some (.iconst (-1), (0, 0, 0, 0)) := by decide +kernel
theorem s_X11_shut_9 {ca : Nat → List Value → tM → tO} {M : tM} {L : tL} {S : List Value} : rn ca C_X11_shut 9 L S M = rn ca C_X11_shut 10 L (.int (iI (-1)) :: S) M := (rn_at k_X11_shut_9).trans rfl
theorem k_X11_shut_10 : lk 10 C_X11_shut = some (.invokevirtual 83, (144, 1, 11, 200)) := by decide +kernel
theorem s_X11_shut_10 {ca : Nat → List Value → tM → tO} {M : tM} {L : tL} {v1 : Value} {b : Nat} : rn ca C_X11_shut 10 L [v1, .ref b] M = if clsO b = some 11 then rnk ca C_X11_shut 13 L [] (ca m_X11_refuse [.ref b, v1] M) else none := (rn_at k_X11_shut_10).trans rnx_ite
theorem k_X11_shut_13 : lk 13 C_X11_shut = some (.ireturn, (0, 0, 0, 0)) := by decide +kernel
theorem s_X11_shut_13 {ca : Nat → List Value → tM → tO} {M : tM} {L : tL} {x : Int32} : rn ca C_X11_shut 13 L [.int x] M = some (some (.int x), M) := (rn_at k_X11_shut_13).trans rfl
theorem k_X11_shut_14 : lk 14 C_X11_shut = some (.aload_n 0, (0, 0, 0, 0)) := by decide +kernel
theorem s_X11_shut_14 {ca : Nat → List Value → tM → tO} {M : tM} {a1 a2 a3 : Option Value} {x : Nat} {S : List Value} : rn ca C_X11_shut 14 [some (.ref x), a1, a2, a3] S M = rn ca C_X11_shut 15 [some (.ref x), a1, a2, a3] (.ref x :: S) M := (rn_at k_X11_shut_14).trans rfl
theorem k_X11_shut_15 : lk 15 C_X11_shut = some (.getfield 17, (11, 1, 0, 147)) := by decide +kernel
theorem s_X11_shut_15 {ca : Nat → List Value → tM → tO} {M : tM} {L : tL} {b : Nat} {S : List Value} : rn ca C_X11_shut 15 L (.ref b :: S) M = if clsO b = some 11 then rn ca C_X11_shut 18 L (fv M b 1 :: S) M else none := (rn_at k_X11_shut_15).trans rnx_ite
theorem k_X11_shut_18 : lk 18 C_X11_shut = some (.iconst 5, (0, 0, 0, 0)) := by decide +kernel
theorem s_X11_shut_18 {ca : Nat → List Value → tM → tO} {M : tM} {L : tL} {S : List Value} : rn ca C_X11_shut 18 L S M = rn ca C_X11_shut 19 L (.int (iI 5) :: S) M := (rn_at k_X11_shut_18).trans rfl
theorem k_X11_shut_19 : lk 19 C_X11_shut = some (.iload_n 1, (0, 0, 0, 0)) := by decide +kernel
theorem s_X11_shut_19 {ca : Nat → List Value → tM → tO} {M : tM} {a0 a2 a3 : Option Value} {x : Int32} {S : List Value} : rn ca C_X11_shut 19 [a0, some (.int x), a2, a3] S M = rn ca C_X11_shut 20 [a0, some (.int x), a2, a3] (.int x :: S) M := (rn_at k_X11_shut_19).trans rfl
theorem k_X11_shut_20 : lk 20 C_X11_shut = some (.imul, (0, 0, 0, 0)) := by decide +kernel
theorem s_X11_shut_20 {ca : Nat → List Value → tM → tO} {M : tM} {L : tL} {x y : Int32} {S : List Value} : rn ca C_X11_shut 20 L (.int y :: .int x :: S) M = rn ca C_X11_shut 21 L (.int (x * y) :: S) M := (rn_at k_X11_shut_20).trans rfl
theorem k_X11_shut_21 : lk 21 C_X11_shut = some (.iconst 4, (0, 0, 0, 0)) := by decide +kernel
theorem s_X11_shut_21 {ca : Nat → List Value → tM → tO} {M : tM} {L : tL} {S : List Value} : rn ca C_X11_shut 21 L S M = rn ca C_X11_shut 22 L (.int (iI 4) :: S) M := (rn_at k_X11_shut_21).trans rfl
theorem k_X11_shut_22 : lk 22 C_X11_shut = some (.iadd, (0, 0, 0, 0)) := by decide +kernel
theorem s_X11_shut_22 {ca : Nat → List Value → tM → tO} {M : tM} {L : tL} {x y : Int32} {S : List Value} : rn ca C_X11_shut 22 L (.int y :: .int x :: S) M = rn ca C_X11_shut 23 L (.int (x + y) :: S) M := (rn_at k_X11_shut_22).trans rfl
theorem k_X11_shut_23 : lk 23 C_X11_shut = some (.iaload, (0, 0, 0, 0)) := by decide +kernel
theorem s_X11_shut_23 {ca : Nat → List Value → tM → tO} {M : tM} {L : tL} {a : Nat} {i : Int32} {S : List Value} : rn ca C_X11_shut 23 L (.int i :: .ref a :: S) M = if (akind a = 0 ∨ akind a = 6 ∨ akind a = 7) ∧ inb i (alen M a) then rn ca C_X11_shut 24 L (.int (M.1 a i.toInt.toNat) :: S) M else none := (rn_at k_X11_shut_23).trans rnx_ite
theorem k_X11_shut_24 : lk 24 C_X11_shut = some (.istore_n 3, (0, 0, 0, 0)) := by decide +kernel
theorem s_X11_shut_24 {ca : Nat → List Value → tM → tO} {M : tM} {a0 a1 a2 a3 : Option Value} {x : Int32} {S : List Value} : rn ca C_X11_shut 24 [a0, a1, a2, a3] (.int x :: S) M = rn ca C_X11_shut 25 [a0, a1, a2, some (.int x)] S M := (rn_at k_X11_shut_24).trans rfl
theorem k_X11_shut_25 : lk 25 C_X11_shut = some (.aload_n 0, (0, 0, 0, 0)) := by decide +kernel
theorem s_X11_shut_25 {ca : Nat → List Value → tM → tO} {M : tM} {a1 a2 a3 : Option Value} {x : Nat} {S : List Value} : rn ca C_X11_shut 25 [some (.ref x), a1, a2, a3] S M = rn ca C_X11_shut 26 [some (.ref x), a1, a2, a3] (.ref x :: S) M := (rn_at k_X11_shut_25).trans rfl
theorem k_X11_shut_26 : lk 26 C_X11_shut = some (.getfield 17, (11, 1, 0, 147)) := by decide +kernel
theorem s_X11_shut_26 {ca : Nat → List Value → tM → tO} {M : tM} {L : tL} {b : Nat} {S : List Value} : rn ca C_X11_shut 26 L (.ref b :: S) M = if clsO b = some 11 then rn ca C_X11_shut 29 L (fv M b 1 :: S) M else none := (rn_at k_X11_shut_26).trans rnx_ite
theorem k_X11_shut_29 : lk 29 C_X11_shut = some (.iconst 5, (0, 0, 0, 0)) := by decide +kernel
theorem s_X11_shut_29 {ca : Nat → List Value → tM → tO} {M : tM} {L : tL} {S : List Value} : rn ca C_X11_shut 29 L S M = rn ca C_X11_shut 30 L (.int (iI 5) :: S) M := (rn_at k_X11_shut_29).trans rfl
theorem k_X11_shut_30 : lk 30 C_X11_shut = some (.iload_n 1, (0, 0, 0, 0)) := by decide +kernel
theorem s_X11_shut_30 {ca : Nat → List Value → tM → tO} {M : tM} {a0 a2 a3 : Option Value} {x : Int32} {S : List Value} : rn ca C_X11_shut 30 [a0, some (.int x), a2, a3] S M = rn ca C_X11_shut 31 [a0, some (.int x), a2, a3] (.int x :: S) M := (rn_at k_X11_shut_30).trans rfl
theorem k_X11_shut_31 : lk 31 C_X11_shut = some (.imul, (0, 0, 0, 0)) := by decide +kernel
theorem s_X11_shut_31 {ca : Nat → List Value → tM → tO} {M : tM} {L : tL} {x y : Int32} {S : List Value} : rn ca C_X11_shut 31 L (.int y :: .int x :: S) M = rn ca C_X11_shut 32 L (.int (x * y) :: S) M := (rn_at k_X11_shut_31).trans rfl
theorem k_X11_shut_32 : lk 32 C_X11_shut = some (.iconst 4, (0, 0, 0, 0)) := by decide +kernel
theorem s_X11_shut_32 {ca : Nat → List Value → tM → tO} {M : tM} {L : tL} {S : List Value} : rn ca C_X11_shut 32 L S M = rn ca C_X11_shut 33 L (.int (iI 4) :: S) M := (rn_at k_X11_shut_32).trans rfl
theorem k_X11_shut_33 : lk 33 C_X11_shut = some (.iadd, (0, 0, 0, 0)) := by decide +kernel
theorem s_X11_shut_33 {ca : Nat → List Value → tM → tO} {M : tM} {L : tL} {x y : Int32} {S : List Value} : rn ca C_X11_shut 33 L (.int y :: .int x :: S) M = rn ca C_X11_shut 34 L (.int (x + y) :: S) M := (rn_at k_X11_shut_33).trans rfl
theorem k_X11_shut_34 : lk 34 C_X11_shut = some (.iload_n 2, (0, 0, 0, 0)) := by decide +kernel
theorem s_X11_shut_34 {ca : Nat → List Value → tM → tO} {M : tM} {a0 a1 a3 : Option Value} {x : Int32} {S : List Value} : rn ca C_X11_shut 34 [a0, a1, some (.int x), a3] S M = rn ca C_X11_shut 35 [a0, a1, some (.int x), a3] (.int x :: S) M := (rn_at k_X11_shut_34).trans rfl
theorem k_X11_shut_35 : lk 35 C_X11_shut = some (.ifCond .eq 7, (42, 0, 0, 0)) := by decide +kernel
theorem s_X11_shut_35 {ca : Nat → List Value → tM → tO} {M : tM} {L : tL} {x : Int32} {S : List Value} : rn ca C_X11_shut 35 L (.int x :: S) M = if x = iI 0 then rn ca C_X11_shut 42 L S M else rn ca C_X11_shut 38 L S M := (rn_at k_X11_shut_35).trans rnx_ite
theorem k_X11_shut_38 : lk 38 C_X11_shut = some (.iconst 1, (0, 0, 0, 0)) := by decide +kernel
theorem s_X11_shut_38 {ca : Nat → List Value → tM → tO} {M : tM} {L : tL} {S : List Value} : rn ca C_X11_shut 38 L S M = rn ca C_X11_shut 39 L (.int (iI 1) :: S) M := (rn_at k_X11_shut_38).trans rfl
theorem k_X11_shut_39 : lk 39 C_X11_shut = some (.goto 4, (43, 0, 0, 0)) := by decide +kernel
theorem s_X11_shut_39 {ca : Nat → List Value → tM → tO} {M : tM} {L : tL} {S : List Value} : rn ca C_X11_shut 39 L S M = rn ca C_X11_shut 43 L S M := (rn_at k_X11_shut_39).trans rfl
theorem k_X11_shut_42 : lk 42 C_X11_shut = some (.iconst 0, (0, 0, 0, 0)) := by decide +kernel
theorem s_X11_shut_42 {ca : Nat → List Value → tM → tO} {M : tM} {L : tL} {S : List Value} : rn ca C_X11_shut 42 L S M = rn ca C_X11_shut 43 L (.int (iI 0) :: S) M := (rn_at k_X11_shut_42).trans rfl
theorem k_X11_shut_43 : lk 43 C_X11_shut = some (.iastore, (0, 0, 0, 0)) := by decide +kernel
theorem s_X11_shut_43 {ca : Nat → List Value → tM → tO} {M : tM} {L : tL} {a : Nat} {i x : Int32} {S : List Value} : rn ca C_X11_shut 43 L (.int x :: .int i :: .ref a :: S) M = if akind a = 0 ∧ inb i (alen M a) then rn ca C_X11_shut 44 L S (sI M a i.toInt.toNat x) else none := (rn_at k_X11_shut_43).trans rnx_ite
theorem k_X11_shut_44 : lk 44 C_X11_shut = some (.iload_n 3, (0, 0, 0, 0)) := by decide +kernel
theorem s_X11_shut_44 {ca : Nat → List Value → tM → tO} {M : tM} {a0 a1 a2 : Option Value} {x : Int32} {S : List Value} : rn ca C_X11_shut 44 [a0, a1, a2, some (.int x)] S M = rn ca C_X11_shut 45 [a0, a1, a2, some (.int x)] (.int x :: S) M := (rn_at k_X11_shut_44).trans rfl
theorem k_X11_shut_45 : lk 45 C_X11_shut = some (.ireturn, (0, 0, 0, 0)) := by decide +kernel
theorem s_X11_shut_45 {ca : Nat → List Value → tM → tO} {M : tM} {L : tL} {x : Int32} : rn ca C_X11_shut 45 L [.int x] M = some (some (.int x), M) := (rn_at k_X11_shut_45).trans rfl
theorem k_X11_ask_0 : lk 0 C_X11_ask = some (.iload_n 1, (0, 0, 0, 0)) := by decide +kernel
theorem s_X11_ask_0 {ca : Nat → List Value → tM → tO} {M : tM} {a0 a2 : Option Value} {x : Int32} {S : List Value} : rn ca C_X11_ask 0 [a0, some (.int x), a2] S M = rn ca C_X11_ask 1 [a0, some (.int x), a2] (.int x :: S) M := (rn_at k_X11_ask_0).trans rfl
theorem k_X11_ask_1 : lk 1 C_X11_ask = some (.i2l, (0, 0, 0, 0)) := by decide +kernel
theorem s_X11_ask_1 {ca : Nat → List Value → tM → tO} {M : tM} {L : tL} {x : Int32} {S : List Value} : rn ca C_X11_ask 1 L (.int x :: S) M = rn ca C_X11_ask 2 L (.long x.toInt64 :: S) M := (rn_at k_X11_ask_1).trans rfl
theorem k_X11_ask_2 : lk 2 C_X11_ask = some (.lconst 1, (0, 0, 0, 0)) := by decide +kernel
theorem s_X11_ask_2 {ca : Nat → List Value → tM → tO} {M : tM} {L : tL} {S : List Value} : rn ca C_X11_ask 2 L S M = rn ca C_X11_ask 3 L (.long (jJ 1) :: S) M := (rn_at k_X11_ask_2).trans rfl
theorem k_X11_ask_3 : lk 3 C_X11_ask = some (.ldc2_w 99, (0, 0, 9, 396)) := by decide +kernel
theorem s_X11_ask_3 {ca : Nat → List Value → tM → tO} {M : tM} {L : tL} {S : List Value} : rn ca C_X11_ask 3 L S M = rn ca C_X11_ask 6 L (.long (jJ 9) :: S) M := (rn_at k_X11_ask_3).trans rfl
theorem k_X11_ask_6 : lk 6 C_X11_ask = some (.invokestatic 87, (143, 3, 0, 197)) := by decide +kernel
theorem s_X11_ask_6 {ca : Nat → List Value → tM → tO} {M : tM} {L : tL} {v1 v2 v3 : Value} : rn ca C_X11_ask 6 L [v3, v2, v1] M = rnk ca C_X11_ask 9 L [] (ca m_X11_isIn [v1, v2, v3] M) := (rn_at k_X11_ask_6).trans rfl
theorem k_X11_ask_9 : lk 9 C_X11_ask = some (.ifCond .ne 10, (19, 0, 0, 0)) := by decide +kernel
theorem s_X11_ask_9 {ca : Nat → List Value → tM → tO} {M : tM} {L : tL} {x : Int32} {S : List Value} : rn ca C_X11_ask 9 L (.int x :: S) M = if ¬ x = iI 0 then rn ca C_X11_ask 19 L S M else rn ca C_X11_ask 12 L S M := (rn_at k_X11_ask_9).trans rnx_ite
theorem k_X11_ask_12 : lk 12 C_X11_ask = some (.aload_n 0, (0, 0, 0, 0)) := by decide +kernel
theorem s_X11_ask_12 {ca : Nat → List Value → tM → tO} {M : tM} {a1 a2 : Option Value} {x : Nat} {S : List Value} : rn ca C_X11_ask 12 [some (.ref x), a1, a2] S M = rn ca C_X11_ask 13 [some (.ref x), a1, a2] (.ref x :: S) M := (rn_at k_X11_ask_12).trans rfl
theorem k_X11_ask_13 : lk 13 C_X11_ask = some (.bipush (-6), (0, 0, 0, 0)) := by decide +kernel
theorem s_X11_ask_13 {ca : Nat → List Value → tM → tO} {M : tM} {L : tL} {S : List Value} : rn ca C_X11_ask 13 L S M = rn ca C_X11_ask 15 L (.int (iI (-6)) :: S) M := (rn_at k_X11_ask_13).trans rfl
theorem k_X11_ask_15 : lk 15 C_X11_ask = some (.invokevirtual 83, (144, 1, 11, 200)) := by decide +kernel
theorem s_X11_ask_15 {ca : Nat → List Value → tM → tO} {M : tM} {L : tL} {v1 : Value} {b : Nat} : rn ca C_X11_ask 15 L [v1, .ref b] M = if clsO b = some 11 then rnk ca C_X11_ask 18 L [] (ca m_X11_refuse [.ref b, v1] M) else none := (rn_at k_X11_ask_15).trans rnx_ite
theorem k_X11_ask_18 : lk 18 C_X11_ask = some (.ireturn, (0, 0, 0, 0)) := by decide +kernel
theorem s_X11_ask_18 {ca : Nat → List Value → tM → tO} {M : tM} {L : tL} {x : Int32} : rn ca C_X11_ask 18 L [.int x] M = some (some (.int x), M) := (rn_at k_X11_ask_18).trans rfl
theorem k_X11_ask_19 : lk 19 C_X11_ask = some (.aload_n 0, (0, 0, 0, 0)) := by decide +kernel
theorem s_X11_ask_19 {ca : Nat → List Value → tM → tO} {M : tM} {a1 a2 : Option Value} {x : Nat} {S : List Value} : rn ca C_X11_ask 19 [some (.ref x), a1, a2] S M = rn ca C_X11_ask 20 [some (.ref x), a1, a2] (.ref x :: S) M := (rn_at k_X11_ask_19).trans rfl
theorem k_X11_ask_20 : lk 20 C_X11_ask = some (.getfield 17, (11, 1, 0, 147)) := by decide +kernel
theorem s_X11_ask_20 {ca : Nat → List Value → tM → tO} {M : tM} {L : tL} {b : Nat} {S : List Value} : rn ca C_X11_ask 20 L (.ref b :: S) M = if clsO b = some 11 then rn ca C_X11_ask 23 L (fv M b 1 :: S) M else none := (rn_at k_X11_ask_20).trans rnx_ite
theorem k_X11_ask_23 : lk 23 C_X11_ask = some (.bipush 111, (0, 0, 0, 0)) := by decide +kernel
theorem s_X11_ask_23 {ca : Nat → List Value → tM → tO} {M : tM} {L : tL} {S : List Value} : rn ca C_X11_ask 23 L S M = rn ca C_X11_ask 25 L (.int (iI 111) :: S) M := (rn_at k_X11_ask_23).trans rfl
theorem k_X11_ask_25 : lk 25 C_X11_ask = some (.iaload, (0, 0, 0, 0)) := by decide +kernel
theorem s_X11_ask_25 {ca : Nat → List Value → tM → tO} {M : tM} {L : tL} {a : Nat} {i : Int32} {S : List Value} : rn ca C_X11_ask 25 L (.int i :: .ref a :: S) M = if (akind a = 0 ∨ akind a = 6 ∨ akind a = 7) ∧ inb i (alen M a) then rn ca C_X11_ask 26 L (.int (M.1 a i.toInt.toNat) :: S) M else none := (rn_at k_X11_ask_25).trans rnx_ite
theorem k_X11_ask_26 : lk 26 C_X11_ask = some (.istore_n 2, (0, 0, 0, 0)) := by decide +kernel
theorem s_X11_ask_26 {ca : Nat → List Value → tM → tO} {M : tM} {a0 a1 a2 : Option Value} {x : Int32} {S : List Value} : rn ca C_X11_ask 26 [a0, a1, a2] (.int x :: S) M = rn ca C_X11_ask 27 [a0, a1, some (.int x)] S M := (rn_at k_X11_ask_26).trans rfl
theorem k_X11_ask_27 : lk 27 C_X11_ask = some (.aload_n 0, (0, 0, 0, 0)) := by decide +kernel
theorem s_X11_ask_27 {ca : Nat → List Value → tM → tO} {M : tM} {a1 a2 : Option Value} {x : Nat} {S : List Value} : rn ca C_X11_ask 27 [some (.ref x), a1, a2] S M = rn ca C_X11_ask 28 [some (.ref x), a1, a2] (.ref x :: S) M := (rn_at k_X11_ask_27).trans rfl
theorem k_X11_ask_28 : lk 28 C_X11_ask = some (.getfield 17, (11, 1, 0, 147)) := by decide +kernel
theorem s_X11_ask_28 {ca : Nat → List Value → tM → tO} {M : tM} {L : tL} {b : Nat} {S : List Value} : rn ca C_X11_ask 28 L (.ref b :: S) M = if clsO b = some 11 then rn ca C_X11_ask 31 L (fv M b 1 :: S) M else none := (rn_at k_X11_ask_28).trans rnx_ite
theorem k_X11_ask_31 : lk 31 C_X11_ask = some (.bipush 111, (0, 0, 0, 0)) := by decide +kernel
theorem s_X11_ask_31 {ca : Nat → List Value → tM → tO} {M : tM} {L : tL} {S : List Value} : rn ca C_X11_ask 31 L S M = rn ca C_X11_ask 33 L (.int (iI 111) :: S) M := (rn_at k_X11_ask_31).trans rfl
theorem k_X11_ask_33 : lk 33 C_X11_ask = some (.iload_n 1, (0, 0, 0, 0)) := by decide +kernel
theorem s_X11_ask_33 {ca : Nat → List Value → tM → tO} {M : tM} {a0 a2 : Option Value} {x : Int32} {S : List Value} : rn ca C_X11_ask 33 [a0, some (.int x), a2] S M = rn ca C_X11_ask 34 [a0, some (.int x), a2] (.int x :: S) M := (rn_at k_X11_ask_33).trans rfl
theorem k_X11_ask_34 : lk 34 C_X11_ask = some (.iastore, (0, 0, 0, 0)) := by decide +kernel
theorem s_X11_ask_34 {ca : Nat → List Value → tM → tO} {M : tM} {L : tL} {a : Nat} {i x : Int32} {S : List Value} : rn ca C_X11_ask 34 L (.int x :: .int i :: .ref a :: S) M = if akind a = 0 ∧ inb i (alen M a) then rn ca C_X11_ask 35 L S (sI M a i.toInt.toNat x) else none := (rn_at k_X11_ask_34).trans rnx_ite
theorem k_X11_ask_35 : lk 35 C_X11_ask = some (.iload_n 2, (0, 0, 0, 0)) := by decide +kernel
theorem s_X11_ask_35 {ca : Nat → List Value → tM → tO} {M : tM} {a0 a1 : Option Value} {x : Int32} {S : List Value} : rn ca C_X11_ask 35 [a0, a1, some (.int x)] S M = rn ca C_X11_ask 36 [a0, a1, some (.int x)] (.int x :: S) M := (rn_at k_X11_ask_35).trans rfl
theorem k_X11_ask_36 : lk 36 C_X11_ask = some (.ireturn, (0, 0, 0, 0)) := by decide +kernel
theorem s_X11_ask_36 {ca : Nat → List Value → tM → tO} {M : tM} {L : tL} {x : Int32} : rn ca C_X11_ask 36 L [.int x] M = some (some (.int x), M) := (rn_at k_X11_ask_36).trans rfl
theorem k_X11_capsuleOf_0 : lk 0 C_X11_capsuleOf = some (.aload_n 0, (0, 0, 0, 0)) := by decide +kernel
theorem s_X11_capsuleOf_0 {ca : Nat → List Value → tM → tO} {M : tM} {a1 a2 : Option Value} {x : Nat} {S : List Value} : rn ca C_X11_capsuleOf 0 [some (.ref x), a1, a2] S M = rn ca C_X11_capsuleOf 1 [some (.ref x), a1, a2] (.ref x :: S) M := (rn_at k_X11_capsuleOf_0).trans rfl
theorem k_X11_capsuleOf_1 : lk 1 C_X11_capsuleOf = some (.iload_n 1, (0, 0, 0, 0)) := by decide +kernel
theorem s_X11_capsuleOf_1 {ca : Nat → List Value → tM → tO} {M : tM} {a0 a2 : Option Value} {x : Int32} {S : List Value} : rn ca C_X11_capsuleOf 1 [a0, some (.int x), a2] S M = rn ca C_X11_capsuleOf 2 [a0, some (.int x), a2] (.int x :: S) M := (rn_at k_X11_capsuleOf_1).trans rfl
theorem k_X11_capsuleOf_2 : lk 2 C_X11_capsuleOf = some (.i2l, (0, 0, 0, 0)) := by decide +kernel
theorem s_X11_capsuleOf_2 {ca : Nat → List Value → tM → tO} {M : tM} {L : tL} {x : Int32} {S : List Value} : rn ca C_X11_capsuleOf 2 L (.int x :: S) M = rn ca C_X11_capsuleOf 3 L (.long x.toInt64 :: S) M := (rn_at k_X11_capsuleOf_2).trans rfl
theorem k_X11_capsuleOf_3 : lk 3 C_X11_capsuleOf = some (.invokevirtual 114, (149, 1, 11, 302)) := by decide +kernel
theorem s_X11_capsuleOf_3 {ca : Nat → List Value → tM → tO} {M : tM} {L : tL} {v1 : Value} {b : Nat} : rn ca C_X11_capsuleOf 3 L [v1, .ref b] M = if clsO b = some 11 then rnk ca C_X11_capsuleOf 6 L [] (ca m_X11_isCapsule [.ref b, v1] M) else none := (rn_at k_X11_capsuleOf_3).trans rnx_ite
theorem k_X11_capsuleOf_6 : lk 6 C_X11_capsuleOf = some (.ifCond .eq 31, (37, 0, 0, 0)) := by decide +kernel
theorem s_X11_capsuleOf_6 {ca : Nat → List Value → tM → tO} {M : tM} {L : tL} {x : Int32} {S : List Value} : rn ca C_X11_capsuleOf 6 L (.int x :: S) M = if x = iI 0 then rn ca C_X11_capsuleOf 37 L S M else rn ca C_X11_capsuleOf 9 L S M := (rn_at k_X11_capsuleOf_6).trans rnx_ite
theorem k_X11_capsuleOf_9 : lk 9 C_X11_capsuleOf = some (.iload_n 2, (0, 0, 0, 0)) := by decide +kernel
theorem s_X11_capsuleOf_9 {ca : Nat → List Value → tM → tO} {M : tM} {a0 a1 : Option Value} {x : Int32} {S : List Value} : rn ca C_X11_capsuleOf 9 [a0, a1, some (.int x)] S M = rn ca C_X11_capsuleOf 10 [a0, a1, some (.int x)] (.int x :: S) M := (rn_at k_X11_capsuleOf_9).trans rfl
theorem k_X11_capsuleOf_10 : lk 10 C_X11_capsuleOf = some (.i2l, (0, 0, 0, 0)) := by decide +kernel
theorem s_X11_capsuleOf_10 {ca : Nat → List Value → tM → tO} {M : tM} {L : tL} {x : Int32} {S : List Value} : rn ca C_X11_capsuleOf 10 L (.int x :: S) M = rn ca C_X11_capsuleOf 11 L (.long x.toInt64 :: S) M := (rn_at k_X11_capsuleOf_10).trans rfl
theorem k_X11_capsuleOf_11 : lk 11 C_X11_capsuleOf = some (.lconst 0, (0, 0, 0, 0)) := by decide +kernel
theorem s_X11_capsuleOf_11 {ca : Nat → List Value → tM → tO} {M : tM} {L : tL} {S : List Value} : rn ca C_X11_capsuleOf 11 L S M = rn ca C_X11_capsuleOf 12 L (.long (jJ 0) :: S) M := (rn_at k_X11_capsuleOf_11).trans rfl
theorem k_X11_capsuleOf_12 : lk 12 C_X11_capsuleOf = some (.ldc2_w 117, (0, 0, 3, 192)) := by decide +kernel
theorem s_X11_capsuleOf_12 {ca : Nat → List Value → tM → tO} {M : tM} {L : tL} {S : List Value} : rn ca C_X11_capsuleOf 12 L S M = rn ca C_X11_capsuleOf 15 L (.long (jJ 3) :: S) M := (rn_at k_X11_capsuleOf_12).trans rfl
theorem k_X11_capsuleOf_15 : lk 15 C_X11_capsuleOf = some (.invokestatic 87, (143, 3, 0, 197)) := by decide +kernel
theorem s_X11_capsuleOf_15 {ca : Nat → List Value → tM → tO} {M : tM} {L : tL} {v1 v2 v3 : Value} : rn ca C_X11_capsuleOf 15 L [v3, v2, v1] M = rnk ca C_X11_capsuleOf 18 L [] (ca m_X11_isIn [v1, v2, v3] M) := (rn_at k_X11_capsuleOf_15).trans rfl
theorem k_X11_capsuleOf_18 : lk 18 C_X11_capsuleOf = some (.ifCond .eq 19, (37, 0, 0, 0)) := by decide +kernel
theorem s_X11_capsuleOf_18 {ca : Nat → List Value → tM → tO} {M : tM} {L : tL} {x : Int32} {S : List Value} : rn ca C_X11_capsuleOf 18 L (.int x :: S) M = if x = iI 0 then rn ca C_X11_capsuleOf 37 L S M else rn ca C_X11_capsuleOf 21 L S M := (rn_at k_X11_capsuleOf_18).trans rnx_ite
theorem k_X11_capsuleOf_21 : lk 21 C_X11_capsuleOf = some (.aload_n 0, (0, 0, 0, 0)) := by decide +kernel
theorem s_X11_capsuleOf_21 {ca : Nat → List Value → tM → tO} {M : tM} {a1 a2 : Option Value} {x : Nat} {S : List Value} : rn ca C_X11_capsuleOf 21 [some (.ref x), a1, a2] S M = rn ca C_X11_capsuleOf 22 [some (.ref x), a1, a2] (.ref x :: S) M := (rn_at k_X11_capsuleOf_21).trans rfl
theorem k_X11_capsuleOf_22 : lk 22 C_X11_capsuleOf = some (.getfield 17, (11, 1, 0, 147)) := by decide +kernel
theorem s_X11_capsuleOf_22 {ca : Nat → List Value → tM → tO} {M : tM} {L : tL} {b : Nat} {S : List Value} : rn ca C_X11_capsuleOf 22 L (.ref b :: S) M = if clsO b = some 11 then rn ca C_X11_capsuleOf 25 L (fv M b 1 :: S) M else none := (rn_at k_X11_capsuleOf_22).trans rnx_ite
theorem k_X11_capsuleOf_25 : lk 25 C_X11_capsuleOf = some (.bipush 88, (0, 0, 0, 0)) := by decide +kernel
theorem s_X11_capsuleOf_25 {ca : Nat → List Value → tM → tO} {M : tM} {L : tL} {S : List Value} : rn ca C_X11_capsuleOf 25 L S M = rn ca C_X11_capsuleOf 27 L (.int (iI 88) :: S) M := (rn_at k_X11_capsuleOf_25).trans rfl
theorem k_X11_capsuleOf_27 : lk 27 C_X11_capsuleOf = some (.iconst 4, (0, 0, 0, 0)) := by decide +kernel
theorem s_X11_capsuleOf_27 {ca : Nat → List Value → tM → tO} {M : tM} {L : tL} {S : List Value} : rn ca C_X11_capsuleOf 27 L S M = rn ca C_X11_capsuleOf 28 L (.int (iI 4) :: S) M := (rn_at k_X11_capsuleOf_27).trans rfl
theorem k_X11_capsuleOf_28 : lk 28 C_X11_capsuleOf = some (.iload_n 1, (0, 0, 0, 0)) := by decide +kernel
theorem s_X11_capsuleOf_28 {ca : Nat → List Value → tM → tO} {M : tM} {a0 a2 : Option Value} {x : Int32} {S : List Value} : rn ca C_X11_capsuleOf 28 [a0, some (.int x), a2] S M = rn ca C_X11_capsuleOf 29 [a0, some (.int x), a2] (.int x :: S) M := (rn_at k_X11_capsuleOf_28).trans rfl
theorem k_X11_capsuleOf_29 : lk 29 C_X11_capsuleOf = some (.imul, (0, 0, 0, 0)) := by decide +kernel
theorem s_X11_capsuleOf_29 {ca : Nat → List Value → tM → tO} {M : tM} {L : tL} {x y : Int32} {S : List Value} : rn ca C_X11_capsuleOf 29 L (.int y :: .int x :: S) M = rn ca C_X11_capsuleOf 30 L (.int (x * y) :: S) M := (rn_at k_X11_capsuleOf_29).trans rfl
theorem k_X11_capsuleOf_30 : lk 30 C_X11_capsuleOf = some (.iadd, (0, 0, 0, 0)) := by decide +kernel
theorem s_X11_capsuleOf_30 {ca : Nat → List Value → tM → tO} {M : tM} {L : tL} {x y : Int32} {S : List Value} : rn ca C_X11_capsuleOf 30 L (.int y :: .int x :: S) M = rn ca C_X11_capsuleOf 31 L (.int (x + y) :: S) M := (rn_at k_X11_capsuleOf_30).trans rfl
theorem k_X11_capsuleOf_31 : lk 31 C_X11_capsuleOf = some (.iload_n 2, (0, 0, 0, 0)) := by decide +kernel
theorem s_X11_capsuleOf_31 {ca : Nat → List Value → tM → tO} {M : tM} {a0 a1 : Option Value} {x : Int32} {S : List Value} : rn ca C_X11_capsuleOf 31 [a0, a1, some (.int x)] S M = rn ca C_X11_capsuleOf 32 [a0, a1, some (.int x)] (.int x :: S) M := (rn_at k_X11_capsuleOf_31).trans rfl
theorem k_X11_capsuleOf_32 : lk 32 C_X11_capsuleOf = some (.iadd, (0, 0, 0, 0)) := by decide +kernel
theorem s_X11_capsuleOf_32 {ca : Nat → List Value → tM → tO} {M : tM} {L : tL} {x y : Int32} {S : List Value} : rn ca C_X11_capsuleOf 32 L (.int y :: .int x :: S) M = rn ca C_X11_capsuleOf 33 L (.int (x + y) :: S) M := (rn_at k_X11_capsuleOf_32).trans rfl
theorem k_X11_capsuleOf_33 : lk 33 C_X11_capsuleOf = some (.iaload, (0, 0, 0, 0)) := by decide +kernel
theorem s_X11_capsuleOf_33 {ca : Nat → List Value → tM → tO} {M : tM} {L : tL} {a : Nat} {i : Int32} {S : List Value} : rn ca C_X11_capsuleOf 33 L (.int i :: .ref a :: S) M = if (akind a = 0 ∨ akind a = 6 ∨ akind a = 7) ∧ inb i (alen M a) then rn ca C_X11_capsuleOf 34 L (.int (M.1 a i.toInt.toNat) :: S) M else none := (rn_at k_X11_capsuleOf_33).trans rnx_ite
theorem k_X11_capsuleOf_34 : lk 34 C_X11_capsuleOf = some (.goto 9, (43, 0, 0, 0)) := by decide +kernel
theorem s_X11_capsuleOf_34 {ca : Nat → List Value → tM → tO} {M : tM} {L : tL} {S : List Value} : rn ca C_X11_capsuleOf 34 L S M = rn ca C_X11_capsuleOf 43 L S M := (rn_at k_X11_capsuleOf_34).trans rfl
theorem k_X11_capsuleOf_37 : lk 37 C_X11_capsuleOf = some (.aload_n 0, (0, 0, 0, 0)) := by decide +kernel
theorem s_X11_capsuleOf_37 {ca : Nat → List Value → tM → tO} {M : tM} {a1 a2 : Option Value} {x : Nat} {S : List Value} : rn ca C_X11_capsuleOf 37 [some (.ref x), a1, a2] S M = rn ca C_X11_capsuleOf 38 [some (.ref x), a1, a2] (.ref x :: S) M := (rn_at k_X11_capsuleOf_37).trans rfl
theorem k_X11_capsuleOf_38 : lk 38 C_X11_capsuleOf = some (.bipush (-5), (0, 0, 0, 0)) := by decide +kernel
theorem s_X11_capsuleOf_38 {ca : Nat → List Value → tM → tO} {M : tM} {L : tL} {S : List Value} : rn ca C_X11_capsuleOf 38 L S M = rn ca C_X11_capsuleOf 40 L (.int (iI (-5)) :: S) M := (rn_at k_X11_capsuleOf_38).trans rfl
theorem k_X11_capsuleOf_40 : lk 40 C_X11_capsuleOf = some (.invokevirtual 83, (144, 1, 11, 200)) := by decide +kernel
theorem s_X11_capsuleOf_40 {ca : Nat → List Value → tM → tO} {M : tM} {L : tL} {v1 : Value} {b : Nat} : rn ca C_X11_capsuleOf 40 L [v1, .ref b] M = if clsO b = some 11 then rnk ca C_X11_capsuleOf 43 L [] (ca m_X11_refuse [.ref b, v1] M) else none := (rn_at k_X11_capsuleOf_40).trans rnx_ite
theorem k_X11_capsuleOf_43 : lk 43 C_X11_capsuleOf = some (.ireturn, (0, 0, 0, 0)) := by decide +kernel
theorem s_X11_capsuleOf_43 {ca : Nat → List Value → tM → tO} {M : tM} {L : tL} {x : Int32} : rn ca C_X11_capsuleOf 43 L [.int x] M = some (some (.int x), M) := (rn_at k_X11_capsuleOf_43).trans rfl
theorem k_X11_tubeOf_0 : lk 0 C_X11_tubeOf = some (.aload_n 0, (0, 0, 0, 0)) := by decide +kernel
theorem s_X11_tubeOf_0 {ca : Nat → List Value → tM → tO} {M : tM} {a1 a2 : Option Value} {x : Nat} {S : List Value} : rn ca C_X11_tubeOf 0 [some (.ref x), a1, a2] S M = rn ca C_X11_tubeOf 1 [some (.ref x), a1, a2] (.ref x :: S) M := (rn_at k_X11_tubeOf_0).trans rfl
theorem k_X11_tubeOf_1 : lk 1 C_X11_tubeOf = some (.iload_n 1, (0, 0, 0, 0)) := by decide +kernel
theorem s_X11_tubeOf_1 {ca : Nat → List Value → tM → tO} {M : tM} {a0 a2 : Option Value} {x : Int32} {S : List Value} : rn ca C_X11_tubeOf 1 [a0, some (.int x), a2] S M = rn ca C_X11_tubeOf 2 [a0, some (.int x), a2] (.int x :: S) M := (rn_at k_X11_tubeOf_1).trans rfl
theorem k_X11_tubeOf_2 : lk 2 C_X11_tubeOf = some (.invokevirtual 110, (148, 1, 11, 440)) := by decide +kernel
theorem s_X11_tubeOf_2 {ca : Nat → List Value → tM → tO} {M : tM} {L : tL} {v1 : Value} {b : Nat} : rn ca C_X11_tubeOf 2 L [v1, .ref b] M = if clsO b = some 11 then rnk ca C_X11_tubeOf 5 L [] (ca m_X11_isTube [.ref b, v1] M) else none := (rn_at k_X11_tubeOf_2).trans rnx_ite
theorem k_X11_tubeOf_5 : lk 5 C_X11_tubeOf = some (.ifCond .eq 28, (33, 0, 0, 0)) := by decide +kernel
theorem s_X11_tubeOf_5 {ca : Nat → List Value → tM → tO} {M : tM} {L : tL} {x : Int32} {S : List Value} : rn ca C_X11_tubeOf 5 L (.int x :: S) M = if x = iI 0 then rn ca C_X11_tubeOf 33 L S M else rn ca C_X11_tubeOf 8 L S M := (rn_at k_X11_tubeOf_5).trans rnx_ite
theorem k_X11_tubeOf_8 : lk 8 C_X11_tubeOf = some (.iload_n 2, (0, 0, 0, 0)) := by decide +kernel
theorem s_X11_tubeOf_8 {ca : Nat → List Value → tM → tO} {M : tM} {a0 a1 : Option Value} {x : Int32} {S : List Value} : rn ca C_X11_tubeOf 8 [a0, a1, some (.int x)] S M = rn ca C_X11_tubeOf 9 [a0, a1, some (.int x)] (.int x :: S) M := (rn_at k_X11_tubeOf_8).trans rfl
theorem k_X11_tubeOf_9 : lk 9 C_X11_tubeOf = some (.i2l, (0, 0, 0, 0)) := by decide +kernel
theorem s_X11_tubeOf_9 {ca : Nat → List Value → tM → tO} {M : tM} {L : tL} {x : Int32} {S : List Value} : rn ca C_X11_tubeOf 9 L (.int x :: S) M = rn ca C_X11_tubeOf 10 L (.long x.toInt64 :: S) M := (rn_at k_X11_tubeOf_9).trans rfl
theorem k_X11_tubeOf_10 : lk 10 C_X11_tubeOf = some (.lconst 0, (0, 0, 0, 0)) := by decide +kernel
theorem s_X11_tubeOf_10 {ca : Nat → List Value → tM → tO} {M : tM} {L : tL} {S : List Value} : rn ca C_X11_tubeOf 10 L S M = rn ca C_X11_tubeOf 11 L (.long (jJ 0) :: S) M := (rn_at k_X11_tubeOf_10).trans rfl
theorem k_X11_tubeOf_11 : lk 11 C_X11_tubeOf = some (.ldc2_w 119, (0, 0, 4, 468)) := by decide +kernel
theorem s_X11_tubeOf_11 {ca : Nat → List Value → tM → tO} {M : tM} {L : tL} {S : List Value} : rn ca C_X11_tubeOf 11 L S M = rn ca C_X11_tubeOf 14 L (.long (jJ 4) :: S) M := (rn_at k_X11_tubeOf_11).trans rfl
theorem k_X11_tubeOf_14 : lk 14 C_X11_tubeOf = some (.invokestatic 87, (143, 3, 0, 197)) := by decide +kernel
theorem s_X11_tubeOf_14 {ca : Nat → List Value → tM → tO} {M : tM} {L : tL} {v1 v2 v3 : Value} : rn ca C_X11_tubeOf 14 L [v3, v2, v1] M = rnk ca C_X11_tubeOf 17 L [] (ca m_X11_isIn [v1, v2, v3] M) := (rn_at k_X11_tubeOf_14).trans rfl
theorem k_X11_tubeOf_17 : lk 17 C_X11_tubeOf = some (.ifCond .eq 16, (33, 0, 0, 0)) := by decide +kernel
theorem s_X11_tubeOf_17 {ca : Nat → List Value → tM → tO} {M : tM} {L : tL} {x : Int32} {S : List Value} : rn ca C_X11_tubeOf 17 L (.int x :: S) M = if x = iI 0 then rn ca C_X11_tubeOf 33 L S M else rn ca C_X11_tubeOf 20 L S M := (rn_at k_X11_tubeOf_17).trans rnx_ite
theorem k_X11_tubeOf_20 : lk 20 C_X11_tubeOf = some (.aload_n 0, (0, 0, 0, 0)) := by decide +kernel
theorem s_X11_tubeOf_20 {ca : Nat → List Value → tM → tO} {M : tM} {a1 a2 : Option Value} {x : Nat} {S : List Value} : rn ca C_X11_tubeOf 20 [some (.ref x), a1, a2] S M = rn ca C_X11_tubeOf 21 [some (.ref x), a1, a2] (.ref x :: S) M := (rn_at k_X11_tubeOf_20).trans rfl
theorem k_X11_tubeOf_21 : lk 21 C_X11_tubeOf = some (.getfield 17, (11, 1, 0, 147)) := by decide +kernel
theorem s_X11_tubeOf_21 {ca : Nat → List Value → tM → tO} {M : tM} {L : tL} {b : Nat} {S : List Value} : rn ca C_X11_tubeOf 21 L (.ref b :: S) M = if clsO b = some 11 then rn ca C_X11_tubeOf 24 L (fv M b 1 :: S) M else none := (rn_at k_X11_tubeOf_21).trans rnx_ite
theorem k_X11_tubeOf_24 : lk 24 C_X11_tubeOf = some (.iconst 5, (0, 0, 0, 0)) := by decide +kernel
theorem s_X11_tubeOf_24 {ca : Nat → List Value → tM → tO} {M : tM} {L : tL} {S : List Value} : rn ca C_X11_tubeOf 24 L S M = rn ca C_X11_tubeOf 25 L (.int (iI 5) :: S) M := (rn_at k_X11_tubeOf_24).trans rfl
theorem k_X11_tubeOf_25 : lk 25 C_X11_tubeOf = some (.iload_n 1, (0, 0, 0, 0)) := by decide +kernel
theorem s_X11_tubeOf_25 {ca : Nat → List Value → tM → tO} {M : tM} {a0 a2 : Option Value} {x : Int32} {S : List Value} : rn ca C_X11_tubeOf 25 [a0, some (.int x), a2] S M = rn ca C_X11_tubeOf 26 [a0, some (.int x), a2] (.int x :: S) M := (rn_at k_X11_tubeOf_25).trans rfl
theorem k_X11_tubeOf_26 : lk 26 C_X11_tubeOf = some (.imul, (0, 0, 0, 0)) := by decide +kernel
theorem s_X11_tubeOf_26 {ca : Nat → List Value → tM → tO} {M : tM} {L : tL} {x y : Int32} {S : List Value} : rn ca C_X11_tubeOf 26 L (.int y :: .int x :: S) M = rn ca C_X11_tubeOf 27 L (.int (x * y) :: S) M := (rn_at k_X11_tubeOf_26).trans rfl
theorem k_X11_tubeOf_27 : lk 27 C_X11_tubeOf = some (.iload_n 2, (0, 0, 0, 0)) := by decide +kernel
theorem s_X11_tubeOf_27 {ca : Nat → List Value → tM → tO} {M : tM} {a0 a1 : Option Value} {x : Int32} {S : List Value} : rn ca C_X11_tubeOf 27 [a0, a1, some (.int x)] S M = rn ca C_X11_tubeOf 28 [a0, a1, some (.int x)] (.int x :: S) M := (rn_at k_X11_tubeOf_27).trans rfl
theorem k_X11_tubeOf_28 : lk 28 C_X11_tubeOf = some (.iadd, (0, 0, 0, 0)) := by decide +kernel
theorem s_X11_tubeOf_28 {ca : Nat → List Value → tM → tO} {M : tM} {L : tL} {x y : Int32} {S : List Value} : rn ca C_X11_tubeOf 28 L (.int y :: .int x :: S) M = rn ca C_X11_tubeOf 29 L (.int (x + y) :: S) M := (rn_at k_X11_tubeOf_28).trans rfl
theorem k_X11_tubeOf_29 : lk 29 C_X11_tubeOf = some (.iaload, (0, 0, 0, 0)) := by decide +kernel
theorem s_X11_tubeOf_29 {ca : Nat → List Value → tM → tO} {M : tM} {L : tL} {a : Nat} {i : Int32} {S : List Value} : rn ca C_X11_tubeOf 29 L (.int i :: .ref a :: S) M = if (akind a = 0 ∨ akind a = 6 ∨ akind a = 7) ∧ inb i (alen M a) then rn ca C_X11_tubeOf 30 L (.int (M.1 a i.toInt.toNat) :: S) M else none := (rn_at k_X11_tubeOf_29).trans rnx_ite
theorem k_X11_tubeOf_30 : lk 30 C_X11_tubeOf = some (.goto 9, (39, 0, 0, 0)) := by decide +kernel
theorem s_X11_tubeOf_30 {ca : Nat → List Value → tM → tO} {M : tM} {L : tL} {S : List Value} : rn ca C_X11_tubeOf 30 L S M = rn ca C_X11_tubeOf 39 L S M := (rn_at k_X11_tubeOf_30).trans rfl
theorem k_X11_tubeOf_33 : lk 33 C_X11_tubeOf = some (.aload_n 0, (0, 0, 0, 0)) := by decide +kernel
theorem s_X11_tubeOf_33 {ca : Nat → List Value → tM → tO} {M : tM} {a1 a2 : Option Value} {x : Nat} {S : List Value} : rn ca C_X11_tubeOf 33 [some (.ref x), a1, a2] S M = rn ca C_X11_tubeOf 34 [some (.ref x), a1, a2] (.ref x :: S) M := (rn_at k_X11_tubeOf_33).trans rfl
theorem k_X11_tubeOf_34 : lk 34 C_X11_tubeOf = some (.bipush (-5), (0, 0, 0, 0)) := by decide +kernel
theorem s_X11_tubeOf_34 {ca : Nat → List Value → tM → tO} {M : tM} {L : tL} {S : List Value} : rn ca C_X11_tubeOf 34 L S M = rn ca C_X11_tubeOf 36 L (.int (iI (-5)) :: S) M := (rn_at k_X11_tubeOf_34).trans rfl
theorem k_X11_tubeOf_36 : lk 36 C_X11_tubeOf = some (.invokevirtual 83, (144, 1, 11, 200)) := by decide +kernel
theorem s_X11_tubeOf_36 {ca : Nat → List Value → tM → tO} {M : tM} {L : tL} {v1 : Value} {b : Nat} : rn ca C_X11_tubeOf 36 L [v1, .ref b] M = if clsO b = some 11 then rnk ca C_X11_tubeOf 39 L [] (ca m_X11_refuse [.ref b, v1] M) else none := (rn_at k_X11_tubeOf_36).trans rnx_ite
theorem k_X11_tubeOf_39 : lk 39 C_X11_tubeOf = some (.ireturn, (0, 0, 0, 0)) := by decide +kernel
theorem s_X11_tubeOf_39 {ca : Nat → List Value → tM → tO} {M : tM} {L : tL} {x : Int32} : rn ca C_X11_tubeOf 39 L [.int x] M = some (some (.int x), M) := (rn_at k_X11_tubeOf_39).trans rfl
theorem k_X11_signed_0 : lk 0 C_X11_signed = some (.aload_n 0, (0, 0, 0, 0)) := by decide +kernel
theorem s_X11_signed_0 {ca : Nat → List Value → tM → tO} {M : tM} {a1 : Option Value} {x : Nat} {S : List Value} : rn ca C_X11_signed 0 [some (.ref x), a1] S M = rn ca C_X11_signed 1 [some (.ref x), a1] (.ref x :: S) M := (rn_at k_X11_signed_0).trans rfl
theorem k_X11_signed_1 : lk 1 C_X11_signed = some (.iload_n 1, (0, 0, 0, 0)) := by decide +kernel
theorem s_X11_signed_1 {ca : Nat → List Value → tM → tO} {M : tM} {a0 : Option Value} {x : Int32} {S : List Value} : rn ca C_X11_signed 1 [a0, some (.int x)] S M = rn ca C_X11_signed 2 [a0, some (.int x)] (.int x :: S) M := (rn_at k_X11_signed_1).trans rfl
theorem k_X11_signed_2 : lk 2 C_X11_signed = some (.i2l, (0, 0, 0, 0)) := by decide +kernel
theorem s_X11_signed_2 {ca : Nat → List Value → tM → tO} {M : tM} {L : tL} {x : Int32} {S : List Value} : rn ca C_X11_signed 2 L (.int x :: S) M = rn ca C_X11_signed 3 L (.long x.toInt64 :: S) M := (rn_at k_X11_signed_2).trans rfl
theorem k_X11_signed_3 : lk 3 C_X11_signed = some (.invokevirtual 95, (147, 1, 11, 397)) := by decide +kernel
theorem s_X11_signed_3 {ca : Nat → List Value → tM → tO} {M : tM} {L : tL} {v1 : Value} {b : Nat} : rn ca C_X11_signed 3 L [v1, .ref b] M = if clsO b = some 11 then rnk ca C_X11_signed 6 L [] (ca m_X11_isDesk [.ref b, v1] M) else none := (rn_at k_X11_signed_3).trans rnx_ite
theorem k_X11_signed_6 : lk 6 C_X11_signed = some (.ifCond .eq 15, (21, 0, 0, 0)) := by decide +kernel
theorem s_X11_signed_6 {ca : Nat → List Value → tM → tO} {M : tM} {L : tL} {x : Int32} {S : List Value} : rn ca C_X11_signed 6 L (.int x :: S) M = if x = iI 0 then rn ca C_X11_signed 21 L S M else rn ca C_X11_signed 9 L S M := (rn_at k_X11_signed_6).trans rnx_ite
theorem k_X11_signed_9 : lk 9 C_X11_signed = some (.aload_n 0, (0, 0, 0, 0)) := by decide +kernel
theorem s_X11_signed_9 {ca : Nat → List Value → tM → tO} {M : tM} {a1 : Option Value} {x : Nat} {S : List Value} : rn ca C_X11_signed 9 [some (.ref x), a1] S M = rn ca C_X11_signed 10 [some (.ref x), a1] (.ref x :: S) M := (rn_at k_X11_signed_9).trans rfl
theorem k_X11_signed_10 : lk 10 C_X11_signed = some (.getfield 17, (11, 1, 0, 147)) := by decide +kernel
theorem s_X11_signed_10 {ca : Nat → List Value → tM → tO} {M : tM} {L : tL} {b : Nat} {S : List Value} : rn ca C_X11_signed 10 L (.ref b :: S) M = if clsO b = some 11 then rn ca C_X11_signed 13 L (fv M b 1 :: S) M else none := (rn_at k_X11_signed_10).trans rnx_ite
theorem k_X11_signed_13 : lk 13 C_X11_signed = some (.bipush 80, (0, 0, 0, 0)) := by decide +kernel
theorem s_X11_signed_13 {ca : Nat → List Value → tM → tO} {M : tM} {L : tL} {S : List Value} : rn ca C_X11_signed 13 L S M = rn ca C_X11_signed 15 L (.int (iI 80) :: S) M := (rn_at k_X11_signed_13).trans rfl
theorem k_X11_signed_15 : lk 15 C_X11_signed = some (.iload_n 1, (0, 0, 0, 0)) := by decide +kernel
theorem s_X11_signed_15 {ca : Nat → List Value → tM → tO} {M : tM} {a0 : Option Value} {x : Int32} {S : List Value} : rn ca C_X11_signed 15 [a0, some (.int x)] S M = rn ca C_X11_signed 16 [a0, some (.int x)] (.int x :: S) M := (rn_at k_X11_signed_15).trans rfl
theorem k_X11_signed_16 : lk 16 C_X11_signed = some (.iadd, (0, 0, 0, 0)) := by decide +kernel
theorem s_X11_signed_16 {ca : Nat → List Value → tM → tO} {M : tM} {L : tL} {x y : Int32} {S : List Value} : rn ca C_X11_signed 16 L (.int y :: .int x :: S) M = rn ca C_X11_signed 17 L (.int (x + y) :: S) M := (rn_at k_X11_signed_16).trans rfl
theorem k_X11_signed_17 : lk 17 C_X11_signed = some (.iaload, (0, 0, 0, 0)) := by decide +kernel
theorem s_X11_signed_17 {ca : Nat → List Value → tM → tO} {M : tM} {L : tL} {a : Nat} {i : Int32} {S : List Value} : rn ca C_X11_signed 17 L (.int i :: .ref a :: S) M = if (akind a = 0 ∨ akind a = 6 ∨ akind a = 7) ∧ inb i (alen M a) then rn ca C_X11_signed 18 L (.int (M.1 a i.toInt.toNat) :: S) M else none := (rn_at k_X11_signed_17).trans rnx_ite
theorem k_X11_signed_18 : lk 18 C_X11_signed = some (.goto 9, (27, 0, 0, 0)) := by decide +kernel
theorem s_X11_signed_18 {ca : Nat → List Value → tM → tO} {M : tM} {L : tL} {S : List Value} : rn ca C_X11_signed 18 L S M = rn ca C_X11_signed 27 L S M := (rn_at k_X11_signed_18).trans rfl
theorem k_X11_signed_21 : lk 21 C_X11_signed = some (.aload_n 0, (0, 0, 0, 0)) := by decide +kernel
theorem s_X11_signed_21 {ca : Nat → List Value → tM → tO} {M : tM} {a1 : Option Value} {x : Nat} {S : List Value} : rn ca C_X11_signed 21 [some (.ref x), a1] S M = rn ca C_X11_signed 22 [some (.ref x), a1] (.ref x :: S) M := (rn_at k_X11_signed_21).trans rfl
theorem k_X11_signed_22 : lk 22 C_X11_signed = some (.bipush (-5), (0, 0, 0, 0)) := by decide +kernel
theorem s_X11_signed_22 {ca : Nat → List Value → tM → tO} {M : tM} {L : tL} {S : List Value} : rn ca C_X11_signed 22 L S M = rn ca C_X11_signed 24 L (.int (iI (-5)) :: S) M := (rn_at k_X11_signed_22).trans rfl
theorem k_X11_signed_24 : lk 24 C_X11_signed = some (.invokevirtual 83, (144, 1, 11, 200)) := by decide +kernel
theorem s_X11_signed_24 {ca : Nat → List Value → tM → tO} {M : tM} {L : tL} {v1 : Value} {b : Nat} : rn ca C_X11_signed 24 L [v1, .ref b] M = if clsO b = some 11 then rnk ca C_X11_signed 27 L [] (ca m_X11_refuse [.ref b, v1] M) else none := (rn_at k_X11_signed_24).trans rnx_ite
theorem k_X11_signed_27 : lk 27 C_X11_signed = some (.ireturn, (0, 0, 0, 0)) := by decide +kernel
theorem s_X11_signed_27 {ca : Nat → List Value → tM → tO} {M : tM} {L : tL} {x : Int32} : rn ca C_X11_signed 27 L [.int x] M = some (some (.int x), M) := (rn_at k_X11_signed_27).trans rfl
theorem k_X11_isShelf_0 : lk 0 C_X11_isShelf = some (.iload_n 0, (0, 0, 0, 0)) := by decide +kernel
theorem s_X11_isShelf_0 {ca : Nat → List Value → tM → tO} {M : tM} {x : Int32} {S : List Value} : rn ca C_X11_isShelf 0 [some (.int x)] S M = rn ca C_X11_isShelf 1 [some (.int x)] (.int x :: S) M := (rn_at k_X11_isShelf_0).trans rfl
theorem k_X11_isShelf_1 : lk 1 C_X11_isShelf = some (.i2l, (0, 0, 0, 0)) := by decide +kernel
theorem s_X11_isShelf_1 {ca : Nat → List Value → tM → tO} {M : tM} {L : tL} {x : Int32} {S : List Value} : rn ca C_X11_isShelf 1 L (.int x :: S) M = rn ca C_X11_isShelf 2 L (.long x.toInt64 :: S) M := (rn_at k_X11_isShelf_1).trans rfl
theorem k_X11_isShelf_2 : lk 2 C_X11_isShelf = some (.lconst 0, (0, 0, 0, 0)) := by decide +kernel
theorem s_X11_isShelf_2 {ca : Nat → List Value → tM → tO} {M : tM} {L : tL} {S : List Value} : rn ca C_X11_isShelf 2 L S M = rn ca C_X11_isShelf 3 L (.long (jJ 0) :: S) M := (rn_at k_X11_isShelf_2).trans rfl
theorem k_X11_isShelf_3 : lk 3 C_X11_isShelf = some (.ldc2_w 121, (0, 0, 7, 196)) := by decide +kernel
theorem s_X11_isShelf_3 {ca : Nat → List Value → tM → tO} {M : tM} {L : tL} {S : List Value} : rn ca C_X11_isShelf 3 L S M = rn ca C_X11_isShelf 6 L (.long (jJ 7) :: S) M := (rn_at k_X11_isShelf_3).trans rfl
theorem k_X11_isShelf_6 : lk 6 C_X11_isShelf = some (.invokestatic 87, (143, 3, 0, 197)) := by decide +kernel
theorem s_X11_isShelf_6 {ca : Nat → List Value → tM → tO} {M : tM} {L : tL} {v1 v2 v3 : Value} : rn ca C_X11_isShelf 6 L [v3, v2, v1] M = rnk ca C_X11_isShelf 9 L [] (ca m_X11_isIn [v1, v2, v3] M) := (rn_at k_X11_isShelf_6).trans rfl
theorem k_X11_isShelf_9 : lk 9 C_X11_isShelf = some (.ireturn, (1, 0, 0, 0)) := by decide +kernel
theorem s_X11_isShelf_9 {ca : Nat → List Value → tM → tO} {M : tM} {L : tL} {x : Int32} : rn ca C_X11_isShelf 9 L [.int x] M = if x = iI 0 ∨ x = iI 1 then some (some (.int x), M) else none := (rn_at k_X11_isShelf_9).trans rnx_ite
theorem k_X11_row_0 : lk 0 C_X11_row = some (.iload_n 1, (0, 0, 0, 0)) := by decide +kernel
theorem s_X11_row_0 {ca : Nat → List Value → tM → tO} {M : tM} {a0 a2 a3 a4 : Option Value} {x : Int32} {S : List Value} : rn ca C_X11_row 0 [a0, some (.int x), a2, a3, a4] S M = rn ca C_X11_row 1 [a0, some (.int x), a2, a3, a4] (.int x :: S) M := (rn_at k_X11_row_0).trans rfl
theorem k_X11_row_1 : lk 1 C_X11_row = some (.invokestatic 123, (170, 1, 0, 193)) := by decide +kernel
theorem s_X11_row_1 {ca : Nat → List Value → tM → tO} {M : tM} {L : tL} {v1 : Value} : rn ca C_X11_row 1 L [v1] M = rnk ca C_X11_row 4 L [] (ca m_X11_isShelf [v1] M) := (rn_at k_X11_row_1).trans rfl
theorem k_X11_row_4 : lk 4 C_X11_row = some (.ifCond .ne 9, (13, 0, 0, 0)) := by decide +kernel
theorem s_X11_row_4 {ca : Nat → List Value → tM → tO} {M : tM} {L : tL} {x : Int32} {S : List Value} : rn ca C_X11_row 4 L (.int x :: S) M = if ¬ x = iI 0 then rn ca C_X11_row 13 L S M else rn ca C_X11_row 7 L S M := (rn_at k_X11_row_4).trans rnx_ite
theorem k_X11_row_7 : lk 7 C_X11_row = some (.aload_n 0, (0, 0, 0, 0)) := by decide +kernel
theorem s_X11_row_7 {ca : Nat → List Value → tM → tO} {M : tM} {a1 a2 a3 a4 : Option Value} {x : Nat} {S : List Value} : rn ca C_X11_row 7 [some (.ref x), a1, a2, a3, a4] S M = rn ca C_X11_row 8 [some (.ref x), a1, a2, a3, a4] (.ref x :: S) M := (rn_at k_X11_row_7).trans rfl
theorem k_X11_row_8 : lk 8 C_X11_row = some (.iconst (-1), (0, 0, 0, 0)) := by decide +kernel
theorem s_X11_row_8 {ca : Nat → List Value → tM → tO} {M : tM} {L : tL} {S : List Value} : rn ca C_X11_row 8 L S M = rn ca C_X11_row 9 L (.int (iI (-1)) :: S) M := (rn_at k_X11_row_8).trans rfl
theorem k_X11_row_9 : lk 9 C_X11_row = some (.invokevirtual 83, (144, 1, 11, 200)) := by decide +kernel
theorem s_X11_row_9 {ca : Nat → List Value → tM → tO} {M : tM} {L : tL} {v1 : Value} {b : Nat} : rn ca C_X11_row 9 L [v1, .ref b] M = if clsO b = some 11 then rnk ca C_X11_row 12 L [] (ca m_X11_refuse [.ref b, v1] M) else none := (rn_at k_X11_row_9).trans rnx_ite
theorem k_X11_row_12 : lk 12 C_X11_row = some (.ireturn, (0, 0, 0, 0)) := by decide +kernel
theorem s_X11_row_12 {ca : Nat → List Value → tM → tO} {M : tM} {L : tL} {x : Int32} : rn ca C_X11_row 12 L [.int x] M = some (some (.int x), M) := (rn_at k_X11_row_12).trans rfl
theorem k_X11_row_13 : lk 13 C_X11_row = some (.iload_n 3, (0, 0, 0, 0)) := by decide +kernel
theorem s_X11_row_13 {ca : Nat → List Value → tM → tO} {M : tM} {a0 a1 a2 a4 : Option Value} {x : Int32} {S : List Value} : rn ca C_X11_row 13 [a0, a1, a2, some (.int x), a4] S M = rn ca C_X11_row 14 [a0, a1, a2, some (.int x), a4] (.int x :: S) M := (rn_at k_X11_row_13).trans rfl
theorem k_X11_row_14 : lk 14 C_X11_row = some (.ifCond .ge 10, (24, 0, 0, 0)) := by decide +kernel
theorem s_X11_row_14 {ca : Nat → List Value → tM → tO} {M : tM} {L : tL} {x : Int32} {S : List Value} : rn ca C_X11_row 14 L (.int x :: S) M = if iI 0 ≤ x then rn ca C_X11_row 24 L S M else rn ca C_X11_row 17 L S M := (rn_at k_X11_row_14).trans rnx_ite
theorem k_X11_row_17 : lk 17 C_X11_row = some (.aload_n 0, (0, 0, 0, 0)) := by decide +kernel
theorem s_X11_row_17 {ca : Nat → List Value → tM → tO} {M : tM} {a1 a2 a3 a4 : Option Value} {x : Nat} {S : List Value} : rn ca C_X11_row 17 [some (.ref x), a1, a2, a3, a4] S M = rn ca C_X11_row 18 [some (.ref x), a1, a2, a3, a4] (.ref x :: S) M := (rn_at k_X11_row_17).trans rfl
theorem k_X11_row_18 : lk 18 C_X11_row = some (.bipush (-4), (0, 0, 0, 0)) := by decide +kernel
theorem s_X11_row_18 {ca : Nat → List Value → tM → tO} {M : tM} {L : tL} {S : List Value} : rn ca C_X11_row 18 L S M = rn ca C_X11_row 20 L (.int (iI (-4)) :: S) M := (rn_at k_X11_row_18).trans rfl
theorem k_X11_row_20 : lk 20 C_X11_row = some (.invokevirtual 83, (144, 1, 11, 200)) := by decide +kernel
theorem s_X11_row_20 {ca : Nat → List Value → tM → tO} {M : tM} {L : tL} {v1 : Value} {b : Nat} : rn ca C_X11_row 20 L [v1, .ref b] M = if clsO b = some 11 then rnk ca C_X11_row 23 L [] (ca m_X11_refuse [.ref b, v1] M) else none := (rn_at k_X11_row_20).trans rnx_ite
theorem k_X11_row_23 : lk 23 C_X11_row = some (.ireturn, (0, 0, 0, 0)) := by decide +kernel
theorem s_X11_row_23 {ca : Nat → List Value → tM → tO} {M : tM} {L : tL} {x : Int32} : rn ca C_X11_row 23 L [.int x] M = some (some (.int x), M) := (rn_at k_X11_row_23).trans rfl
theorem k_X11_row_24 : lk 24 C_X11_row = some (.iload_n 2, (0, 0, 0, 0)) := by decide +kernel
theorem s_X11_row_24 {ca : Nat → List Value → tM → tO} {M : tM} {a0 a1 a3 a4 : Option Value} {x : Int32} {S : List Value} : rn ca C_X11_row 24 [a0, a1, some (.int x), a3, a4] S M = rn ca C_X11_row 25 [a0, a1, some (.int x), a3, a4] (.int x :: S) M := (rn_at k_X11_row_24).trans rfl
theorem k_X11_row_25 : lk 25 C_X11_row = some (.i2l, (0, 0, 0, 0)) := by decide +kernel
theorem s_X11_row_25 {ca : Nat → List Value → tM → tO} {M : tM} {L : tL} {x : Int32} {S : List Value} : rn ca C_X11_row 25 L (.int x :: S) M = rn ca C_X11_row 26 L (.long x.toInt64 :: S) M := (rn_at k_X11_row_25).trans rfl
theorem k_X11_row_26 : lk 26 C_X11_row = some (.lconst 0, (0, 0, 0, 0)) := by decide +kernel
theorem s_X11_row_26 {ca : Nat → List Value → tM → tO} {M : tM} {L : tL} {S : List Value} : rn ca C_X11_row 26 L S M = rn ca C_X11_row 27 L (.long (jJ 0) :: S) M := (rn_at k_X11_row_26).trans rfl
theorem k_X11_row_27 : lk 27 C_X11_row = some (.ldc2_w 117, (0, 0, 3, 192)) := by decide +kernel
theorem s_X11_row_27 {ca : Nat → List Value → tM → tO} {M : tM} {L : tL} {S : List Value} : rn ca C_X11_row 27 L S M = rn ca C_X11_row 30 L (.long (jJ 3) :: S) M := (rn_at k_X11_row_27).trans rfl
theorem k_X11_row_30 : lk 30 C_X11_row = some (.invokestatic 87, (143, 3, 0, 197)) := by decide +kernel
theorem s_X11_row_30 {ca : Nat → List Value → tM → tO} {M : tM} {L : tL} {v1 v2 v3 : Value} : rn ca C_X11_row 30 L [v3, v2, v1] M = rnk ca C_X11_row 33 L [] (ca m_X11_isIn [v1, v2, v3] M) := (rn_at k_X11_row_30).trans rfl
theorem k_X11_row_33 : lk 33 C_X11_row = some (.ifCond .ne 10, (43, 0, 0, 0)) := by decide +kernel
theorem s_X11_row_33 {ca : Nat → List Value → tM → tO} {M : tM} {L : tL} {x : Int32} {S : List Value} : rn ca C_X11_row 33 L (.int x :: S) M = if ¬ x = iI 0 then rn ca C_X11_row 43 L S M else rn ca C_X11_row 36 L S M := (rn_at k_X11_row_33).trans rnx_ite
theorem k_X11_row_36 : lk 36 C_X11_row = some (.aload_n 0, (0, 0, 0, 0)) := by decide +kernel
theorem s_X11_row_36 {ca : Nat → List Value → tM → tO} {M : tM} {a1 a2 a3 a4 : Option Value} {x : Nat} {S : List Value} : rn ca C_X11_row 36 [some (.ref x), a1, a2, a3, a4] S M = rn ca C_X11_row 37 [some (.ref x), a1, a2, a3, a4] (.ref x :: S) M := (rn_at k_X11_row_36).trans rfl
theorem k_X11_row_37 : lk 37 C_X11_row = some (.bipush (-6), (0, 0, 0, 0)) := by decide +kernel
theorem s_X11_row_37 {ca : Nat → List Value → tM → tO} {M : tM} {L : tL} {S : List Value} : rn ca C_X11_row 37 L S M = rn ca C_X11_row 39 L (.int (iI (-6)) :: S) M := (rn_at k_X11_row_37).trans rfl
theorem k_X11_row_39 : lk 39 C_X11_row = some (.invokevirtual 83, (144, 1, 11, 200)) := by decide +kernel
theorem s_X11_row_39 {ca : Nat → List Value → tM → tO} {M : tM} {L : tL} {v1 : Value} {b : Nat} : rn ca C_X11_row 39 L [v1, .ref b] M = if clsO b = some 11 then rnk ca C_X11_row 42 L [] (ca m_X11_refuse [.ref b, v1] M) else none := (rn_at k_X11_row_39).trans rnx_ite
theorem k_X11_row_42 : lk 42 C_X11_row = some (.ireturn, (0, 0, 0, 0)) := by decide +kernel
theorem s_X11_row_42 {ca : Nat → List Value → tM → tO} {M : tM} {L : tL} {x : Int32} : rn ca C_X11_row 42 L [.int x] M = some (some (.int x), M) := (rn_at k_X11_row_42).trans rfl
theorem k_X11_row_43 : lk 43 C_X11_row = some (.iload_n 3, (0, 0, 0, 0)) := by decide +kernel
theorem s_X11_row_43 {ca : Nat → List Value → tM → tO} {M : tM} {a0 a1 a2 a4 : Option Value} {x : Int32} {S : List Value} : rn ca C_X11_row 43 [a0, a1, a2, some (.int x), a4] S M = rn ca C_X11_row 44 [a0, a1, a2, some (.int x), a4] (.int x :: S) M := (rn_at k_X11_row_43).trans rfl
theorem k_X11_row_44 : lk 44 C_X11_row = some (.sipush 160, (0, 0, 0, 0)) := by decide +kernel
theorem s_X11_row_44 {ca : Nat → List Value → tM → tO} {M : tM} {L : tL} {S : List Value} : rn ca C_X11_row 44 L S M = rn ca C_X11_row 47 L (.int (iI 160) :: S) M := (rn_at k_X11_row_44).trans rfl
theorem k_X11_row_47 : lk 47 C_X11_row = some (.if_icmp .le 10, (57, 0, 0, 0)) := by decide +kernel
theorem s_X11_row_47 {ca : Nat → List Value → tM → tO} {M : tM} {L : tL} {x y : Int32} {S : List Value} : rn ca C_X11_row 47 L (.int y :: .int x :: S) M = if x ≤ y then rn ca C_X11_row 57 L S M else rn ca C_X11_row 50 L S M := (rn_at k_X11_row_47).trans rnx_ite
theorem k_X11_row_50 : lk 50 C_X11_row = some (.aload_n 0, (0, 0, 0, 0)) := by decide +kernel
theorem s_X11_row_50 {ca : Nat → List Value → tM → tO} {M : tM} {a1 a2 a3 a4 : Option Value} {x : Nat} {S : List Value} : rn ca C_X11_row 50 [some (.ref x), a1, a2, a3, a4] S M = rn ca C_X11_row 51 [some (.ref x), a1, a2, a3, a4] (.ref x :: S) M := (rn_at k_X11_row_50).trans rfl
theorem k_X11_row_51 : lk 51 C_X11_row = some (.bipush (-7), (0, 0, 0, 0)) := by decide +kernel
theorem s_X11_row_51 {ca : Nat → List Value → tM → tO} {M : tM} {L : tL} {S : List Value} : rn ca C_X11_row 51 L S M = rn ca C_X11_row 53 L (.int (iI (-7)) :: S) M := (rn_at k_X11_row_51).trans rfl
theorem k_X11_row_53 : lk 53 C_X11_row = some (.invokevirtual 83, (144, 1, 11, 200)) := by decide +kernel
theorem s_X11_row_53 {ca : Nat → List Value → tM → tO} {M : tM} {L : tL} {v1 : Value} {b : Nat} : rn ca C_X11_row 53 L [v1, .ref b] M = if clsO b = some 11 then rnk ca C_X11_row 56 L [] (ca m_X11_refuse [.ref b, v1] M) else none := (rn_at k_X11_row_53).trans rnx_ite
theorem k_X11_row_56 : lk 56 C_X11_row = some (.ireturn, (0, 0, 0, 0)) := by decide +kernel
theorem s_X11_row_56 {ca : Nat → List Value → tM → tO} {M : tM} {L : tL} {x : Int32} : rn ca C_X11_row 56 L [.int x] M = some (some (.int x), M) := (rn_at k_X11_row_56).trans rfl
theorem k_X11_row_57 : lk 57 C_X11_row = some (.aload_n 0, (0, 0, 0, 0)) := by decide +kernel
theorem s_X11_row_57 {ca : Nat → List Value → tM → tO} {M : tM} {a1 a2 a3 a4 : Option Value} {x : Nat} {S : List Value} : rn ca C_X11_row 57 [some (.ref x), a1, a2, a3, a4] S M = rn ca C_X11_row 58 [some (.ref x), a1, a2, a3, a4] (.ref x :: S) M := (rn_at k_X11_row_57).trans rfl
theorem k_X11_row_58 : lk 58 C_X11_row = some (.getfield 26, (11, 5, 0, 150)) := by decide +kernel
theorem s_X11_row_58 {ca : Nat → List Value → tM → tO} {M : tM} {L : tL} {b : Nat} {S : List Value} : rn ca C_X11_row 58 L (.ref b :: S) M = if clsO b = some 11 then rn ca C_X11_row 61 L (fv M b 5 :: S) M else none := (rn_at k_X11_row_58).trans rnx_ite
theorem k_X11_row_61 : lk 61 C_X11_row = some (.iload_n 1, (0, 0, 0, 0)) := by decide +kernel
theorem s_X11_row_61 {ca : Nat → List Value → tM → tO} {M : tM} {a0 a2 a3 a4 : Option Value} {x : Int32} {S : List Value} : rn ca C_X11_row 61 [a0, some (.int x), a2, a3, a4] S M = rn ca C_X11_row 62 [a0, some (.int x), a2, a3, a4] (.int x :: S) M := (rn_at k_X11_row_61).trans rfl
theorem k_X11_row_62 : lk 62 C_X11_row = some (.bipush 100, (0, 0, 0, 0)) := by decide +kernel
theorem s_X11_row_62 {ca : Nat → List Value → tM → tO} {M : tM} {L : tL} {S : List Value} : rn ca C_X11_row 62 L S M = rn ca C_X11_row 64 L (.int (iI 100) :: S) M := (rn_at k_X11_row_62).trans rfl
theorem k_X11_row_64 : lk 64 C_X11_row = some (.iload_n 2, (0, 0, 0, 0)) := by decide +kernel
theorem s_X11_row_64 {ca : Nat → List Value → tM → tO} {M : tM} {a0 a1 a3 a4 : Option Value} {x : Int32} {S : List Value} : rn ca C_X11_row 64 [a0, a1, some (.int x), a3, a4] S M = rn ca C_X11_row 65 [a0, a1, some (.int x), a3, a4] (.int x :: S) M := (rn_at k_X11_row_64).trans rfl
theorem k_X11_row_65 : lk 65 C_X11_row = some (.iadd, (0, 0, 0, 0)) := by decide +kernel
theorem s_X11_row_65 {ca : Nat → List Value → tM → tO} {M : tM} {L : tL} {x y : Int32} {S : List Value} : rn ca C_X11_row 65 L (.int y :: .int x :: S) M = rn ca C_X11_row 66 L (.int (x + y) :: S) M := (rn_at k_X11_row_65).trans rfl
theorem k_X11_row_66 : lk 66 C_X11_row = some (.iastore, (0, 0, 0, 0)) := by decide +kernel
theorem s_X11_row_66 {ca : Nat → List Value → tM → tO} {M : tM} {L : tL} {a : Nat} {i x : Int32} {S : List Value} : rn ca C_X11_row 66 L (.int x :: .int i :: .ref a :: S) M = if akind a = 0 ∧ inb i (alen M a) then rn ca C_X11_row 67 L S (sI M a i.toInt.toNat x) else none := (rn_at k_X11_row_66).trans rnx_ite
theorem k_X11_row_67 : lk 67 C_X11_row = some (.aload_n 0, (0, 0, 0, 0)) := by decide +kernel
theorem s_X11_row_67 {ca : Nat → List Value → tM → tO} {M : tM} {a1 a2 a3 a4 : Option Value} {x : Nat} {S : List Value} : rn ca C_X11_row 67 [some (.ref x), a1, a2, a3, a4] S M = rn ca C_X11_row 68 [some (.ref x), a1, a2, a3, a4] (.ref x :: S) M := (rn_at k_X11_row_67).trans rfl
theorem k_X11_row_68 : lk 68 C_X11_row = some (.getfield 29, (11, 6, 0, 151)) := by decide +kernel
theorem s_X11_row_68 {ca : Nat → List Value → tM → tO} {M : tM} {L : tL} {b : Nat} {S : List Value} : rn ca C_X11_row 68 L (.ref b :: S) M = if clsO b = some 11 then rn ca C_X11_row 71 L (fv M b 6 :: S) M else none := (rn_at k_X11_row_68).trans rnx_ite
theorem k_X11_row_71 : lk 71 C_X11_row = some (.iload_n 1, (0, 0, 0, 0)) := by decide +kernel
theorem s_X11_row_71 {ca : Nat → List Value → tM → tO} {M : tM} {a0 a2 a3 a4 : Option Value} {x : Int32} {S : List Value} : rn ca C_X11_row 71 [a0, some (.int x), a2, a3, a4] S M = rn ca C_X11_row 72 [a0, some (.int x), a2, a3, a4] (.int x :: S) M := (rn_at k_X11_row_71).trans rfl
theorem k_X11_row_72 : lk 72 C_X11_row = some (.iload_n 3, (0, 0, 0, 0)) := by decide +kernel
theorem s_X11_row_72 {ca : Nat → List Value → tM → tO} {M : tM} {a0 a1 a2 a4 : Option Value} {x : Int32} {S : List Value} : rn ca C_X11_row 72 [a0, a1, a2, some (.int x), a4] S M = rn ca C_X11_row 73 [a0, a1, a2, some (.int x), a4] (.int x :: S) M := (rn_at k_X11_row_72).trans rfl
theorem k_X11_row_73 : lk 73 C_X11_row = some (.iastore, (0, 0, 0, 0)) := by decide +kernel
theorem s_X11_row_73 {ca : Nat → List Value → tM → tO} {M : tM} {L : tL} {a : Nat} {i x : Int32} {S : List Value} : rn ca C_X11_row 73 L (.int x :: .int i :: .ref a :: S) M = if akind a = 0 ∧ inb i (alen M a) then rn ca C_X11_row 74 L S (sI M a i.toInt.toNat x) else none := (rn_at k_X11_row_73).trans rnx_ite
theorem k_X11_row_74 : lk 74 C_X11_row = some (.iconst 0, (0, 0, 0, 0)) := by decide +kernel
theorem s_X11_row_74 {ca : Nat → List Value → tM → tO} {M : tM} {L : tL} {S : List Value} : rn ca C_X11_row 74 L S M = rn ca C_X11_row 75 L (.int (iI 0) :: S) M := (rn_at k_X11_row_74).trans rfl
theorem k_X11_row_75 : lk 75 C_X11_row = some (.istore 4, (0, 0, 0, 0)) := by decide +kernel
theorem s_X11_row_75 {ca : Nat → List Value → tM → tO} {M : tM} {a0 a1 a2 a3 a4 : Option Value} {x : Int32} {S : List Value} : rn ca C_X11_row 75 [a0, a1, a2, a3, a4] (.int x :: S) M = rn ca C_X11_row 77 [a0, a1, a2, a3, some (.int x)] S M := (rn_at k_X11_row_75).trans rfl
theorem k_X11_row_77 : lk 77 C_X11_row = some (.iload 4, (0, 0, 0, 0)) := by decide +kernel
theorem s_X11_row_77 {ca : Nat → List Value → tM → tO} {M : tM} {a0 a1 a2 a3 : Option Value} {x : Int32} {S : List Value} : rn ca C_X11_row 77 [a0, a1, a2, a3, some (.int x)] S M = rn ca C_X11_row 79 [a0, a1, a2, a3, some (.int x)] (.int x :: S) M := (rn_at k_X11_row_77).trans rfl
theorem k_X11_row_79 : lk 79 C_X11_row = some (.sipush 160, (0, 0, 0, 0)) := by decide +kernel
theorem s_X11_row_79 {ca : Nat → List Value → tM → tO} {M : tM} {L : tL} {S : List Value} : rn ca C_X11_row 79 L S M = rn ca C_X11_row 82 L (.int (iI 160) :: S) M := (rn_at k_X11_row_79).trans rfl
theorem k_X11_row_82 : lk 82 C_X11_row = some (.if_icmp .ge 23, (105, 0, 0, 0)) := by decide +kernel
theorem s_X11_row_82 {ca : Nat → List Value → tM → tO} {M : tM} {L : tL} {x y : Int32} {S : List Value} : rn ca C_X11_row 82 L (.int y :: .int x :: S) M = if y ≤ x then rn ca C_X11_row 105 L S M else rn ca C_X11_row 85 L S M := (rn_at k_X11_row_82).trans rnx_ite
theorem k_X11_row_85 : lk 85 C_X11_row = some (.aload_n 0, (0, 0, 0, 0)) := by decide +kernel
theorem s_X11_row_85 {ca : Nat → List Value → tM → tO} {M : tM} {a1 a2 a3 a4 : Option Value} {x : Nat} {S : List Value} : rn ca C_X11_row 85 [some (.ref x), a1, a2, a3, a4] S M = rn ca C_X11_row 86 [some (.ref x), a1, a2, a3, a4] (.ref x :: S) M := (rn_at k_X11_row_85).trans rfl
theorem k_X11_row_86 : lk 86 C_X11_row = some (.getfield 32, (11, 7, 0, 152)) := by decide +kernel
theorem s_X11_row_86 {ca : Nat → List Value → tM → tO} {M : tM} {L : tL} {b : Nat} {S : List Value} : rn ca C_X11_row 86 L (.ref b :: S) M = if clsO b = some 11 then rn ca C_X11_row 89 L (fv M b 7 :: S) M else none := (rn_at k_X11_row_86).trans rnx_ite
theorem k_X11_row_89 : lk 89 C_X11_row = some (.sipush 160, (0, 0, 0, 0)) := by decide +kernel
theorem s_X11_row_89 {ca : Nat → List Value → tM → tO} {M : tM} {L : tL} {S : List Value} : rn ca C_X11_row 89 L S M = rn ca C_X11_row 92 L (.int (iI 160) :: S) M := (rn_at k_X11_row_89).trans rfl
theorem k_X11_row_92 : lk 92 C_X11_row = some (.iload_n 1, (0, 0, 0, 0)) := by decide +kernel
theorem s_X11_row_92 {ca : Nat → List Value → tM → tO} {M : tM} {a0 a2 a3 a4 : Option Value} {x : Int32} {S : List Value} : rn ca C_X11_row 92 [a0, some (.int x), a2, a3, a4] S M = rn ca C_X11_row 93 [a0, some (.int x), a2, a3, a4] (.int x :: S) M := (rn_at k_X11_row_92).trans rfl
theorem k_X11_row_93 : lk 93 C_X11_row = some (.imul, (0, 0, 0, 0)) := by decide +kernel
theorem s_X11_row_93 {ca : Nat → List Value → tM → tO} {M : tM} {L : tL} {x y : Int32} {S : List Value} : rn ca C_X11_row 93 L (.int y :: .int x :: S) M = rn ca C_X11_row 94 L (.int (x * y) :: S) M := (rn_at k_X11_row_93).trans rfl
theorem k_X11_row_94 : lk 94 C_X11_row = some (.iload 4, (0, 0, 0, 0)) := by decide +kernel
theorem s_X11_row_94 {ca : Nat → List Value → tM → tO} {M : tM} {a0 a1 a2 a3 : Option Value} {x : Int32} {S : List Value} : rn ca C_X11_row 94 [a0, a1, a2, a3, some (.int x)] S M = rn ca C_X11_row 96 [a0, a1, a2, a3, some (.int x)] (.int x :: S) M := (rn_at k_X11_row_94).trans rfl
theorem k_X11_row_96 : lk 96 C_X11_row = some (.iadd, (0, 0, 0, 0)) := by decide +kernel
theorem s_X11_row_96 {ca : Nat → List Value → tM → tO} {M : tM} {L : tL} {x y : Int32} {S : List Value} : rn ca C_X11_row 96 L (.int y :: .int x :: S) M = rn ca C_X11_row 97 L (.int (x + y) :: S) M := (rn_at k_X11_row_96).trans rfl
theorem k_X11_row_97 : lk 97 C_X11_row = some (.lconst 0, (0, 0, 0, 0)) := by decide +kernel
theorem s_X11_row_97 {ca : Nat → List Value → tM → tO} {M : tM} {L : tL} {S : List Value} : rn ca C_X11_row 97 L S M = rn ca C_X11_row 98 L (.long (jJ 0) :: S) M := (rn_at k_X11_row_97).trans rfl
theorem k_X11_row_98 : lk 98 C_X11_row = some (.lastore, (0, 0, 0, 0)) := by decide +kernel
theorem s_X11_row_98 {ca : Nat → List Value → tM → tO} {M : tM} {L : tL} {a : Nat} {i : Int32} {x : Int64} {S : List Value} : rn ca C_X11_row 98 L (.long x :: .int i :: .ref a :: S) M = if akind a = 2 ∧ inb i (alen M a) then rn ca C_X11_row 99 L S (sJ M a i.toInt.toNat x) else none := (rn_at k_X11_row_98).trans rnx_ite
theorem k_X11_row_99 : lk 99 C_X11_row = some (.iinc 4 1, (0, 0, 0, 0)) := by decide +kernel
theorem s_X11_row_99 {ca : Nat → List Value → tM → tO} {M : tM} {a0 a1 a2 a3 : Option Value} {x : Int32} {S : List Value} : rn ca C_X11_row 99 [a0, a1, a2, a3, some (.int x)] S M = rn ca C_X11_row 102 [a0, a1, a2, a3, some (.int (x + iI 1))] S M := (rn_at k_X11_row_99).trans rfl
theorem k_X11_row_102 : lk 102 C_X11_row = some (.goto (-25), (77, 0, 0, 0)) := by decide +kernel
theorem s_X11_row_102 {ca : Nat → List Value → tM → tO} {M : tM} {L : tL} {S : List Value} : rn ca C_X11_row 102 L S M = rn ca C_X11_row 77 L S M := (rn_at k_X11_row_102).trans rfl
theorem k_X11_row_105 : lk 105 C_X11_row = some (.iconst 1, (0, 0, 0, 0)) := by decide +kernel
theorem s_X11_row_105 {ca : Nat → List Value → tM → tO} {M : tM} {L : tL} {S : List Value} : rn ca C_X11_row 105 L S M = rn ca C_X11_row 106 L (.int (iI 1) :: S) M := (rn_at k_X11_row_105).trans rfl
theorem k_X11_row_106 : lk 106 C_X11_row = some (.ireturn, (0, 0, 0, 0)) := by decide +kernel
theorem s_X11_row_106 {ca : Nat → List Value → tM → tO} {M : tM} {L : tL} {x : Int32} : rn ca C_X11_row 106 L [.int x] M = some (some (.int x), M) := (rn_at k_X11_row_106).trans rfl
theorem k_X11_rowIn_0 : lk 0 C_X11_rowIn = some (.iload_n 1, (0, 0, 0, 0)) := by decide +kernel
theorem s_X11_rowIn_0 {ca : Nat → List Value → tM → tO} {M : tM} {a0 : Option Value} {x : Int32} {S : List Value} : rn ca C_X11_rowIn 0 [a0, some (.int x)] S M = rn ca C_X11_rowIn 1 [a0, some (.int x)] (.int x :: S) M := (rn_at k_X11_rowIn_0).trans rfl
theorem k_X11_rowIn_1 : lk 1 C_X11_rowIn = some (.invokestatic 123, (170, 1, 0, 193)) := by decide +kernel
theorem s_X11_rowIn_1 {ca : Nat → List Value → tM → tO} {M : tM} {L : tL} {v1 : Value} : rn ca C_X11_rowIn 1 L [v1] M = rnk ca C_X11_rowIn 4 L [] (ca m_X11_isShelf [v1] M) := (rn_at k_X11_rowIn_1).trans rfl
theorem k_X11_rowIn_4 : lk 4 C_X11_rowIn = some (.ifCond .ne 7, (11, 0, 0, 0)) := by decide +kernel
theorem s_X11_rowIn_4 {ca : Nat → List Value → tM → tO} {M : tM} {L : tL} {x : Int32} {S : List Value} : rn ca C_X11_rowIn 4 L (.int x :: S) M = if ¬ x = iI 0 then rn ca C_X11_rowIn 11 L S M else rn ca C_X11_rowIn 7 L S M := (rn_at k_X11_rowIn_4).trans rnx_ite
theorem k_X11_rowIn_7 : lk 7 C_X11_rowIn = some (.iconst (-1), (0, 0, 0, 0)) := by decide +kernel
theorem s_X11_rowIn_7 {ca : Nat → List Value → tM → tO} {M : tM} {L : tL} {S : List Value} : rn ca C_X11_rowIn 7 L S M = rn ca C_X11_rowIn 8 L (.int (iI (-1)) :: S) M := (rn_at k_X11_rowIn_7).trans rfl
theorem k_X11_rowIn_8 : lk 8 C_X11_rowIn = some (.goto 35, (43, 0, 0, 0)) := by decide +kernel
theorem s_X11_rowIn_8 {ca : Nat → List Value → tM → tO} {M : tM} {L : tL} {S : List Value} : rn ca C_X11_rowIn 8 L S M = rn ca C_X11_rowIn 43 L S M := (rn_at k_X11_rowIn_8).trans rfl
theorem k_X11_rowIn_11 : lk 11 C_X11_rowIn = some (.aload_n 0, (0, 0, 0, 0)) := by decide +kernel
theorem s_X11_rowIn_11 {ca : Nat → List Value → tM → tO} {M : tM} {a1 : Option Value} {x : Nat} {S : List Value} : rn ca C_X11_rowIn 11 [some (.ref x), a1] S M = rn ca C_X11_rowIn 12 [some (.ref x), a1] (.ref x :: S) M := (rn_at k_X11_rowIn_11).trans rfl
theorem k_X11_rowIn_12 : lk 12 C_X11_rowIn = some (.getfield 26, (11, 5, 0, 150)) := by decide +kernel
theorem s_X11_rowIn_12 {ca : Nat → List Value → tM → tO} {M : tM} {L : tL} {b : Nat} {S : List Value} : rn ca C_X11_rowIn 12 L (.ref b :: S) M = if clsO b = some 11 then rn ca C_X11_rowIn 15 L (fv M b 5 :: S) M else none := (rn_at k_X11_rowIn_12).trans rnx_ite
theorem k_X11_rowIn_15 : lk 15 C_X11_rowIn = some (.iload_n 1, (0, 0, 0, 0)) := by decide +kernel
theorem s_X11_rowIn_15 {ca : Nat → List Value → tM → tO} {M : tM} {a0 : Option Value} {x : Int32} {S : List Value} : rn ca C_X11_rowIn 15 [a0, some (.int x)] S M = rn ca C_X11_rowIn 16 [a0, some (.int x)] (.int x :: S) M := (rn_at k_X11_rowIn_15).trans rfl
theorem k_X11_rowIn_16 : lk 16 C_X11_rowIn = some (.iaload, (0, 0, 0, 0)) := by decide +kernel
theorem s_X11_rowIn_16 {ca : Nat → List Value → tM → tO} {M : tM} {L : tL} {a : Nat} {i : Int32} {S : List Value} : rn ca C_X11_rowIn 16 L (.int i :: .ref a :: S) M = if (akind a = 0 ∨ akind a = 6 ∨ akind a = 7) ∧ inb i (alen M a) then rn ca C_X11_rowIn 17 L (.int (M.1 a i.toInt.toNat) :: S) M else none := (rn_at k_X11_rowIn_16).trans rnx_ite
theorem k_X11_rowIn_17 : lk 17 C_X11_rowIn = some (.iconst (-1), (0, 0, 0, 0)) := by decide +kernel
theorem s_X11_rowIn_17 {ca : Nat → List Value → tM → tO} {M : tM} {L : tL} {S : List Value} : rn ca C_X11_rowIn 17 L S M = rn ca C_X11_rowIn 18 L (.int (iI (-1)) :: S) M := (rn_at k_X11_rowIn_17).trans rfl
theorem k_X11_rowIn_18 : lk 18 C_X11_rowIn = some (.if_icmp .ne 8, (26, 0, 0, 0)) := by decide +kernel
theorem s_X11_rowIn_18 {ca : Nat → List Value → tM → tO} {M : tM} {L : tL} {x y : Int32} {S : List Value} : rn ca C_X11_rowIn 18 L (.int y :: .int x :: S) M = if ¬ x = y then rn ca C_X11_rowIn 26 L S M else rn ca C_X11_rowIn 21 L S M := (rn_at k_X11_rowIn_18).trans rnx_ite
theorem k_X11_rowIn_21 : lk 21 C_X11_rowIn = some (.bipush (-3), (0, 0, 0, 0)) := by decide +kernel
theorem s_X11_rowIn_21 {ca : Nat → List Value → tM → tO} {M : tM} {L : tL} {S : List Value} : rn ca C_X11_rowIn 21 L S M = rn ca C_X11_rowIn 23 L (.int (iI (-3)) :: S) M := (rn_at k_X11_rowIn_21).trans rfl
theorem k_X11_rowIn_23 : lk 23 C_X11_rowIn = some (.goto 20, (43, 0, 0, 0)) := by decide +kernel
theorem s_X11_rowIn_23 {ca : Nat → List Value → tM → tO} {M : tM} {L : tL} {S : List Value} : rn ca C_X11_rowIn 23 L S M = rn ca C_X11_rowIn 43 L S M := (rn_at k_X11_rowIn_23).trans rfl
theorem k_X11_rowIn_26 : lk 26 C_X11_rowIn = some (.aload_n 0, (0, 0, 0, 0)) := by decide +kernel
theorem s_X11_rowIn_26 {ca : Nat → List Value → tM → tO} {M : tM} {a1 : Option Value} {x : Nat} {S : List Value} : rn ca C_X11_rowIn 26 [some (.ref x), a1] S M = rn ca C_X11_rowIn 27 [some (.ref x), a1] (.ref x :: S) M := (rn_at k_X11_rowIn_26).trans rfl
theorem k_X11_rowIn_27 : lk 27 C_X11_rowIn = some (.getfield 26, (11, 5, 0, 150)) := by decide +kernel
theorem s_X11_rowIn_27 {ca : Nat → List Value → tM → tO} {M : tM} {L : tL} {b : Nat} {S : List Value} : rn ca C_X11_rowIn 27 L (.ref b :: S) M = if clsO b = some 11 then rn ca C_X11_rowIn 30 L (fv M b 5 :: S) M else none := (rn_at k_X11_rowIn_27).trans rnx_ite
theorem k_X11_rowIn_30 : lk 30 C_X11_rowIn = some (.iload_n 1, (0, 0, 0, 0)) := by decide +kernel
theorem s_X11_rowIn_30 {ca : Nat → List Value → tM → tO} {M : tM} {a0 : Option Value} {x : Int32} {S : List Value} : rn ca C_X11_rowIn 30 [a0, some (.int x)] S M = rn ca C_X11_rowIn 31 [a0, some (.int x)] (.int x :: S) M := (rn_at k_X11_rowIn_30).trans rfl
theorem k_X11_rowIn_31 : lk 31 C_X11_rowIn = some (.iaload, (0, 0, 0, 0)) := by decide +kernel
theorem s_X11_rowIn_31 {ca : Nat → List Value → tM → tO} {M : tM} {L : tL} {a : Nat} {i : Int32} {S : List Value} : rn ca C_X11_rowIn 31 L (.int i :: .ref a :: S) M = if (akind a = 0 ∨ akind a = 6 ∨ akind a = 7) ∧ inb i (alen M a) then rn ca C_X11_rowIn 32 L (.int (M.1 a i.toInt.toNat) :: S) M else none := (rn_at k_X11_rowIn_31).trans rnx_ite
theorem k_X11_rowIn_32 : lk 32 C_X11_rowIn = some (.bipush 100, (0, 0, 0, 0)) := by decide +kernel
theorem s_X11_rowIn_32 {ca : Nat → List Value → tM → tO} {M : tM} {L : tL} {S : List Value} : rn ca C_X11_rowIn 32 L S M = rn ca C_X11_rowIn 34 L (.int (iI 100) :: S) M := (rn_at k_X11_rowIn_32).trans rfl
theorem k_X11_rowIn_34 : lk 34 C_X11_rowIn = some (.if_icmp .ge 8, (42, 0, 0, 0)) := by decide +kernel
theorem s_X11_rowIn_34 {ca : Nat → List Value → tM → tO} {M : tM} {L : tL} {x y : Int32} {S : List Value} : rn ca C_X11_rowIn 34 L (.int y :: .int x :: S) M = if y ≤ x then rn ca C_X11_rowIn 42 L S M else rn ca C_X11_rowIn 37 L S M := (rn_at k_X11_rowIn_34).trans rnx_ite
theorem k_X11_rowIn_37 : lk 37 C_X11_rowIn = some (.bipush (-2), (0, 0, 0, 0)) := by decide +kernel
theorem s_X11_rowIn_37 {ca : Nat → List Value → tM → tO} {M : tM} {L : tL} {S : List Value} : rn ca C_X11_rowIn 37 L S M = rn ca C_X11_rowIn 39 L (.int (iI (-2)) :: S) M := (rn_at k_X11_rowIn_37).trans rfl
theorem k_X11_rowIn_39 : lk 39 C_X11_rowIn = some (.goto 4, (43, 0, 0, 0)) := by decide +kernel
theorem s_X11_rowIn_39 {ca : Nat → List Value → tM → tO} {M : tM} {L : tL} {S : List Value} : rn ca C_X11_rowIn 39 L S M = rn ca C_X11_rowIn 43 L S M := (rn_at k_X11_rowIn_39).trans rfl
theorem k_X11_rowIn_42 : lk 42 C_X11_rowIn = some (.iconst 1, (0, 0, 0, 0)) := by decide +kernel
theorem s_X11_rowIn_42 {ca : Nat → List Value → tM → tO} {M : tM} {L : tL} {S : List Value} : rn ca C_X11_rowIn 42 L S M = rn ca C_X11_rowIn 43 L (.int (iI 1) :: S) M := (rn_at k_X11_rowIn_42).trans rfl
theorem k_X11_rowIn_43 : lk 43 C_X11_rowIn = some (.ireturn, (0, 0, 0, 0)) := by decide +kernel
theorem s_X11_rowIn_43 {ca : Nat → List Value → tM → tO} {M : tM} {L : tL} {x : Int32} : rn ca C_X11_rowIn 43 L [.int x] M = some (some (.int x), M) := (rn_at k_X11_rowIn_43).trans rfl
theorem k_X11_set_0 : lk 0 C_X11_set = some (.aload_n 0, (0, 0, 0, 0)) := by decide +kernel
theorem s_X11_set_0 {ca : Nat → List Value → tM → tO} {M : tM} {a1 a2 a3 a4 a5 : Option Value} {x : Nat} {S : List Value} : rn ca C_X11_set 0 [some (.ref x), a1, a2, a3, a4, a5] S M = rn ca C_X11_set 1 [some (.ref x), a1, a2, a3, a4, a5] (.ref x :: S) M := (rn_at k_X11_set_0).trans rfl
theorem k_X11_set_1 : lk 1 C_X11_set = some (.iload_n 1, (0, 0, 0, 0)) := by decide +kernel
theorem s_X11_set_1 {ca : Nat → List Value → tM → tO} {M : tM} {a0 a2 a3 a4 a5 : Option Value} {x : Int32} {S : List Value} : rn ca C_X11_set 1 [a0, some (.int x), a2, a3, a4, a5] S M = rn ca C_X11_set 2 [a0, some (.int x), a2, a3, a4, a5] (.int x :: S) M := (rn_at k_X11_set_1).trans rfl
theorem k_X11_set_2 : lk 2 C_X11_set = some (.invokevirtual 126, (172, 1, 11, 236)) := by decide +kernel
theorem s_X11_set_2 {ca : Nat → List Value → tM → tO} {M : tM} {L : tL} {v1 : Value} {b : Nat} : rn ca C_X11_set 2 L [v1, .ref b] M = if clsO b = some 11 then rnk ca C_X11_set 5 L [] (ca m_X11_rowIn [.ref b, v1] M) else none := (rn_at k_X11_set_2).trans rnx_ite
theorem k_X11_set_5 : lk 5 C_X11_set = some (.ifCond .ge 13, (18, 0, 0, 0)) := by decide +kernel
theorem s_X11_set_5 {ca : Nat → List Value → tM → tO} {M : tM} {L : tL} {x : Int32} {S : List Value} : rn ca C_X11_set 5 L (.int x :: S) M = if iI 0 ≤ x then rn ca C_X11_set 18 L S M else rn ca C_X11_set 8 L S M := (rn_at k_X11_set_5).trans rnx_ite
theorem k_X11_set_8 : lk 8 C_X11_set = some (.aload_n 0, (0, 0, 0, 0)) := by decide +kernel
theorem s_X11_set_8 {ca : Nat → List Value → tM → tO} {M : tM} {a1 a2 a3 a4 a5 : Option Value} {x : Nat} {S : List Value} : rn ca C_X11_set 8 [some (.ref x), a1, a2, a3, a4, a5] S M = rn ca C_X11_set 9 [some (.ref x), a1, a2, a3, a4, a5] (.ref x :: S) M := (rn_at k_X11_set_8).trans rfl
theorem k_X11_set_9 : lk 9 C_X11_set = some (.aload_n 0, (0, 0, 0, 0)) := by decide +kernel
theorem s_X11_set_9 {ca : Nat → List Value → tM → tO} {M : tM} {a1 a2 a3 a4 a5 : Option Value} {x : Nat} {S : List Value} : rn ca C_X11_set 9 [some (.ref x), a1, a2, a3, a4, a5] S M = rn ca C_X11_set 10 [some (.ref x), a1, a2, a3, a4, a5] (.ref x :: S) M := (rn_at k_X11_set_9).trans rfl
theorem k_X11_set_10 : lk 10 C_X11_set = some (.iload_n 1, (0, 0, 0, 0)) := by decide +kernel
theorem s_X11_set_10 {ca : Nat → List Value → tM → tO} {M : tM} {a0 a2 a3 a4 a5 : Option Value} {x : Int32} {S : List Value} : rn ca C_X11_set 10 [a0, some (.int x), a2, a3, a4, a5] S M = rn ca C_X11_set 11 [a0, some (.int x), a2, a3, a4, a5] (.int x :: S) M := (rn_at k_X11_set_10).trans rfl
theorem k_X11_set_11 : lk 11 C_X11_set = some (.invokevirtual 126, (172, 1, 11, 236)) := by decide +kernel
theorem s_X11_set_11 {ca : Nat → List Value → tM → tO} {M : tM} {L : tL} {v1 : Value} {r0 : Nat} {b : Nat} : rn ca C_X11_set 11 L [v1, .ref b, .ref r0] M = if clsO b = some 11 then rnk ca C_X11_set 14 L [.ref r0] (ca m_X11_rowIn [.ref b, v1] M) else none := (rn_at k_X11_set_11).trans rnx_ite
theorem k_X11_set_14 : lk 14 C_X11_set = some (.invokevirtual 83, (144, 1, 11, 200)) := by decide +kernel
theorem s_X11_set_14 {ca : Nat → List Value → tM → tO} {M : tM} {L : tL} {v1 : Value} {b : Nat} : rn ca C_X11_set 14 L [v1, .ref b] M = if clsO b = some 11 then rnk ca C_X11_set 17 L [] (ca m_X11_refuse [.ref b, v1] M) else none := (rn_at k_X11_set_14).trans rnx_ite
theorem k_X11_set_17 : lk 17 C_X11_set = some (.ireturn, (0, 0, 0, 0)) := by decide +kernel
theorem s_X11_set_17 {ca : Nat → List Value → tM → tO} {M : tM} {L : tL} {x : Int32} : rn ca C_X11_set 17 L [.int x] M = some (some (.int x), M) := (rn_at k_X11_set_17).trans rfl
theorem k_X11_set_18 : lk 18 C_X11_set = some (.iload_n 2, (0, 0, 0, 0)) := by decide +kernel
theorem s_X11_set_18 {ca : Nat → List Value → tM → tO} {M : tM} {a0 a1 a3 a4 a5 : Option Value} {x : Int32} {S : List Value} : rn ca C_X11_set 18 [a0, a1, some (.int x), a3, a4, a5] S M = rn ca C_X11_set 19 [a0, a1, some (.int x), a3, a4, a5] (.int x :: S) M := (rn_at k_X11_set_18).trans rfl
theorem k_X11_set_19 : lk 19 C_X11_set = some (.i2l, (0, 0, 0, 0)) := by decide +kernel
theorem s_X11_set_19 {ca : Nat → List Value → tM → tO} {M : tM} {L : tL} {x : Int32} {S : List Value} : rn ca C_X11_set 19 L (.int x :: S) M = rn ca C_X11_set 20 L (.long x.toInt64 :: S) M := (rn_at k_X11_set_19).trans rfl
theorem k_X11_set_20 : lk 20 C_X11_set = some (.lconst 0, (0, 0, 0, 0)) := by decide +kernel
theorem s_X11_set_20 {ca : Nat → List Value → tM → tO} {M : tM} {L : tL} {S : List Value} : rn ca C_X11_set 20 L S M = rn ca C_X11_set 21 L (.long (jJ 0) :: S) M := (rn_at k_X11_set_20).trans rfl
theorem k_X11_set_21 : lk 21 C_X11_set = some (.aload_n 0, (0, 0, 0, 0)) := by decide +kernel
theorem s_X11_set_21 {ca : Nat → List Value → tM → tO} {M : tM} {a1 a2 a3 a4 a5 : Option Value} {x : Nat} {S : List Value} : rn ca C_X11_set 21 [some (.ref x), a1, a2, a3, a4, a5] S M = rn ca C_X11_set 22 [some (.ref x), a1, a2, a3, a4, a5] (.ref x :: S) M := (rn_at k_X11_set_21).trans rfl
theorem k_X11_set_22 : lk 22 C_X11_set = some (.getfield 29, (11, 6, 0, 151)) := by decide +kernel
theorem s_X11_set_22 {ca : Nat → List Value → tM → tO} {M : tM} {L : tL} {b : Nat} {S : List Value} : rn ca C_X11_set 22 L (.ref b :: S) M = if clsO b = some 11 then rn ca C_X11_set 25 L (fv M b 6 :: S) M else none := (rn_at k_X11_set_22).trans rnx_ite
theorem k_X11_set_25 : lk 25 C_X11_set = some (.iload_n 1, (0, 0, 0, 0)) := by decide +kernel
theorem s_X11_set_25 {ca : Nat → List Value → tM → tO} {M : tM} {a0 a2 a3 a4 a5 : Option Value} {x : Int32} {S : List Value} : rn ca C_X11_set 25 [a0, some (.int x), a2, a3, a4, a5] S M = rn ca C_X11_set 26 [a0, some (.int x), a2, a3, a4, a5] (.int x :: S) M := (rn_at k_X11_set_25).trans rfl
theorem k_X11_set_26 : lk 26 C_X11_set = some (.iaload, (0, 0, 0, 0)) := by decide +kernel
theorem s_X11_set_26 {ca : Nat → List Value → tM → tO} {M : tM} {L : tL} {a : Nat} {i : Int32} {S : List Value} : rn ca C_X11_set 26 L (.int i :: .ref a :: S) M = if (akind a = 0 ∨ akind a = 6 ∨ akind a = 7) ∧ inb i (alen M a) then rn ca C_X11_set 27 L (.int (M.1 a i.toInt.toNat) :: S) M else none := (rn_at k_X11_set_26).trans rnx_ite
theorem k_X11_set_27 : lk 27 C_X11_set = some (.iconst 1, (0, 0, 0, 0)) := by decide +kernel
theorem s_X11_set_27 {ca : Nat → List Value → tM → tO} {M : tM} {L : tL} {S : List Value} : rn ca C_X11_set 27 L S M = rn ca C_X11_set 28 L (.int (iI 1) :: S) M := (rn_at k_X11_set_27).trans rfl
theorem k_X11_set_28 : lk 28 C_X11_set = some (.isub, (0, 0, 0, 0)) := by decide +kernel
theorem s_X11_set_28 {ca : Nat → List Value → tM → tO} {M : tM} {L : tL} {x y : Int32} {S : List Value} : rn ca C_X11_set 28 L (.int y :: .int x :: S) M = rn ca C_X11_set 29 L (.int (x - y) :: S) M := (rn_at k_X11_set_28).trans rfl
theorem k_X11_set_29 : lk 29 C_X11_set = some (.i2l, (0, 0, 0, 0)) := by decide +kernel
theorem s_X11_set_29 {ca : Nat → List Value → tM → tO} {M : tM} {L : tL} {x : Int32} {S : List Value} : rn ca C_X11_set 29 L (.int x :: S) M = rn ca C_X11_set 30 L (.long x.toInt64 :: S) M := (rn_at k_X11_set_29).trans rfl
theorem k_X11_set_30 : lk 30 C_X11_set = some (.invokestatic 87, (143, 3, 0, 197)) := by decide +kernel
theorem s_X11_set_30 {ca : Nat → List Value → tM → tO} {M : tM} {L : tL} {v1 v2 v3 : Value} : rn ca C_X11_set 30 L [v3, v2, v1] M = rnk ca C_X11_set 33 L [] (ca m_X11_isIn [v1, v2, v3] M) := (rn_at k_X11_set_30).trans rfl
theorem k_X11_set_33 : lk 33 C_X11_set = some (.ifCond .ne 10, (43, 0, 0, 0)) := by decide +kernel
theorem s_X11_set_33 {ca : Nat → List Value → tM → tO} {M : tM} {L : tL} {x : Int32} {S : List Value} : rn ca C_X11_set 33 L (.int x :: S) M = if ¬ x = iI 0 then rn ca C_X11_set 43 L S M else rn ca C_X11_set 36 L S M := (rn_at k_X11_set_33).trans rnx_ite
theorem k_X11_set_36 : lk 36 C_X11_set = some (.aload_n 0, (0, 0, 0, 0)) := by decide +kernel
theorem s_X11_set_36 {ca : Nat → List Value → tM → tO} {M : tM} {a1 a2 a3 a4 a5 : Option Value} {x : Nat} {S : List Value} : rn ca C_X11_set 36 [some (.ref x), a1, a2, a3, a4, a5] S M = rn ca C_X11_set 37 [some (.ref x), a1, a2, a3, a4, a5] (.ref x :: S) M := (rn_at k_X11_set_36).trans rfl
theorem k_X11_set_37 : lk 37 C_X11_set = some (.bipush (-5), (0, 0, 0, 0)) := by decide +kernel
theorem s_X11_set_37 {ca : Nat → List Value → tM → tO} {M : tM} {L : tL} {S : List Value} : rn ca C_X11_set 37 L S M = rn ca C_X11_set 39 L (.int (iI (-5)) :: S) M := (rn_at k_X11_set_37).trans rfl
theorem k_X11_set_39 : lk 39 C_X11_set = some (.invokevirtual 83, (144, 1, 11, 200)) := by decide +kernel
theorem s_X11_set_39 {ca : Nat → List Value → tM → tO} {M : tM} {L : tL} {v1 : Value} {b : Nat} : rn ca C_X11_set 39 L [v1, .ref b] M = if clsO b = some 11 then rnk ca C_X11_set 42 L [] (ca m_X11_refuse [.ref b, v1] M) else none := (rn_at k_X11_set_39).trans rnx_ite
theorem k_X11_set_42 : lk 42 C_X11_set = some (.ireturn, (0, 0, 0, 0)) := by decide +kernel
theorem s_X11_set_42 {ca : Nat → List Value → tM → tO} {M : tM} {L : tL} {x : Int32} : rn ca C_X11_set 42 L [.int x] M = some (some (.int x), M) := (rn_at k_X11_set_42).trans rfl
theorem k_X11_set_43 : lk 43 C_X11_set = some (.aload_n 0, (0, 0, 0, 0)) := by decide +kernel
theorem s_X11_set_43 {ca : Nat → List Value → tM → tO} {M : tM} {a1 a2 a3 a4 a5 : Option Value} {x : Nat} {S : List Value} : rn ca C_X11_set 43 [some (.ref x), a1, a2, a3, a4, a5] S M = rn ca C_X11_set 44 [some (.ref x), a1, a2, a3, a4, a5] (.ref x :: S) M := (rn_at k_X11_set_43).trans rfl
theorem k_X11_set_44 : lk 44 C_X11_set = some (.getfield 26, (11, 5, 0, 150)) := by decide +kernel
theorem s_X11_set_44 {ca : Nat → List Value → tM → tO} {M : tM} {L : tL} {b : Nat} {S : List Value} : rn ca C_X11_set 44 L (.ref b :: S) M = if clsO b = some 11 then rn ca C_X11_set 47 L (fv M b 5 :: S) M else none := (rn_at k_X11_set_44).trans rnx_ite
theorem k_X11_set_47 : lk 47 C_X11_set = some (.iload_n 1, (0, 0, 0, 0)) := by decide +kernel
theorem s_X11_set_47 {ca : Nat → List Value → tM → tO} {M : tM} {a0 a2 a3 a4 a5 : Option Value} {x : Int32} {S : List Value} : rn ca C_X11_set 47 [a0, some (.int x), a2, a3, a4, a5] S M = rn ca C_X11_set 48 [a0, some (.int x), a2, a3, a4, a5] (.int x :: S) M := (rn_at k_X11_set_47).trans rfl
theorem k_X11_set_48 : lk 48 C_X11_set = some (.iaload, (0, 0, 0, 0)) := by decide +kernel
theorem s_X11_set_48 {ca : Nat → List Value → tM → tO} {M : tM} {L : tL} {a : Nat} {i : Int32} {S : List Value} : rn ca C_X11_set 48 L (.int i :: .ref a :: S) M = if (akind a = 0 ∨ akind a = 6 ∨ akind a = 7) ∧ inb i (alen M a) then rn ca C_X11_set 49 L (.int (M.1 a i.toInt.toNat) :: S) M else none := (rn_at k_X11_set_48).trans rnx_ite
theorem k_X11_set_49 : lk 49 C_X11_set = some (.bipush 100, (0, 0, 0, 0)) := by decide +kernel
theorem s_X11_set_49 {ca : Nat → List Value → tM → tO} {M : tM} {L : tL} {S : List Value} : rn ca C_X11_set 49 L S M = rn ca C_X11_set 51 L (.int (iI 100) :: S) M := (rn_at k_X11_set_49).trans rfl
theorem k_X11_set_51 : lk 51 C_X11_set = some (.isub, (0, 0, 0, 0)) := by decide +kernel
theorem s_X11_set_51 {ca : Nat → List Value → tM → tO} {M : tM} {L : tL} {x y : Int32} {S : List Value} : rn ca C_X11_set 51 L (.int y :: .int x :: S) M = rn ca C_X11_set 52 L (.int (x - y) :: S) M := (rn_at k_X11_set_51).trans rfl
theorem k_X11_set_52 : lk 52 C_X11_set = some (.istore 5, (0, 0, 0, 0)) := by decide +kernel
theorem s_X11_set_52 {ca : Nat → List Value → tM → tO} {M : tM} {a0 a1 a2 a3 a4 a5 : Option Value} {x : Int32} {S : List Value} : rn ca C_X11_set 52 [a0, a1, a2, a3, a4, a5] (.int x :: S) M = rn ca C_X11_set 54 [a0, a1, a2, a3, a4, some (.int x)] S M := (rn_at k_X11_set_52).trans rfl
theorem k_X11_set_54 : lk 54 C_X11_set = some (.aload_n 0, (0, 0, 0, 0)) := by decide +kernel
theorem s_X11_set_54 {ca : Nat → List Value → tM → tO} {M : tM} {a1 a2 a3 a4 a5 : Option Value} {x : Nat} {S : List Value} : rn ca C_X11_set 54 [some (.ref x), a1, a2, a3, a4, a5] S M = rn ca C_X11_set 55 [some (.ref x), a1, a2, a3, a4, a5] (.ref x :: S) M := (rn_at k_X11_set_54).trans rfl
theorem k_X11_set_55 : lk 55 C_X11_set = some (.getfield 32, (11, 7, 0, 152)) := by decide +kernel
theorem s_X11_set_55 {ca : Nat → List Value → tM → tO} {M : tM} {L : tL} {b : Nat} {S : List Value} : rn ca C_X11_set 55 L (.ref b :: S) M = if clsO b = some 11 then rn ca C_X11_set 58 L (fv M b 7 :: S) M else none := (rn_at k_X11_set_55).trans rnx_ite
theorem k_X11_set_58 : lk 58 C_X11_set = some (.sipush 160, (0, 0, 0, 0)) := by decide +kernel
theorem s_X11_set_58 {ca : Nat → List Value → tM → tO} {M : tM} {L : tL} {S : List Value} : rn ca C_X11_set 58 L S M = rn ca C_X11_set 61 L (.int (iI 160) :: S) M := (rn_at k_X11_set_58).trans rfl
theorem k_X11_set_61 : lk 61 C_X11_set = some (.iload_n 1, (0, 0, 0, 0)) := by decide +kernel
theorem s_X11_set_61 {ca : Nat → List Value → tM → tO} {M : tM} {a0 a2 a3 a4 a5 : Option Value} {x : Int32} {S : List Value} : rn ca C_X11_set 61 [a0, some (.int x), a2, a3, a4, a5] S M = rn ca C_X11_set 62 [a0, some (.int x), a2, a3, a4, a5] (.int x :: S) M := (rn_at k_X11_set_61).trans rfl
theorem k_X11_set_62 : lk 62 C_X11_set = some (.imul, (0, 0, 0, 0)) := by decide +kernel
theorem s_X11_set_62 {ca : Nat → List Value → tM → tO} {M : tM} {L : tL} {x y : Int32} {S : List Value} : rn ca C_X11_set 62 L (.int y :: .int x :: S) M = rn ca C_X11_set 63 L (.int (x * y) :: S) M := (rn_at k_X11_set_62).trans rfl
theorem k_X11_set_63 : lk 63 C_X11_set = some (.iload_n 2, (0, 0, 0, 0)) := by decide +kernel
theorem s_X11_set_63 {ca : Nat → List Value → tM → tO} {M : tM} {a0 a1 a3 a4 a5 : Option Value} {x : Int32} {S : List Value} : rn ca C_X11_set 63 [a0, a1, some (.int x), a3, a4, a5] S M = rn ca C_X11_set 64 [a0, a1, some (.int x), a3, a4, a5] (.int x :: S) M := (rn_at k_X11_set_63).trans rfl
theorem k_X11_set_64 : lk 64 C_X11_set = some (.iadd, (0, 0, 0, 0)) := by decide +kernel
theorem s_X11_set_64 {ca : Nat → List Value → tM → tO} {M : tM} {L : tL} {x y : Int32} {S : List Value} : rn ca C_X11_set 64 L (.int y :: .int x :: S) M = rn ca C_X11_set 65 L (.int (x + y) :: S) M := (rn_at k_X11_set_64).trans rfl
theorem k_X11_set_65 : lk 65 C_X11_set = some (.iload 5, (0, 0, 0, 0)) := by decide +kernel
theorem s_X11_set_65 {ca : Nat → List Value → tM → tO} {M : tM} {a0 a1 a2 a3 a4 : Option Value} {x : Int32} {S : List Value} : rn ca C_X11_set 65 [a0, a1, a2, a3, a4, some (.int x)] S M = rn ca C_X11_set 67 [a0, a1, a2, a3, a4, some (.int x)] (.int x :: S) M := (rn_at k_X11_set_65).trans rfl
theorem k_X11_set_67 : lk 67 C_X11_set = some (.ifCond .ne 10, (77, 0, 0, 0)) := by decide +kernel
theorem s_X11_set_67 {ca : Nat → List Value → tM → tO} {M : tM} {L : tL} {x : Int32} {S : List Value} : rn ca C_X11_set 67 L (.int x :: S) M = if ¬ x = iI 0 then rn ca C_X11_set 77 L S M else rn ca C_X11_set 70 L S M := (rn_at k_X11_set_67).trans rnx_ite
theorem k_X11_set_70 : lk 70 C_X11_set = some (.lload_n 3, (0, 0, 0, 0)) := by decide +kernel
theorem s_X11_set_70 {ca : Nat → List Value → tM → tO} {M : tM} {a0 a1 a2 a4 a5 : Option Value} {x : Int64} {S : List Value} : rn ca C_X11_set 70 [a0, a1, a2, some (.long x), a4, a5] S M = rn ca C_X11_set 71 [a0, a1, a2, some (.long x), a4, a5] (.long x :: S) M := (rn_at k_X11_set_70).trans rfl
theorem k_X11_set_71 : lk 71 C_X11_set = some (.l2i, (0, 0, 0, 0)) := by decide +kernel
theorem s_X11_set_71 {ca : Nat → List Value → tM → tO} {M : tM} {L : tL} {x : Int64} {S : List Value} : rn ca C_X11_set 71 L (.long x :: S) M = rn ca C_X11_set 72 L (.int x.toInt32 :: S) M := (rn_at k_X11_set_71).trans rfl
theorem k_X11_set_72 : lk 72 C_X11_set = some (.i2b, (0, 0, 0, 0)) := by decide +kernel
theorem s_X11_set_72 {ca : Nat → List Value → tM → tO} {M : tM} {L : tL} {x : Int32} {S : List Value} : rn ca C_X11_set 72 L (.int x :: S) M = rn ca C_X11_set 73 L (.int (x.toInt8.toInt32) :: S) M := (rn_at k_X11_set_72).trans rfl
theorem k_X11_set_73 : lk 73 C_X11_set = some (.i2l, (0, 0, 0, 0)) := by decide +kernel
theorem s_X11_set_73 {ca : Nat → List Value → tM → tO} {M : tM} {L : tL} {x : Int32} {S : List Value} : rn ca C_X11_set 73 L (.int x :: S) M = rn ca C_X11_set 74 L (.long x.toInt64 :: S) M := (rn_at k_X11_set_73).trans rfl
theorem k_X11_set_74 : lk 74 C_X11_set = some (.goto 29, (103, 0, 0, 0)) := by decide +kernel
theorem s_X11_set_74 {ca : Nat → List Value → tM → tO} {M : tM} {L : tL} {S : List Value} : rn ca C_X11_set 74 L S M = rn ca C_X11_set 103 L S M := (rn_at k_X11_set_74).trans rfl
theorem k_X11_set_77 : lk 77 C_X11_set = some (.iload 5, (0, 0, 0, 0)) := by decide +kernel
theorem s_X11_set_77 {ca : Nat → List Value → tM → tO} {M : tM} {a0 a1 a2 a3 a4 : Option Value} {x : Int32} {S : List Value} : rn ca C_X11_set 77 [a0, a1, a2, a3, a4, some (.int x)] S M = rn ca C_X11_set 79 [a0, a1, a2, a3, a4, some (.int x)] (.int x :: S) M := (rn_at k_X11_set_77).trans rfl
theorem k_X11_set_79 : lk 79 C_X11_set = some (.iconst 1, (0, 0, 0, 0)) := by decide +kernel
theorem s_X11_set_79 {ca : Nat → List Value → tM → tO} {M : tM} {L : tL} {S : List Value} : rn ca C_X11_set 79 L S M = rn ca C_X11_set 80 L (.int (iI 1) :: S) M := (rn_at k_X11_set_79).trans rfl
theorem k_X11_set_80 : lk 80 C_X11_set = some (.if_icmp .ne 10, (90, 0, 0, 0)) := by decide +kernel
theorem s_X11_set_80 {ca : Nat → List Value → tM → tO} {M : tM} {L : tL} {x y : Int32} {S : List Value} : rn ca C_X11_set 80 L (.int y :: .int x :: S) M = if ¬ x = y then rn ca C_X11_set 90 L S M else rn ca C_X11_set 83 L S M := (rn_at k_X11_set_80).trans rnx_ite
theorem k_X11_set_83 : lk 83 C_X11_set = some (.lload_n 3, (0, 0, 0, 0)) := by decide +kernel
theorem s_X11_set_83 {ca : Nat → List Value → tM → tO} {M : tM} {a0 a1 a2 a4 a5 : Option Value} {x : Int64} {S : List Value} : rn ca C_X11_set 83 [a0, a1, a2, some (.long x), a4, a5] S M = rn ca C_X11_set 84 [a0, a1, a2, some (.long x), a4, a5] (.long x :: S) M := (rn_at k_X11_set_83).trans rfl
theorem k_X11_set_84 : lk 84 C_X11_set = some (.l2i, (0, 0, 0, 0)) := by decide +kernel
theorem s_X11_set_84 {ca : Nat → List Value → tM → tO} {M : tM} {L : tL} {x : Int64} {S : List Value} : rn ca C_X11_set 84 L (.long x :: S) M = rn ca C_X11_set 85 L (.int x.toInt32 :: S) M := (rn_at k_X11_set_84).trans rfl
theorem k_X11_set_85 : lk 85 C_X11_set = some (.i2s, (0, 0, 0, 0)) := by decide +kernel
theorem s_X11_set_85 {ca : Nat → List Value → tM → tO} {M : tM} {L : tL} {x : Int32} {S : List Value} : rn ca C_X11_set 85 L (.int x :: S) M = rn ca C_X11_set 86 L (.int (x.toInt16.toInt32) :: S) M := (rn_at k_X11_set_85).trans rfl
theorem k_X11_set_86 : lk 86 C_X11_set = some (.i2l, (0, 0, 0, 0)) := by decide +kernel
theorem s_X11_set_86 {ca : Nat → List Value → tM → tO} {M : tM} {L : tL} {x : Int32} {S : List Value} : rn ca C_X11_set 86 L (.int x :: S) M = rn ca C_X11_set 87 L (.long x.toInt64 :: S) M := (rn_at k_X11_set_86).trans rfl
theorem k_X11_set_87 : lk 87 C_X11_set = some (.goto 16, (103, 0, 0, 0)) := by decide +kernel
theorem s_X11_set_87 {ca : Nat → List Value → tM → tO} {M : tM} {L : tL} {S : List Value} : rn ca C_X11_set 87 L S M = rn ca C_X11_set 103 L S M := (rn_at k_X11_set_87).trans rfl
theorem k_X11_set_90 : lk 90 C_X11_set = some (.iload 5, (0, 0, 0, 0)) := by decide +kernel
theorem s_X11_set_90 {ca : Nat → List Value → tM → tO} {M : tM} {a0 a1 a2 a3 a4 : Option Value} {x : Int32} {S : List Value} : rn ca C_X11_set 90 [a0, a1, a2, a3, a4, some (.int x)] S M = rn ca C_X11_set 92 [a0, a1, a2, a3, a4, some (.int x)] (.int x :: S) M := (rn_at k_X11_set_90).trans rfl
theorem k_X11_set_92 : lk 92 C_X11_set = some (.iconst 2, (0, 0, 0, 0)) := by decide +kernel
theorem s_X11_set_92 {ca : Nat → List Value → tM → tO} {M : tM} {L : tL} {S : List Value} : rn ca C_X11_set 92 L S M = rn ca C_X11_set 93 L (.int (iI 2) :: S) M := (rn_at k_X11_set_92).trans rfl
theorem k_X11_set_93 : lk 93 C_X11_set = some (.if_icmp .ne 9, (102, 0, 0, 0)) := by decide +kernel
theorem s_X11_set_93 {ca : Nat → List Value → tM → tO} {M : tM} {L : tL} {x y : Int32} {S : List Value} : rn ca C_X11_set 93 L (.int y :: .int x :: S) M = if ¬ x = y then rn ca C_X11_set 102 L S M else rn ca C_X11_set 96 L S M := (rn_at k_X11_set_93).trans rnx_ite
theorem k_X11_set_96 : lk 96 C_X11_set = some (.lload_n 3, (0, 0, 0, 0)) := by decide +kernel
theorem s_X11_set_96 {ca : Nat → List Value → tM → tO} {M : tM} {a0 a1 a2 a4 a5 : Option Value} {x : Int64} {S : List Value} : rn ca C_X11_set 96 [a0, a1, a2, some (.long x), a4, a5] S M = rn ca C_X11_set 97 [a0, a1, a2, some (.long x), a4, a5] (.long x :: S) M := (rn_at k_X11_set_96).trans rfl
theorem k_X11_set_97 : lk 97 C_X11_set = some (.l2i, (0, 0, 0, 0)) := by decide +kernel
theorem s_X11_set_97 {ca : Nat → List Value → tM → tO} {M : tM} {L : tL} {x : Int64} {S : List Value} : rn ca C_X11_set 97 L (.long x :: S) M = rn ca C_X11_set 98 L (.int x.toInt32 :: S) M := (rn_at k_X11_set_97).trans rfl
theorem k_X11_set_98 : lk 98 C_X11_set = some (.i2l, (0, 0, 0, 0)) := by decide +kernel
theorem s_X11_set_98 {ca : Nat → List Value → tM → tO} {M : tM} {L : tL} {x : Int32} {S : List Value} : rn ca C_X11_set 98 L (.int x :: S) M = rn ca C_X11_set 99 L (.long x.toInt64 :: S) M := (rn_at k_X11_set_98).trans rfl
theorem k_X11_set_99 : lk 99 C_X11_set = some (.goto 4, (103, 0, 0, 0)) := by decide +kernel
theorem s_X11_set_99 {ca : Nat → List Value → tM → tO} {M : tM} {L : tL} {S : List Value} : rn ca C_X11_set 99 L S M = rn ca C_X11_set 103 L S M := (rn_at k_X11_set_99).trans rfl
theorem k_X11_set_102 : lk 102 C_X11_set = some (.lload_n 3, (0, 0, 0, 0)) := by decide +kernel
theorem s_X11_set_102 {ca : Nat → List Value → tM → tO} {M : tM} {a0 a1 a2 a4 a5 : Option Value} {x : Int64} {S : List Value} : rn ca C_X11_set 102 [a0, a1, a2, some (.long x), a4, a5] S M = rn ca C_X11_set 103 [a0, a1, a2, some (.long x), a4, a5] (.long x :: S) M := (rn_at k_X11_set_102).trans rfl
theorem k_X11_set_103 : lk 103 C_X11_set = some (.lastore, (0, 0, 0, 0)) := by decide +kernel
theorem s_X11_set_103 {ca : Nat → List Value → tM → tO} {M : tM} {L : tL} {a : Nat} {i : Int32} {x : Int64} {S : List Value} : rn ca C_X11_set 103 L (.long x :: .int i :: .ref a :: S) M = if akind a = 2 ∧ inb i (alen M a) then rn ca C_X11_set 104 L S (sJ M a i.toInt.toNat x) else none := (rn_at k_X11_set_103).trans rnx_ite
theorem k_X11_set_104 : lk 104 C_X11_set = some (.iconst 1, (0, 0, 0, 0)) := by decide +kernel
theorem s_X11_set_104 {ca : Nat → List Value → tM → tO} {M : tM} {L : tL} {S : List Value} : rn ca C_X11_set 104 L S M = rn ca C_X11_set 105 L (.int (iI 1) :: S) M := (rn_at k_X11_set_104).trans rfl
theorem k_X11_set_105 : lk 105 C_X11_set = some (.ireturn, (0, 0, 0, 0)) := by decide +kernel
theorem s_X11_set_105 {ca : Nat → List Value → tM → tO} {M : tM} {L : tL} {x : Int32} : rn ca C_X11_set 105 L [.int x] M = some (some (.int x), M) := (rn_at k_X11_set_105).trans rfl
theorem k_X11_isCapsuleIn_0 : lk 0 C_X11_isCapsuleIn = some (.aload_n 0, (0, 0, 0, 0)) := by decide +kernel
theorem s_X11_isCapsuleIn_0 {ca : Nat → List Value → tM → tO} {M : tM} {a1 : Option Value} {x : Nat} {S : List Value} : rn ca C_X11_isCapsuleIn 0 [some (.ref x), a1] S M = rn ca C_X11_isCapsuleIn 1 [some (.ref x), a1] (.ref x :: S) M := (rn_at k_X11_isCapsuleIn_0).trans rfl
theorem k_X11_isCapsuleIn_1 : lk 1 C_X11_isCapsuleIn = some (.getfield 26, (11, 5, 0, 150)) := by decide +kernel
theorem s_X11_isCapsuleIn_1 {ca : Nat → List Value → tM → tO} {M : tM} {L : tL} {b : Nat} {S : List Value} : rn ca C_X11_isCapsuleIn 1 L (.ref b :: S) M = if clsO b = some 11 then rn ca C_X11_isCapsuleIn 4 L (fv M b 5 :: S) M else none := (rn_at k_X11_isCapsuleIn_1).trans rnx_ite
theorem k_X11_isCapsuleIn_4 : lk 4 C_X11_isCapsuleIn = some (.iload_n 1, (0, 0, 0, 0)) := by decide +kernel
theorem s_X11_isCapsuleIn_4 {ca : Nat → List Value → tM → tO} {M : tM} {a0 : Option Value} {x : Int32} {S : List Value} : rn ca C_X11_isCapsuleIn 4 [a0, some (.int x)] S M = rn ca C_X11_isCapsuleIn 5 [a0, some (.int x)] (.int x :: S) M := (rn_at k_X11_isCapsuleIn_4).trans rfl
theorem k_X11_isCapsuleIn_5 : lk 5 C_X11_isCapsuleIn = some (.iaload, (0, 0, 0, 0)) := by decide +kernel
theorem s_X11_isCapsuleIn_5 {ca : Nat → List Value → tM → tO} {M : tM} {L : tL} {a : Nat} {i : Int32} {S : List Value} : rn ca C_X11_isCapsuleIn 5 L (.int i :: .ref a :: S) M = if (akind a = 0 ∨ akind a = 6 ∨ akind a = 7) ∧ inb i (alen M a) then rn ca C_X11_isCapsuleIn 6 L (.int (M.1 a i.toInt.toNat) :: S) M else none := (rn_at k_X11_isCapsuleIn_5).trans rnx_ite
theorem k_X11_isCapsuleIn_6 : lk 6 C_X11_isCapsuleIn = some (.i2l, (0, 0, 0, 0)) := by decide +kernel
theorem s_X11_isCapsuleIn_6 {ca : Nat → List Value → tM → tO} {M : tM} {L : tL} {x : Int32} {S : List Value} : rn ca C_X11_isCapsuleIn 6 L (.int x :: S) M = rn ca C_X11_isCapsuleIn 7 L (.long x.toInt64 :: S) M := (rn_at k_X11_isCapsuleIn_6).trans rfl
theorem k_X11_isCapsuleIn_7 : lk 7 C_X11_isCapsuleIn = some (.lconst 0, (0, 0, 0, 0)) := by decide +kernel
theorem s_X11_isCapsuleIn_7 {ca : Nat → List Value → tM → tO} {M : tM} {L : tL} {S : List Value} : rn ca C_X11_isCapsuleIn 7 L S M = rn ca C_X11_isCapsuleIn 8 L (.long (jJ 0) :: S) M := (rn_at k_X11_isCapsuleIn_7).trans rfl
theorem k_X11_isCapsuleIn_8 : lk 8 C_X11_isCapsuleIn = some (.ldc2_w 129, (0, 0, 99, 273)) := by decide +kernel
theorem s_X11_isCapsuleIn_8 {ca : Nat → List Value → tM → tO} {M : tM} {L : tL} {S : List Value} : rn ca C_X11_isCapsuleIn 8 L S M = rn ca C_X11_isCapsuleIn 11 L (.long (jJ 99) :: S) M := (rn_at k_X11_isCapsuleIn_8).trans rfl
theorem k_X11_isCapsuleIn_11 : lk 11 C_X11_isCapsuleIn = some (.invokestatic 87, (143, 3, 0, 197)) := by decide +kernel
theorem s_X11_isCapsuleIn_11 {ca : Nat → List Value → tM → tO} {M : tM} {L : tL} {v1 v2 v3 : Value} : rn ca C_X11_isCapsuleIn 11 L [v3, v2, v1] M = rnk ca C_X11_isCapsuleIn 14 L [] (ca m_X11_isIn [v1, v2, v3] M) := (rn_at k_X11_isCapsuleIn_11).trans rfl
theorem k_X11_isCapsuleIn_14 : lk 14 C_X11_isCapsuleIn = some (.ireturn, (1, 0, 0, 0)) := by decide +kernel
theorem s_X11_isCapsuleIn_14 {ca : Nat → List Value → tM → tO} {M : tM} {L : tL} {x : Int32} : rn ca C_X11_isCapsuleIn 14 L [.int x] M = if x = iI 0 ∨ x = iI 1 then some (some (.int x), M) else none := (rn_at k_X11_isCapsuleIn_14).trans rnx_ite
theorem k_X11_copy_0 : lk 0 C_X11_copy = some (.iload_n 1, (0, 0, 0, 0)) := by decide +kernel
theorem s_X11_copy_0 {ca : Nat → List Value → tM → tO} {M : tM} {a0 a2 a3 a4 a5 a6 a7 : Option Value} {x : Int32} {S : List Value} : rn ca C_X11_copy 0 [a0, some (.int x), a2, a3, a4, a5, a6, a7] S M = rn ca C_X11_copy 1 [a0, some (.int x), a2, a3, a4, a5, a6, a7] (.int x :: S) M := (rn_at k_X11_copy_0).trans rfl
theorem k_X11_copy_1 : lk 1 C_X11_copy = some (.invokestatic 123, (170, 1, 0, 193)) := by decide +kernel
theorem s_X11_copy_1 {ca : Nat → List Value → tM → tO} {M : tM} {L : tL} {v1 : Value} : rn ca C_X11_copy 1 L [v1] M = rnk ca C_X11_copy 4 L [] (ca m_X11_isShelf [v1] M) := (rn_at k_X11_copy_1).trans rfl
theorem k_X11_copy_4 : lk 4 C_X11_copy = some (.ifCond .eq 10, (14, 0, 0, 0)) := by decide +kernel
theorem s_X11_copy_4 {ca : Nat → List Value → tM → tO} {M : tM} {L : tL} {x : Int32} {S : List Value} : rn ca C_X11_copy 4 L (.int x :: S) M = if x = iI 0 then rn ca C_X11_copy 14 L S M else rn ca C_X11_copy 7 L S M := (rn_at k_X11_copy_4).trans rnx_ite
theorem k_X11_copy_7 : lk 7 C_X11_copy = some (.iload_n 2, (0, 0, 0, 0)) := by decide +kernel
theorem s_X11_copy_7 {ca : Nat → List Value → tM → tO} {M : tM} {a0 a1 a3 a4 a5 a6 a7 : Option Value} {x : Int32} {S : List Value} : rn ca C_X11_copy 7 [a0, a1, some (.int x), a3, a4, a5, a6, a7] S M = rn ca C_X11_copy 8 [a0, a1, some (.int x), a3, a4, a5, a6, a7] (.int x :: S) M := (rn_at k_X11_copy_7).trans rfl
theorem k_X11_copy_8 : lk 8 C_X11_copy = some (.invokestatic 123, (170, 1, 0, 193)) := by decide +kernel
theorem s_X11_copy_8 {ca : Nat → List Value → tM → tO} {M : tM} {L : tL} {v1 : Value} : rn ca C_X11_copy 8 L [v1] M = rnk ca C_X11_copy 11 L [] (ca m_X11_isShelf [v1] M) := (rn_at k_X11_copy_8).trans rfl
theorem k_X11_copy_11 : lk 11 C_X11_copy = some (.ifCond .ne 9, (20, 0, 0, 0)) := by decide +kernel
theorem s_X11_copy_11 {ca : Nat → List Value → tM → tO} {M : tM} {L : tL} {x : Int32} {S : List Value} : rn ca C_X11_copy 11 L (.int x :: S) M = if ¬ x = iI 0 then rn ca C_X11_copy 20 L S M else rn ca C_X11_copy 14 L S M := (rn_at k_X11_copy_11).trans rnx_ite
theorem k_X11_copy_14 : lk 14 C_X11_copy = some (.aload_n 0, (0, 0, 0, 0)) := by decide +kernel
theorem s_X11_copy_14 {ca : Nat → List Value → tM → tO} {M : tM} {a1 a2 a3 a4 a5 a6 a7 : Option Value} {x : Nat} {S : List Value} : rn ca C_X11_copy 14 [some (.ref x), a1, a2, a3, a4, a5, a6, a7] S M = rn ca C_X11_copy 15 [some (.ref x), a1, a2, a3, a4, a5, a6, a7] (.ref x :: S) M := (rn_at k_X11_copy_14).trans rfl
theorem k_X11_copy_15 : lk 15 C_X11_copy = some (.iconst (-1), (0, 0, 0, 0)) := by decide +kernel
theorem s_X11_copy_15 {ca : Nat → List Value → tM → tO} {M : tM} {L : tL} {S : List Value} : rn ca C_X11_copy 15 L S M = rn ca C_X11_copy 16 L (.int (iI (-1)) :: S) M := (rn_at k_X11_copy_15).trans rfl
theorem k_X11_copy_16 : lk 16 C_X11_copy = some (.invokevirtual 83, (144, 1, 11, 200)) := by decide +kernel
theorem s_X11_copy_16 {ca : Nat → List Value → tM → tO} {M : tM} {L : tL} {v1 : Value} {b : Nat} : rn ca C_X11_copy 16 L [v1, .ref b] M = if clsO b = some 11 then rnk ca C_X11_copy 19 L [] (ca m_X11_refuse [.ref b, v1] M) else none := (rn_at k_X11_copy_16).trans rnx_ite
theorem k_X11_copy_19 : lk 19 C_X11_copy = some (.ireturn, (0, 0, 0, 0)) := by decide +kernel
theorem s_X11_copy_19 {ca : Nat → List Value → tM → tO} {M : tM} {L : tL} {x : Int32} : rn ca C_X11_copy 19 L [.int x] M = some (some (.int x), M) := (rn_at k_X11_copy_19).trans rfl
theorem k_X11_copy_20 : lk 20 C_X11_copy = some (.aload_n 0, (0, 0, 0, 0)) := by decide +kernel
theorem s_X11_copy_20 {ca : Nat → List Value → tM → tO} {M : tM} {a1 a2 a3 a4 a5 a6 a7 : Option Value} {x : Nat} {S : List Value} : rn ca C_X11_copy 20 [some (.ref x), a1, a2, a3, a4, a5, a6, a7] S M = rn ca C_X11_copy 21 [some (.ref x), a1, a2, a3, a4, a5, a6, a7] (.ref x :: S) M := (rn_at k_X11_copy_20).trans rfl
theorem k_X11_copy_21 : lk 21 C_X11_copy = some (.getfield 26, (11, 5, 0, 150)) := by decide +kernel
theorem s_X11_copy_21 {ca : Nat → List Value → tM → tO} {M : tM} {L : tL} {b : Nat} {S : List Value} : rn ca C_X11_copy 21 L (.ref b :: S) M = if clsO b = some 11 then rn ca C_X11_copy 24 L (fv M b 5 :: S) M else none := (rn_at k_X11_copy_21).trans rnx_ite
theorem k_X11_copy_24 : lk 24 C_X11_copy = some (.iload_n 1, (0, 0, 0, 0)) := by decide +kernel
theorem s_X11_copy_24 {ca : Nat → List Value → tM → tO} {M : tM} {a0 a2 a3 a4 a5 a6 a7 : Option Value} {x : Int32} {S : List Value} : rn ca C_X11_copy 24 [a0, some (.int x), a2, a3, a4, a5, a6, a7] S M = rn ca C_X11_copy 25 [a0, some (.int x), a2, a3, a4, a5, a6, a7] (.int x :: S) M := (rn_at k_X11_copy_24).trans rfl
theorem k_X11_copy_25 : lk 25 C_X11_copy = some (.iaload, (0, 0, 0, 0)) := by decide +kernel
theorem s_X11_copy_25 {ca : Nat → List Value → tM → tO} {M : tM} {L : tL} {a : Nat} {i : Int32} {S : List Value} : rn ca C_X11_copy 25 L (.int i :: .ref a :: S) M = if (akind a = 0 ∨ akind a = 6 ∨ akind a = 7) ∧ inb i (alen M a) then rn ca C_X11_copy 26 L (.int (M.1 a i.toInt.toNat) :: S) M else none := (rn_at k_X11_copy_25).trans rnx_ite
theorem k_X11_copy_26 : lk 26 C_X11_copy = some (.iconst (-1), (0, 0, 0, 0)) := by decide +kernel
theorem s_X11_copy_26 {ca : Nat → List Value → tM → tO} {M : tM} {L : tL} {S : List Value} : rn ca C_X11_copy 26 L S M = rn ca C_X11_copy 27 L (.int (iI (-1)) :: S) M := (rn_at k_X11_copy_26).trans rfl
theorem k_X11_copy_27 : lk 27 C_X11_copy = some (.if_icmp .eq 17, (44, 0, 0, 0)) := by decide +kernel
theorem s_X11_copy_27 {ca : Nat → List Value → tM → tO} {M : tM} {L : tL} {x y : Int32} {S : List Value} : rn ca C_X11_copy 27 L (.int y :: .int x :: S) M = if x = y then rn ca C_X11_copy 44 L S M else rn ca C_X11_copy 30 L S M := (rn_at k_X11_copy_27).trans rnx_ite
theorem k_X11_copy_30 : lk 30 C_X11_copy = some (.aload_n 0, (0, 0, 0, 0)) := by decide +kernel
theorem s_X11_copy_30 {ca : Nat → List Value → tM → tO} {M : tM} {a1 a2 a3 a4 a5 a6 a7 : Option Value} {x : Nat} {S : List Value} : rn ca C_X11_copy 30 [some (.ref x), a1, a2, a3, a4, a5, a6, a7] S M = rn ca C_X11_copy 31 [some (.ref x), a1, a2, a3, a4, a5, a6, a7] (.ref x :: S) M := (rn_at k_X11_copy_30).trans rfl
theorem k_X11_copy_31 : lk 31 C_X11_copy = some (.getfield 26, (11, 5, 0, 150)) := by decide +kernel
theorem s_X11_copy_31 {ca : Nat → List Value → tM → tO} {M : tM} {L : tL} {b : Nat} {S : List Value} : rn ca C_X11_copy 31 L (.ref b :: S) M = if clsO b = some 11 then rn ca C_X11_copy 34 L (fv M b 5 :: S) M else none := (rn_at k_X11_copy_31).trans rnx_ite
theorem k_X11_copy_34 : lk 34 C_X11_copy = some (.iload_n 2, (0, 0, 0, 0)) := by decide +kernel
theorem s_X11_copy_34 {ca : Nat → List Value → tM → tO} {M : tM} {a0 a1 a3 a4 a5 a6 a7 : Option Value} {x : Int32} {S : List Value} : rn ca C_X11_copy 34 [a0, a1, some (.int x), a3, a4, a5, a6, a7] S M = rn ca C_X11_copy 35 [a0, a1, some (.int x), a3, a4, a5, a6, a7] (.int x :: S) M := (rn_at k_X11_copy_34).trans rfl
theorem k_X11_copy_35 : lk 35 C_X11_copy = some (.iaload, (0, 0, 0, 0)) := by decide +kernel
theorem s_X11_copy_35 {ca : Nat → List Value → tM → tO} {M : tM} {L : tL} {a : Nat} {i : Int32} {S : List Value} : rn ca C_X11_copy 35 L (.int i :: .ref a :: S) M = if (akind a = 0 ∨ akind a = 6 ∨ akind a = 7) ∧ inb i (alen M a) then rn ca C_X11_copy 36 L (.int (M.1 a i.toInt.toNat) :: S) M else none := (rn_at k_X11_copy_35).trans rnx_ite
theorem k_X11_copy_36 : lk 36 C_X11_copy = some (.iconst (-1), (0, 0, 0, 0)) := by decide +kernel
theorem s_X11_copy_36 {ca : Nat → List Value → tM → tO} {M : tM} {L : tL} {S : List Value} : rn ca C_X11_copy 36 L S M = rn ca C_X11_copy 37 L (.int (iI (-1)) :: S) M := (rn_at k_X11_copy_36).trans rfl
theorem k_X11_copy_37 : lk 37 C_X11_copy = some (.if_icmp .eq 7, (44, 0, 0, 0)) := by decide +kernel
theorem s_X11_copy_37 {ca : Nat → List Value → tM → tO} {M : tM} {L : tL} {x y : Int32} {S : List Value} : rn ca C_X11_copy 37 L (.int y :: .int x :: S) M = if x = y then rn ca C_X11_copy 44 L S M else rn ca C_X11_copy 40 L S M := (rn_at k_X11_copy_37).trans rnx_ite
theorem k_X11_copy_40 : lk 40 C_X11_copy = some (.iconst 1, (0, 0, 0, 0)) := by decide +kernel
theorem s_X11_copy_40 {ca : Nat → List Value → tM → tO} {M : tM} {L : tL} {S : List Value} : rn ca C_X11_copy 40 L S M = rn ca C_X11_copy 41 L (.int (iI 1) :: S) M := (rn_at k_X11_copy_40).trans rfl
theorem k_X11_copy_41 : lk 41 C_X11_copy = some (.goto 4, (45, 0, 0, 0)) := by decide +kernel
theorem s_X11_copy_41 {ca : Nat → List Value → tM → tO} {M : tM} {L : tL} {S : List Value} : rn ca C_X11_copy 41 L S M = rn ca C_X11_copy 45 L S M := (rn_at k_X11_copy_41).trans rfl
theorem k_X11_copy_44 : lk 44 C_X11_copy = some (.iconst 0, (0, 0, 0, 0)) := by decide +kernel
theorem s_X11_copy_44 {ca : Nat → List Value → tM → tO} {M : tM} {L : tL} {S : List Value} : rn ca C_X11_copy 44 L S M = rn ca C_X11_copy 45 L (.int (iI 0) :: S) M := (rn_at k_X11_copy_44).trans rfl
theorem k_X11_copy_45 : lk 45 C_X11_copy = some (.istore 6, (0, 0, 0, 0)) := by decide +kernel
theorem s_X11_copy_45 {ca : Nat → List Value → tM → tO} {M : tM} {a0 a1 a2 a3 a4 a5 a6 a7 : Option Value} {x : Int32} {S : List Value} : rn ca C_X11_copy 45 [a0, a1, a2, a3, a4, a5, a6, a7] (.int x :: S) M = rn ca C_X11_copy 47 [a0, a1, a2, a3, a4, a5, some (.int x), a7] S M := (rn_at k_X11_copy_45).trans rfl
theorem k_X11_copy_47 : lk 47 C_X11_copy = some (.aload_n 0, (0, 0, 0, 0)) := by decide +kernel
theorem s_X11_copy_47 {ca : Nat → List Value → tM → tO} {M : tM} {a1 a2 a3 a4 a5 a6 a7 : Option Value} {x : Nat} {S : List Value} : rn ca C_X11_copy 47 [some (.ref x), a1, a2, a3, a4, a5, a6, a7] S M = rn ca C_X11_copy 48 [some (.ref x), a1, a2, a3, a4, a5, a6, a7] (.ref x :: S) M := (rn_at k_X11_copy_47).trans rfl
theorem k_X11_copy_48 : lk 48 C_X11_copy = some (.iload_n 1, (0, 0, 0, 0)) := by decide +kernel
theorem s_X11_copy_48 {ca : Nat → List Value → tM → tO} {M : tM} {a0 a2 a3 a4 a5 a6 a7 : Option Value} {x : Int32} {S : List Value} : rn ca C_X11_copy 48 [a0, some (.int x), a2, a3, a4, a5, a6, a7] S M = rn ca C_X11_copy 49 [a0, some (.int x), a2, a3, a4, a5, a6, a7] (.int x :: S) M := (rn_at k_X11_copy_48).trans rfl
theorem k_X11_copy_49 : lk 49 C_X11_copy = some (.invokevirtual 131, (174, 1, 11, 269)) := by decide +kernel
theorem s_X11_copy_49 {ca : Nat → List Value → tM → tO} {M : tM} {L : tL} {v1 : Value} {b : Nat} : rn ca C_X11_copy 49 L [v1, .ref b] M = if clsO b = some 11 then rnk ca C_X11_copy 52 L [] (ca m_X11_isCapsuleIn [.ref b, v1] M) else none := (rn_at k_X11_copy_49).trans rnx_ite
theorem k_X11_copy_52 : lk 52 C_X11_copy = some (.ifCond .ne 31, (83, 0, 0, 0)) := by decide +kernel
theorem s_X11_copy_52 {ca : Nat → List Value → tM → tO} {M : tM} {L : tL} {x : Int32} {S : List Value} : rn ca C_X11_copy 52 L (.int x :: S) M = if ¬ x = iI 0 then rn ca C_X11_copy 83 L S M else rn ca C_X11_copy 55 L S M := (rn_at k_X11_copy_52).trans rnx_ite
theorem k_X11_copy_55 : lk 55 C_X11_copy = some (.aload_n 0, (0, 0, 0, 0)) := by decide +kernel
theorem s_X11_copy_55 {ca : Nat → List Value → tM → tO} {M : tM} {a1 a2 a3 a4 a5 a6 a7 : Option Value} {x : Nat} {S : List Value} : rn ca C_X11_copy 55 [some (.ref x), a1, a2, a3, a4, a5, a6, a7] S M = rn ca C_X11_copy 56 [some (.ref x), a1, a2, a3, a4, a5, a6, a7] (.ref x :: S) M := (rn_at k_X11_copy_55).trans rfl
theorem k_X11_copy_56 : lk 56 C_X11_copy = some (.iload_n 2, (0, 0, 0, 0)) := by decide +kernel
theorem s_X11_copy_56 {ca : Nat → List Value → tM → tO} {M : tM} {a0 a1 a3 a4 a5 a6 a7 : Option Value} {x : Int32} {S : List Value} : rn ca C_X11_copy 56 [a0, a1, some (.int x), a3, a4, a5, a6, a7] S M = rn ca C_X11_copy 57 [a0, a1, some (.int x), a3, a4, a5, a6, a7] (.int x :: S) M := (rn_at k_X11_copy_56).trans rfl
theorem k_X11_copy_57 : lk 57 C_X11_copy = some (.invokevirtual 131, (174, 1, 11, 269)) := by decide +kernel
theorem s_X11_copy_57 {ca : Nat → List Value → tM → tO} {M : tM} {L : tL} {v1 : Value} {b : Nat} : rn ca C_X11_copy 57 L [v1, .ref b] M = if clsO b = some 11 then rnk ca C_X11_copy 60 L [] (ca m_X11_isCapsuleIn [.ref b, v1] M) else none := (rn_at k_X11_copy_57).trans rnx_ite
theorem k_X11_copy_60 : lk 60 C_X11_copy = some (.ifCond .ne 23, (83, 0, 0, 0)) := by decide +kernel
theorem s_X11_copy_60 {ca : Nat → List Value → tM → tO} {M : tM} {L : tL} {x : Int32} {S : List Value} : rn ca C_X11_copy 60 L (.int x :: S) M = if ¬ x = iI 0 then rn ca C_X11_copy 83 L S M else rn ca C_X11_copy 63 L S M := (rn_at k_X11_copy_60).trans rnx_ite
theorem k_X11_copy_63 : lk 63 C_X11_copy = some (.iload 6, (0, 0, 0, 0)) := by decide +kernel
theorem s_X11_copy_63 {ca : Nat → List Value → tM → tO} {M : tM} {a0 a1 a2 a3 a4 a5 a7 : Option Value} {x : Int32} {S : List Value} : rn ca C_X11_copy 63 [a0, a1, a2, a3, a4, a5, some (.int x), a7] S M = rn ca C_X11_copy 65 [a0, a1, a2, a3, a4, a5, some (.int x), a7] (.int x :: S) M := (rn_at k_X11_copy_63).trans rfl
theorem k_X11_copy_65 : lk 65 C_X11_copy = some (.ifCond .eq 25, (90, 0, 0, 0)) := by decide +kernel
theorem s_X11_copy_65 {ca : Nat → List Value → tM → tO} {M : tM} {L : tL} {x : Int32} {S : List Value} : rn ca C_X11_copy 65 L (.int x :: S) M = if x = iI 0 then rn ca C_X11_copy 90 L S M else rn ca C_X11_copy 68 L S M := (rn_at k_X11_copy_65).trans rnx_ite
theorem k_X11_copy_68 : lk 68 C_X11_copy = some (.aload_n 0, (0, 0, 0, 0)) := by decide +kernel
theorem s_X11_copy_68 {ca : Nat → List Value → tM → tO} {M : tM} {a1 a2 a3 a4 a5 a6 a7 : Option Value} {x : Nat} {S : List Value} : rn ca C_X11_copy 68 [some (.ref x), a1, a2, a3, a4, a5, a6, a7] S M = rn ca C_X11_copy 69 [some (.ref x), a1, a2, a3, a4, a5, a6, a7] (.ref x :: S) M := (rn_at k_X11_copy_68).trans rfl
theorem k_X11_copy_69 : lk 69 C_X11_copy = some (.getfield 26, (11, 5, 0, 150)) := by decide +kernel
theorem s_X11_copy_69 {ca : Nat → List Value → tM → tO} {M : tM} {L : tL} {b : Nat} {S : List Value} : rn ca C_X11_copy 69 L (.ref b :: S) M = if clsO b = some 11 then rn ca C_X11_copy 72 L (fv M b 5 :: S) M else none := (rn_at k_X11_copy_69).trans rnx_ite
theorem k_X11_copy_72 : lk 72 C_X11_copy = some (.iload_n 1, (0, 0, 0, 0)) := by decide +kernel
theorem s_X11_copy_72 {ca : Nat → List Value → tM → tO} {M : tM} {a0 a2 a3 a4 a5 a6 a7 : Option Value} {x : Int32} {S : List Value} : rn ca C_X11_copy 72 [a0, some (.int x), a2, a3, a4, a5, a6, a7] S M = rn ca C_X11_copy 73 [a0, some (.int x), a2, a3, a4, a5, a6, a7] (.int x :: S) M := (rn_at k_X11_copy_72).trans rfl
theorem k_X11_copy_73 : lk 73 C_X11_copy = some (.iaload, (0, 0, 0, 0)) := by decide +kernel
theorem s_X11_copy_73 {ca : Nat → List Value → tM → tO} {M : tM} {L : tL} {a : Nat} {i : Int32} {S : List Value} : rn ca C_X11_copy 73 L (.int i :: .ref a :: S) M = if (akind a = 0 ∨ akind a = 6 ∨ akind a = 7) ∧ inb i (alen M a) then rn ca C_X11_copy 74 L (.int (M.1 a i.toInt.toNat) :: S) M else none := (rn_at k_X11_copy_73).trans rnx_ite
theorem k_X11_copy_74 : lk 74 C_X11_copy = some (.aload_n 0, (0, 0, 0, 0)) := by decide +kernel
theorem s_X11_copy_74 {ca : Nat → List Value → tM → tO} {M : tM} {a1 a2 a3 a4 a5 a6 a7 : Option Value} {x : Nat} {S : List Value} : rn ca C_X11_copy 74 [some (.ref x), a1, a2, a3, a4, a5, a6, a7] S M = rn ca C_X11_copy 75 [some (.ref x), a1, a2, a3, a4, a5, a6, a7] (.ref x :: S) M := (rn_at k_X11_copy_74).trans rfl
theorem k_X11_copy_75 : lk 75 C_X11_copy = some (.getfield 26, (11, 5, 0, 150)) := by decide +kernel
theorem s_X11_copy_75 {ca : Nat → List Value → tM → tO} {M : tM} {L : tL} {b : Nat} {S : List Value} : rn ca C_X11_copy 75 L (.ref b :: S) M = if clsO b = some 11 then rn ca C_X11_copy 78 L (fv M b 5 :: S) M else none := (rn_at k_X11_copy_75).trans rnx_ite
theorem k_X11_copy_78 : lk 78 C_X11_copy = some (.iload_n 2, (0, 0, 0, 0)) := by decide +kernel
theorem s_X11_copy_78 {ca : Nat → List Value → tM → tO} {M : tM} {a0 a1 a3 a4 a5 a6 a7 : Option Value} {x : Int32} {S : List Value} : rn ca C_X11_copy 78 [a0, a1, some (.int x), a3, a4, a5, a6, a7] S M = rn ca C_X11_copy 79 [a0, a1, some (.int x), a3, a4, a5, a6, a7] (.int x :: S) M := (rn_at k_X11_copy_78).trans rfl
theorem k_X11_copy_79 : lk 79 C_X11_copy = some (.iaload, (0, 0, 0, 0)) := by decide +kernel
theorem s_X11_copy_79 {ca : Nat → List Value → tM → tO} {M : tM} {L : tL} {a : Nat} {i : Int32} {S : List Value} : rn ca C_X11_copy 79 L (.int i :: .ref a :: S) M = if (akind a = 0 ∨ akind a = 6 ∨ akind a = 7) ∧ inb i (alen M a) then rn ca C_X11_copy 80 L (.int (M.1 a i.toInt.toNat) :: S) M else none := (rn_at k_X11_copy_79).trans rnx_ite
theorem k_X11_copy_80 : lk 80 C_X11_copy = some (.if_icmp .eq 10, (90, 0, 0, 0)) := by decide +kernel
theorem s_X11_copy_80 {ca : Nat → List Value → tM → tO} {M : tM} {L : tL} {x y : Int32} {S : List Value} : rn ca C_X11_copy 80 L (.int y :: .int x :: S) M = if x = y then rn ca C_X11_copy 90 L S M else rn ca C_X11_copy 83 L S M := (rn_at k_X11_copy_80).trans rnx_ite
theorem k_X11_copy_83 : lk 83 C_X11_copy = some (.aload_n 0, (0, 0, 0, 0)) := by decide +kernel
theorem s_X11_copy_83 {ca : Nat → List Value → tM → tO} {M : tM} {a1 a2 a3 a4 a5 a6 a7 : Option Value} {x : Nat} {S : List Value} : rn ca C_X11_copy 83 [some (.ref x), a1, a2, a3, a4, a5, a6, a7] S M = rn ca C_X11_copy 84 [some (.ref x), a1, a2, a3, a4, a5, a6, a7] (.ref x :: S) M := (rn_at k_X11_copy_83).trans rfl
theorem k_X11_copy_84 : lk 84 C_X11_copy = some (.bipush (-2), (0, 0, 0, 0)) := by decide +kernel
theorem s_X11_copy_84 {ca : Nat → List Value → tM → tO} {M : tM} {L : tL} {S : List Value} : rn ca C_X11_copy 84 L S M = rn ca C_X11_copy 86 L (.int (iI (-2)) :: S) M := (rn_at k_X11_copy_84).trans rfl
theorem k_X11_copy_86 : lk 86 C_X11_copy = some (.invokevirtual 83, (144, 1, 11, 200)) := by decide +kernel
theorem s_X11_copy_86 {ca : Nat → List Value → tM → tO} {M : tM} {L : tL} {v1 : Value} {b : Nat} : rn ca C_X11_copy 86 L [v1, .ref b] M = if clsO b = some 11 then rnk ca C_X11_copy 89 L [] (ca m_X11_refuse [.ref b, v1] M) else none := (rn_at k_X11_copy_86).trans rnx_ite
theorem k_X11_copy_89 : lk 89 C_X11_copy = some (.ireturn, (0, 0, 0, 0)) := by decide +kernel
theorem s_X11_copy_89 {ca : Nat → List Value → tM → tO} {M : tM} {L : tL} {x : Int32} : rn ca C_X11_copy 89 L [.int x] M = some (some (.int x), M) := (rn_at k_X11_copy_89).trans rfl
theorem k_X11_copy_90 : lk 90 C_X11_copy = some (.iload 6, (0, 0, 0, 0)) := by decide +kernel
theorem s_X11_copy_90 {ca : Nat → List Value → tM → tO} {M : tM} {a0 a1 a2 a3 a4 a5 a7 : Option Value} {x : Int32} {S : List Value} : rn ca C_X11_copy 90 [a0, a1, a2, a3, a4, a5, some (.int x), a7] S M = rn ca C_X11_copy 92 [a0, a1, a2, a3, a4, a5, some (.int x), a7] (.int x :: S) M := (rn_at k_X11_copy_90).trans rfl
theorem k_X11_copy_92 : lk 92 C_X11_copy = some (.ifCond .ne 10, (102, 0, 0, 0)) := by decide +kernel
theorem s_X11_copy_92 {ca : Nat → List Value → tM → tO} {M : tM} {L : tL} {x : Int32} {S : List Value} : rn ca C_X11_copy 92 L (.int x :: S) M = if ¬ x = iI 0 then rn ca C_X11_copy 102 L S M else rn ca C_X11_copy 95 L S M := (rn_at k_X11_copy_92).trans rnx_ite
theorem k_X11_copy_95 : lk 95 C_X11_copy = some (.aload_n 0, (0, 0, 0, 0)) := by decide +kernel
theorem s_X11_copy_95 {ca : Nat → List Value → tM → tO} {M : tM} {a1 a2 a3 a4 a5 a6 a7 : Option Value} {x : Nat} {S : List Value} : rn ca C_X11_copy 95 [some (.ref x), a1, a2, a3, a4, a5, a6, a7] S M = rn ca C_X11_copy 96 [some (.ref x), a1, a2, a3, a4, a5, a6, a7] (.ref x :: S) M := (rn_at k_X11_copy_95).trans rfl
theorem k_X11_copy_96 : lk 96 C_X11_copy = some (.bipush (-3), (0, 0, 0, 0)) := by decide +kernel
theorem s_X11_copy_96 {ca : Nat → List Value → tM → tO} {M : tM} {L : tL} {S : List Value} : rn ca C_X11_copy 96 L S M = rn ca C_X11_copy 98 L (.int (iI (-3)) :: S) M := (rn_at k_X11_copy_96).trans rfl
theorem k_X11_copy_98 : lk 98 C_X11_copy = some (.invokevirtual 83, (144, 1, 11, 200)) := by decide +kernel
theorem s_X11_copy_98 {ca : Nat → List Value → tM → tO} {M : tM} {L : tL} {v1 : Value} {b : Nat} : rn ca C_X11_copy 98 L [v1, .ref b] M = if clsO b = some 11 then rnk ca C_X11_copy 101 L [] (ca m_X11_refuse [.ref b, v1] M) else none := (rn_at k_X11_copy_98).trans rnx_ite
theorem k_X11_copy_101 : lk 101 C_X11_copy = some (.ireturn, (0, 0, 0, 0)) := by decide +kernel
theorem s_X11_copy_101 {ca : Nat → List Value → tM → tO} {M : tM} {L : tL} {x : Int32} : rn ca C_X11_copy 101 L [.int x] M = some (some (.int x), M) := (rn_at k_X11_copy_101).trans rfl
theorem k_X11_copy_102 : lk 102 C_X11_copy = some (.iload 5, (0, 0, 0, 0)) := by decide +kernel
theorem s_X11_copy_102 {ca : Nat → List Value → tM → tO} {M : tM} {a0 a1 a2 a3 a4 a6 a7 : Option Value} {x : Int32} {S : List Value} : rn ca C_X11_copy 102 [a0, a1, a2, a3, a4, some (.int x), a6, a7] S M = rn ca C_X11_copy 104 [a0, a1, a2, a3, a4, some (.int x), a6, a7] (.int x :: S) M := (rn_at k_X11_copy_102).trans rfl
theorem k_X11_copy_104 : lk 104 C_X11_copy = some (.ifCond .ge 10, (114, 0, 0, 0)) := by decide +kernel
theorem s_X11_copy_104 {ca : Nat → List Value → tM → tO} {M : tM} {L : tL} {x : Int32} {S : List Value} : rn ca C_X11_copy 104 L (.int x :: S) M = if iI 0 ≤ x then rn ca C_X11_copy 114 L S M else rn ca C_X11_copy 107 L S M := (rn_at k_X11_copy_104).trans rnx_ite
theorem k_X11_copy_107 : lk 107 C_X11_copy = some (.aload_n 0, (0, 0, 0, 0)) := by decide +kernel
theorem s_X11_copy_107 {ca : Nat → List Value → tM → tO} {M : tM} {a1 a2 a3 a4 a5 a6 a7 : Option Value} {x : Nat} {S : List Value} : rn ca C_X11_copy 107 [some (.ref x), a1, a2, a3, a4, a5, a6, a7] S M = rn ca C_X11_copy 108 [some (.ref x), a1, a2, a3, a4, a5, a6, a7] (.ref x :: S) M := (rn_at k_X11_copy_107).trans rfl
theorem k_X11_copy_108 : lk 108 C_X11_copy = some (.bipush (-4), (0, 0, 0, 0)) := by decide +kernel
theorem s_X11_copy_108 {ca : Nat → List Value → tM → tO} {M : tM} {L : tL} {S : List Value} : rn ca C_X11_copy 108 L S M = rn ca C_X11_copy 110 L (.int (iI (-4)) :: S) M := (rn_at k_X11_copy_108).trans rfl
theorem k_X11_copy_110 : lk 110 C_X11_copy = some (.invokevirtual 83, (144, 1, 11, 200)) := by decide +kernel
theorem s_X11_copy_110 {ca : Nat → List Value → tM → tO} {M : tM} {L : tL} {v1 : Value} {b : Nat} : rn ca C_X11_copy 110 L [v1, .ref b] M = if clsO b = some 11 then rnk ca C_X11_copy 113 L [] (ca m_X11_refuse [.ref b, v1] M) else none := (rn_at k_X11_copy_110).trans rnx_ite
theorem k_X11_copy_113 : lk 113 C_X11_copy = some (.ireturn, (0, 0, 0, 0)) := by decide +kernel
theorem s_X11_copy_113 {ca : Nat → List Value → tM → tO} {M : tM} {L : tL} {x : Int32} : rn ca C_X11_copy 113 L [.int x] M = some (some (.int x), M) := (rn_at k_X11_copy_113).trans rfl
theorem k_X11_copy_114 : lk 114 C_X11_copy = some (.iload_n 3, (0, 0, 0, 0)) := by decide +kernel
theorem s_X11_copy_114 {ca : Nat → List Value → tM → tO} {M : tM} {a0 a1 a2 a4 a5 a6 a7 : Option Value} {x : Int32} {S : List Value} : rn ca C_X11_copy 114 [a0, a1, a2, some (.int x), a4, a5, a6, a7] S M = rn ca C_X11_copy 115 [a0, a1, a2, some (.int x), a4, a5, a6, a7] (.int x :: S) M := (rn_at k_X11_copy_114).trans rfl
theorem k_X11_copy_115 : lk 115 C_X11_copy = some (.ifCond .lt 35, (150, 0, 0, 0)) := by decide +kernel
theorem s_X11_copy_115 {ca : Nat → List Value → tM → tO} {M : tM} {L : tL} {x : Int32} {S : List Value} : rn ca C_X11_copy 115 L (.int x :: S) M = if x < iI 0 then rn ca C_X11_copy 150 L S M else rn ca C_X11_copy 118 L S M := (rn_at k_X11_copy_115).trans rnx_ite
theorem k_X11_copy_118 : lk 118 C_X11_copy = some (.iload 4, (0, 0, 0, 0)) := by decide +kernel
theorem s_X11_copy_118 {ca : Nat → List Value → tM → tO} {M : tM} {a0 a1 a2 a3 a5 a6 a7 : Option Value} {x : Int32} {S : List Value} : rn ca C_X11_copy 118 [a0, a1, a2, a3, some (.int x), a5, a6, a7] S M = rn ca C_X11_copy 120 [a0, a1, a2, a3, some (.int x), a5, a6, a7] (.int x :: S) M := (rn_at k_X11_copy_118).trans rfl
theorem k_X11_copy_120 : lk 120 C_X11_copy = some (.ifCond .lt 30, (150, 0, 0, 0)) := by decide +kernel
theorem s_X11_copy_120 {ca : Nat → List Value → tM → tO} {M : tM} {L : tL} {x : Int32} {S : List Value} : rn ca C_X11_copy 120 L (.int x :: S) M = if x < iI 0 then rn ca C_X11_copy 150 L S M else rn ca C_X11_copy 123 L S M := (rn_at k_X11_copy_120).trans rnx_ite
theorem k_X11_copy_123 : lk 123 C_X11_copy = some (.iload 5, (0, 0, 0, 0)) := by decide +kernel
theorem s_X11_copy_123 {ca : Nat → List Value → tM → tO} {M : tM} {a0 a1 a2 a3 a4 a6 a7 : Option Value} {x : Int32} {S : List Value} : rn ca C_X11_copy 123 [a0, a1, a2, a3, a4, some (.int x), a6, a7] S M = rn ca C_X11_copy 125 [a0, a1, a2, a3, a4, some (.int x), a6, a7] (.int x :: S) M := (rn_at k_X11_copy_123).trans rfl
theorem k_X11_copy_125 : lk 125 C_X11_copy = some (.aload_n 0, (0, 0, 0, 0)) := by decide +kernel
theorem s_X11_copy_125 {ca : Nat → List Value → tM → tO} {M : tM} {a1 a2 a3 a4 a5 a6 a7 : Option Value} {x : Nat} {S : List Value} : rn ca C_X11_copy 125 [some (.ref x), a1, a2, a3, a4, a5, a6, a7] S M = rn ca C_X11_copy 126 [some (.ref x), a1, a2, a3, a4, a5, a6, a7] (.ref x :: S) M := (rn_at k_X11_copy_125).trans rfl
theorem k_X11_copy_126 : lk 126 C_X11_copy = some (.getfield 29, (11, 6, 0, 151)) := by decide +kernel
theorem s_X11_copy_126 {ca : Nat → List Value → tM → tO} {M : tM} {L : tL} {b : Nat} {S : List Value} : rn ca C_X11_copy 126 L (.ref b :: S) M = if clsO b = some 11 then rn ca C_X11_copy 129 L (fv M b 6 :: S) M else none := (rn_at k_X11_copy_126).trans rnx_ite
theorem k_X11_copy_129 : lk 129 C_X11_copy = some (.iload_n 1, (0, 0, 0, 0)) := by decide +kernel
theorem s_X11_copy_129 {ca : Nat → List Value → tM → tO} {M : tM} {a0 a2 a3 a4 a5 a6 a7 : Option Value} {x : Int32} {S : List Value} : rn ca C_X11_copy 129 [a0, some (.int x), a2, a3, a4, a5, a6, a7] S M = rn ca C_X11_copy 130 [a0, some (.int x), a2, a3, a4, a5, a6, a7] (.int x :: S) M := (rn_at k_X11_copy_129).trans rfl
theorem k_X11_copy_130 : lk 130 C_X11_copy = some (.iaload, (0, 0, 0, 0)) := by decide +kernel
theorem s_X11_copy_130 {ca : Nat → List Value → tM → tO} {M : tM} {L : tL} {a : Nat} {i : Int32} {S : List Value} : rn ca C_X11_copy 130 L (.int i :: .ref a :: S) M = if (akind a = 0 ∨ akind a = 6 ∨ akind a = 7) ∧ inb i (alen M a) then rn ca C_X11_copy 131 L (.int (M.1 a i.toInt.toNat) :: S) M else none := (rn_at k_X11_copy_130).trans rnx_ite
theorem k_X11_copy_131 : lk 131 C_X11_copy = some (.iload_n 3, (0, 0, 0, 0)) := by decide +kernel
theorem s_X11_copy_131 {ca : Nat → List Value → tM → tO} {M : tM} {a0 a1 a2 a4 a5 a6 a7 : Option Value} {x : Int32} {S : List Value} : rn ca C_X11_copy 131 [a0, a1, a2, some (.int x), a4, a5, a6, a7] S M = rn ca C_X11_copy 132 [a0, a1, a2, some (.int x), a4, a5, a6, a7] (.int x :: S) M := (rn_at k_X11_copy_131).trans rfl
theorem k_X11_copy_132 : lk 132 C_X11_copy = some (.isub, (0, 0, 0, 0)) := by decide +kernel
theorem s_X11_copy_132 {ca : Nat → List Value → tM → tO} {M : tM} {L : tL} {x y : Int32} {S : List Value} : rn ca C_X11_copy 132 L (.int y :: .int x :: S) M = rn ca C_X11_copy 133 L (.int (x - y) :: S) M := (rn_at k_X11_copy_132).trans rfl
theorem k_X11_copy_133 : lk 133 C_X11_copy = some (.if_icmp .gt 17, (150, 0, 0, 0)) := by decide +kernel
theorem s_X11_copy_133 {ca : Nat → List Value → tM → tO} {M : tM} {L : tL} {x y : Int32} {S : List Value} : rn ca C_X11_copy 133 L (.int y :: .int x :: S) M = if y < x then rn ca C_X11_copy 150 L S M else rn ca C_X11_copy 136 L S M := (rn_at k_X11_copy_133).trans rnx_ite
theorem k_X11_copy_136 : lk 136 C_X11_copy = some (.iload 5, (0, 0, 0, 0)) := by decide +kernel
theorem s_X11_copy_136 {ca : Nat → List Value → tM → tO} {M : tM} {a0 a1 a2 a3 a4 a6 a7 : Option Value} {x : Int32} {S : List Value} : rn ca C_X11_copy 136 [a0, a1, a2, a3, a4, some (.int x), a6, a7] S M = rn ca C_X11_copy 138 [a0, a1, a2, a3, a4, some (.int x), a6, a7] (.int x :: S) M := (rn_at k_X11_copy_136).trans rfl
theorem k_X11_copy_138 : lk 138 C_X11_copy = some (.aload_n 0, (0, 0, 0, 0)) := by decide +kernel
theorem s_X11_copy_138 {ca : Nat → List Value → tM → tO} {M : tM} {a1 a2 a3 a4 a5 a6 a7 : Option Value} {x : Nat} {S : List Value} : rn ca C_X11_copy 138 [some (.ref x), a1, a2, a3, a4, a5, a6, a7] S M = rn ca C_X11_copy 139 [some (.ref x), a1, a2, a3, a4, a5, a6, a7] (.ref x :: S) M := (rn_at k_X11_copy_138).trans rfl
theorem k_X11_copy_139 : lk 139 C_X11_copy = some (.getfield 29, (11, 6, 0, 151)) := by decide +kernel
theorem s_X11_copy_139 {ca : Nat → List Value → tM → tO} {M : tM} {L : tL} {b : Nat} {S : List Value} : rn ca C_X11_copy 139 L (.ref b :: S) M = if clsO b = some 11 then rn ca C_X11_copy 142 L (fv M b 6 :: S) M else none := (rn_at k_X11_copy_139).trans rnx_ite
theorem k_X11_copy_142 : lk 142 C_X11_copy = some (.iload_n 2, (0, 0, 0, 0)) := by decide +kernel
theorem s_X11_copy_142 {ca : Nat → List Value → tM → tO} {M : tM} {a0 a1 a3 a4 a5 a6 a7 : Option Value} {x : Int32} {S : List Value} : rn ca C_X11_copy 142 [a0, a1, some (.int x), a3, a4, a5, a6, a7] S M = rn ca C_X11_copy 143 [a0, a1, some (.int x), a3, a4, a5, a6, a7] (.int x :: S) M := (rn_at k_X11_copy_142).trans rfl
theorem k_X11_copy_143 : lk 143 C_X11_copy = some (.iaload, (0, 0, 0, 0)) := by decide +kernel
theorem s_X11_copy_143 {ca : Nat → List Value → tM → tO} {M : tM} {L : tL} {a : Nat} {i : Int32} {S : List Value} : rn ca C_X11_copy 143 L (.int i :: .ref a :: S) M = if (akind a = 0 ∨ akind a = 6 ∨ akind a = 7) ∧ inb i (alen M a) then rn ca C_X11_copy 144 L (.int (M.1 a i.toInt.toNat) :: S) M else none := (rn_at k_X11_copy_143).trans rnx_ite
theorem k_X11_copy_144 : lk 144 C_X11_copy = some (.iload 4, (0, 0, 0, 0)) := by decide +kernel
theorem s_X11_copy_144 {ca : Nat → List Value → tM → tO} {M : tM} {a0 a1 a2 a3 a5 a6 a7 : Option Value} {x : Int32} {S : List Value} : rn ca C_X11_copy 144 [a0, a1, a2, a3, some (.int x), a5, a6, a7] S M = rn ca C_X11_copy 146 [a0, a1, a2, a3, some (.int x), a5, a6, a7] (.int x :: S) M := (rn_at k_X11_copy_144).trans rfl
theorem k_X11_copy_146 : lk 146 C_X11_copy = some (.isub, (0, 0, 0, 0)) := by decide +kernel
theorem s_X11_copy_146 {ca : Nat → List Value → tM → tO} {M : tM} {L : tL} {x y : Int32} {S : List Value} : rn ca C_X11_copy 146 L (.int y :: .int x :: S) M = rn ca C_X11_copy 147 L (.int (x - y) :: S) M := (rn_at k_X11_copy_146).trans rfl
theorem k_X11_copy_147 : lk 147 C_X11_copy = some (.if_icmp .le 10, (157, 0, 0, 0)) := by decide +kernel
theorem s_X11_copy_147 {ca : Nat → List Value → tM → tO} {M : tM} {L : tL} {x y : Int32} {S : List Value} : rn ca C_X11_copy 147 L (.int y :: .int x :: S) M = if x ≤ y then rn ca C_X11_copy 157 L S M else rn ca C_X11_copy 150 L S M := (rn_at k_X11_copy_147).trans rnx_ite
theorem k_X11_copy_150 : lk 150 C_X11_copy = some (.aload_n 0, (0, 0, 0, 0)) := by decide +kernel
theorem s_X11_copy_150 {ca : Nat → List Value → tM → tO} {M : tM} {a1 a2 a3 a4 a5 a6 a7 : Option Value} {x : Nat} {S : List Value} : rn ca C_X11_copy 150 [some (.ref x), a1, a2, a3, a4, a5, a6, a7] S M = rn ca C_X11_copy 151 [some (.ref x), a1, a2, a3, a4, a5, a6, a7] (.ref x :: S) M := (rn_at k_X11_copy_150).trans rfl
theorem k_X11_copy_151 : lk 151 C_X11_copy = some (.bipush (-5), (0, 0, 0, 0)) := by decide +kernel
theorem s_X11_copy_151 {ca : Nat → List Value → tM → tO} {M : tM} {L : tL} {S : List Value} : rn ca C_X11_copy 151 L S M = rn ca C_X11_copy 153 L (.int (iI (-5)) :: S) M := (rn_at k_X11_copy_151).trans rfl
theorem k_X11_copy_153 : lk 153 C_X11_copy = some (.invokevirtual 83, (144, 1, 11, 200)) := by decide +kernel
theorem s_X11_copy_153 {ca : Nat → List Value → tM → tO} {M : tM} {L : tL} {v1 : Value} {b : Nat} : rn ca C_X11_copy 153 L [v1, .ref b] M = if clsO b = some 11 then rnk ca C_X11_copy 156 L [] (ca m_X11_refuse [.ref b, v1] M) else none := (rn_at k_X11_copy_153).trans rnx_ite
theorem k_X11_copy_156 : lk 156 C_X11_copy = some (.ireturn, (0, 0, 0, 0)) := by decide +kernel
theorem s_X11_copy_156 {ca : Nat → List Value → tM → tO} {M : tM} {L : tL} {x : Int32} : rn ca C_X11_copy 156 L [.int x] M = some (some (.int x), M) := (rn_at k_X11_copy_156).trans rfl
theorem k_X11_copy_157 : lk 157 C_X11_copy = some (.iconst 0, (0, 0, 0, 0)) := by decide +kernel
theorem s_X11_copy_157 {ca : Nat → List Value → tM → tO} {M : tM} {L : tL} {S : List Value} : rn ca C_X11_copy 157 L S M = rn ca C_X11_copy 158 L (.int (iI 0) :: S) M := (rn_at k_X11_copy_157).trans rfl
theorem k_X11_copy_158 : lk 158 C_X11_copy = some (.istore 7, (0, 0, 0, 0)) := by decide +kernel
theorem s_X11_copy_158 {ca : Nat → List Value → tM → tO} {M : tM} {a0 a1 a2 a3 a4 a5 a6 a7 : Option Value} {x : Int32} {S : List Value} : rn ca C_X11_copy 158 [a0, a1, a2, a3, a4, a5, a6, a7] (.int x :: S) M = rn ca C_X11_copy 160 [a0, a1, a2, a3, a4, a5, a6, some (.int x)] S M := (rn_at k_X11_copy_158).trans rfl
theorem k_X11_copy_160 : lk 160 C_X11_copy = some (.iload 7, (0, 0, 0, 0)) := by decide +kernel
theorem s_X11_copy_160 {ca : Nat → List Value → tM → tO} {M : tM} {a0 a1 a2 a3 a4 a5 a6 : Option Value} {x : Int32} {S : List Value} : rn ca C_X11_copy 160 [a0, a1, a2, a3, a4, a5, a6, some (.int x)] S M = rn ca C_X11_copy 162 [a0, a1, a2, a3, a4, a5, a6, some (.int x)] (.int x :: S) M := (rn_at k_X11_copy_160).trans rfl
theorem k_X11_copy_162 : lk 162 C_X11_copy = some (.iload 5, (0, 0, 0, 0)) := by decide +kernel
theorem s_X11_copy_162 {ca : Nat → List Value → tM → tO} {M : tM} {a0 a1 a2 a3 a4 a6 a7 : Option Value} {x : Int32} {S : List Value} : rn ca C_X11_copy 162 [a0, a1, a2, a3, a4, some (.int x), a6, a7] S M = rn ca C_X11_copy 164 [a0, a1, a2, a3, a4, some (.int x), a6, a7] (.int x :: S) M := (rn_at k_X11_copy_162).trans rfl
theorem k_X11_copy_164 : lk 164 C_X11_copy = some (.if_icmp .ge 31, (195, 0, 0, 0)) := by decide +kernel
theorem s_X11_copy_164 {ca : Nat → List Value → tM → tO} {M : tM} {L : tL} {x y : Int32} {S : List Value} : rn ca C_X11_copy 164 L (.int y :: .int x :: S) M = if y ≤ x then rn ca C_X11_copy 195 L S M else rn ca C_X11_copy 167 L S M := (rn_at k_X11_copy_164).trans rnx_ite
theorem k_X11_copy_167 : lk 167 C_X11_copy = some (.aload_n 0, (0, 0, 0, 0)) := by decide +kernel
theorem s_X11_copy_167 {ca : Nat → List Value → tM → tO} {M : tM} {a1 a2 a3 a4 a5 a6 a7 : Option Value} {x : Nat} {S : List Value} : rn ca C_X11_copy 167 [some (.ref x), a1, a2, a3, a4, a5, a6, a7] S M = rn ca C_X11_copy 168 [some (.ref x), a1, a2, a3, a4, a5, a6, a7] (.ref x :: S) M := (rn_at k_X11_copy_167).trans rfl
theorem k_X11_copy_168 : lk 168 C_X11_copy = some (.getfield 36, (11, 8, 0, 153)) := by decide +kernel
theorem s_X11_copy_168 {ca : Nat → List Value → tM → tO} {M : tM} {L : tL} {b : Nat} {S : List Value} : rn ca C_X11_copy 168 L (.ref b :: S) M = if clsO b = some 11 then rn ca C_X11_copy 171 L (fv M b 8 :: S) M else none := (rn_at k_X11_copy_168).trans rnx_ite
theorem k_X11_copy_171 : lk 171 C_X11_copy = some (.iload 7, (0, 0, 0, 0)) := by decide +kernel
theorem s_X11_copy_171 {ca : Nat → List Value → tM → tO} {M : tM} {a0 a1 a2 a3 a4 a5 a6 : Option Value} {x : Int32} {S : List Value} : rn ca C_X11_copy 171 [a0, a1, a2, a3, a4, a5, a6, some (.int x)] S M = rn ca C_X11_copy 173 [a0, a1, a2, a3, a4, a5, a6, some (.int x)] (.int x :: S) M := (rn_at k_X11_copy_171).trans rfl
theorem k_X11_copy_173 : lk 173 C_X11_copy = some (.aload_n 0, (0, 0, 0, 0)) := by decide +kernel
theorem s_X11_copy_173 {ca : Nat → List Value → tM → tO} {M : tM} {a1 a2 a3 a4 a5 a6 a7 : Option Value} {x : Nat} {S : List Value} : rn ca C_X11_copy 173 [some (.ref x), a1, a2, a3, a4, a5, a6, a7] S M = rn ca C_X11_copy 174 [some (.ref x), a1, a2, a3, a4, a5, a6, a7] (.ref x :: S) M := (rn_at k_X11_copy_173).trans rfl
theorem k_X11_copy_174 : lk 174 C_X11_copy = some (.getfield 32, (11, 7, 0, 152)) := by decide +kernel
theorem s_X11_copy_174 {ca : Nat → List Value → tM → tO} {M : tM} {L : tL} {b : Nat} {S : List Value} : rn ca C_X11_copy 174 L (.ref b :: S) M = if clsO b = some 11 then rn ca C_X11_copy 177 L (fv M b 7 :: S) M else none := (rn_at k_X11_copy_174).trans rnx_ite
theorem k_X11_copy_177 : lk 177 C_X11_copy = some (.sipush 160, (0, 0, 0, 0)) := by decide +kernel
theorem s_X11_copy_177 {ca : Nat → List Value → tM → tO} {M : tM} {L : tL} {S : List Value} : rn ca C_X11_copy 177 L S M = rn ca C_X11_copy 180 L (.int (iI 160) :: S) M := (rn_at k_X11_copy_177).trans rfl
theorem k_X11_copy_180 : lk 180 C_X11_copy = some (.iload_n 1, (0, 0, 0, 0)) := by decide +kernel
theorem s_X11_copy_180 {ca : Nat → List Value → tM → tO} {M : tM} {a0 a2 a3 a4 a5 a6 a7 : Option Value} {x : Int32} {S : List Value} : rn ca C_X11_copy 180 [a0, some (.int x), a2, a3, a4, a5, a6, a7] S M = rn ca C_X11_copy 181 [a0, some (.int x), a2, a3, a4, a5, a6, a7] (.int x :: S) M := (rn_at k_X11_copy_180).trans rfl
theorem k_X11_copy_181 : lk 181 C_X11_copy = some (.imul, (0, 0, 0, 0)) := by decide +kernel
theorem s_X11_copy_181 {ca : Nat → List Value → tM → tO} {M : tM} {L : tL} {x y : Int32} {S : List Value} : rn ca C_X11_copy 181 L (.int y :: .int x :: S) M = rn ca C_X11_copy 182 L (.int (x * y) :: S) M := (rn_at k_X11_copy_181).trans rfl
theorem k_X11_copy_182 : lk 182 C_X11_copy = some (.iload_n 3, (0, 0, 0, 0)) := by decide +kernel
theorem s_X11_copy_182 {ca : Nat → List Value → tM → tO} {M : tM} {a0 a1 a2 a4 a5 a6 a7 : Option Value} {x : Int32} {S : List Value} : rn ca C_X11_copy 182 [a0, a1, a2, some (.int x), a4, a5, a6, a7] S M = rn ca C_X11_copy 183 [a0, a1, a2, some (.int x), a4, a5, a6, a7] (.int x :: S) M := (rn_at k_X11_copy_182).trans rfl
theorem k_X11_copy_183 : lk 183 C_X11_copy = some (.iadd, (0, 0, 0, 0)) := by decide +kernel
theorem s_X11_copy_183 {ca : Nat → List Value → tM → tO} {M : tM} {L : tL} {x y : Int32} {S : List Value} : rn ca C_X11_copy 183 L (.int y :: .int x :: S) M = rn ca C_X11_copy 184 L (.int (x + y) :: S) M := (rn_at k_X11_copy_183).trans rfl
theorem k_X11_copy_184 : lk 184 C_X11_copy = some (.iload 7, (0, 0, 0, 0)) := by decide +kernel
theorem s_X11_copy_184 {ca : Nat → List Value → tM → tO} {M : tM} {a0 a1 a2 a3 a4 a5 a6 : Option Value} {x : Int32} {S : List Value} : rn ca C_X11_copy 184 [a0, a1, a2, a3, a4, a5, a6, some (.int x)] S M = rn ca C_X11_copy 186 [a0, a1, a2, a3, a4, a5, a6, some (.int x)] (.int x :: S) M := (rn_at k_X11_copy_184).trans rfl
theorem k_X11_copy_186 : lk 186 C_X11_copy = some (.iadd, (0, 0, 0, 0)) := by decide +kernel
theorem s_X11_copy_186 {ca : Nat → List Value → tM → tO} {M : tM} {L : tL} {x y : Int32} {S : List Value} : rn ca C_X11_copy 186 L (.int y :: .int x :: S) M = rn ca C_X11_copy 187 L (.int (x + y) :: S) M := (rn_at k_X11_copy_186).trans rfl
theorem k_X11_copy_187 : lk 187 C_X11_copy = some (.laload, (0, 0, 0, 0)) := by decide +kernel
theorem s_X11_copy_187 {ca : Nat → List Value → tM → tO} {M : tM} {L : tL} {a : Nat} {i : Int32} {S : List Value} : rn ca C_X11_copy 187 L (.int i :: .ref a :: S) M = if akind a = 2 ∧ inb i (alen M a) then rn ca C_X11_copy 188 L (.long (M.2 a i.toInt.toNat) :: S) M else none := (rn_at k_X11_copy_187).trans rnx_ite
theorem k_X11_copy_188 : lk 188 C_X11_copy = some (.lastore, (0, 0, 0, 0)) := by decide +kernel
theorem s_X11_copy_188 {ca : Nat → List Value → tM → tO} {M : tM} {L : tL} {a : Nat} {i : Int32} {x : Int64} {S : List Value} : rn ca C_X11_copy 188 L (.long x :: .int i :: .ref a :: S) M = if akind a = 2 ∧ inb i (alen M a) then rn ca C_X11_copy 189 L S (sJ M a i.toInt.toNat x) else none := (rn_at k_X11_copy_188).trans rnx_ite
theorem k_X11_copy_189 : lk 189 C_X11_copy = some (.iinc 7 1, (0, 0, 0, 0)) := by decide +kernel
theorem s_X11_copy_189 {ca : Nat → List Value → tM → tO} {M : tM} {a0 a1 a2 a3 a4 a5 a6 : Option Value} {x : Int32} {S : List Value} : rn ca C_X11_copy 189 [a0, a1, a2, a3, a4, a5, a6, some (.int x)] S M = rn ca C_X11_copy 192 [a0, a1, a2, a3, a4, a5, a6, some (.int (x + iI 1))] S M := (rn_at k_X11_copy_189).trans rfl
theorem k_X11_copy_192 : lk 192 C_X11_copy = some (.goto (-32), (160, 0, 0, 0)) := by decide +kernel
theorem s_X11_copy_192 {ca : Nat → List Value → tM → tO} {M : tM} {L : tL} {S : List Value} : rn ca C_X11_copy 192 L S M = rn ca C_X11_copy 160 L S M := (rn_at k_X11_copy_192).trans rfl
theorem k_X11_copy_195 : lk 195 C_X11_copy = some (.iconst 0, (0, 0, 0, 0)) := by decide +kernel
theorem s_X11_copy_195 {ca : Nat → List Value → tM → tO} {M : tM} {L : tL} {S : List Value} : rn ca C_X11_copy 195 L S M = rn ca C_X11_copy 196 L (.int (iI 0) :: S) M := (rn_at k_X11_copy_195).trans rfl
theorem k_X11_copy_196 : lk 196 C_X11_copy = some (.istore 7, (0, 0, 0, 0)) := by decide +kernel
theorem s_X11_copy_196 {ca : Nat → List Value → tM → tO} {M : tM} {a0 a1 a2 a3 a4 a5 a6 a7 : Option Value} {x : Int32} {S : List Value} : rn ca C_X11_copy 196 [a0, a1, a2, a3, a4, a5, a6, a7] (.int x :: S) M = rn ca C_X11_copy 198 [a0, a1, a2, a3, a4, a5, a6, some (.int x)] S M := (rn_at k_X11_copy_196).trans rfl
theorem k_X11_copy_198 : lk 198 C_X11_copy = some (.iload 7, (0, 0, 0, 0)) := by decide +kernel
theorem s_X11_copy_198 {ca : Nat → List Value → tM → tO} {M : tM} {a0 a1 a2 a3 a4 a5 a6 : Option Value} {x : Int32} {S : List Value} : rn ca C_X11_copy 198 [a0, a1, a2, a3, a4, a5, a6, some (.int x)] S M = rn ca C_X11_copy 200 [a0, a1, a2, a3, a4, a5, a6, some (.int x)] (.int x :: S) M := (rn_at k_X11_copy_198).trans rfl
theorem k_X11_copy_200 : lk 200 C_X11_copy = some (.iload 5, (0, 0, 0, 0)) := by decide +kernel
theorem s_X11_copy_200 {ca : Nat → List Value → tM → tO} {M : tM} {a0 a1 a2 a3 a4 a6 a7 : Option Value} {x : Int32} {S : List Value} : rn ca C_X11_copy 200 [a0, a1, a2, a3, a4, some (.int x), a6, a7] S M = rn ca C_X11_copy 202 [a0, a1, a2, a3, a4, some (.int x), a6, a7] (.int x :: S) M := (rn_at k_X11_copy_200).trans rfl
theorem k_X11_copy_202 : lk 202 C_X11_copy = some (.if_icmp .ge 32, (234, 0, 0, 0)) := by decide +kernel
theorem s_X11_copy_202 {ca : Nat → List Value → tM → tO} {M : tM} {L : tL} {x y : Int32} {S : List Value} : rn ca C_X11_copy 202 L (.int y :: .int x :: S) M = if y ≤ x then rn ca C_X11_copy 234 L S M else rn ca C_X11_copy 205 L S M := (rn_at k_X11_copy_202).trans rnx_ite
theorem k_X11_copy_205 : lk 205 C_X11_copy = some (.aload_n 0, (0, 0, 0, 0)) := by decide +kernel
theorem s_X11_copy_205 {ca : Nat → List Value → tM → tO} {M : tM} {a1 a2 a3 a4 a5 a6 a7 : Option Value} {x : Nat} {S : List Value} : rn ca C_X11_copy 205 [some (.ref x), a1, a2, a3, a4, a5, a6, a7] S M = rn ca C_X11_copy 206 [some (.ref x), a1, a2, a3, a4, a5, a6, a7] (.ref x :: S) M := (rn_at k_X11_copy_205).trans rfl
theorem k_X11_copy_206 : lk 206 C_X11_copy = some (.getfield 32, (11, 7, 0, 152)) := by decide +kernel
theorem s_X11_copy_206 {ca : Nat → List Value → tM → tO} {M : tM} {L : tL} {b : Nat} {S : List Value} : rn ca C_X11_copy 206 L (.ref b :: S) M = if clsO b = some 11 then rn ca C_X11_copy 209 L (fv M b 7 :: S) M else none := (rn_at k_X11_copy_206).trans rnx_ite
theorem k_X11_copy_209 : lk 209 C_X11_copy = some (.sipush 160, (0, 0, 0, 0)) := by decide +kernel
theorem s_X11_copy_209 {ca : Nat → List Value → tM → tO} {M : tM} {L : tL} {S : List Value} : rn ca C_X11_copy 209 L S M = rn ca C_X11_copy 212 L (.int (iI 160) :: S) M := (rn_at k_X11_copy_209).trans rfl
theorem k_X11_copy_212 : lk 212 C_X11_copy = some (.iload_n 2, (0, 0, 0, 0)) := by decide +kernel
theorem s_X11_copy_212 {ca : Nat → List Value → tM → tO} {M : tM} {a0 a1 a3 a4 a5 a6 a7 : Option Value} {x : Int32} {S : List Value} : rn ca C_X11_copy 212 [a0, a1, some (.int x), a3, a4, a5, a6, a7] S M = rn ca C_X11_copy 213 [a0, a1, some (.int x), a3, a4, a5, a6, a7] (.int x :: S) M := (rn_at k_X11_copy_212).trans rfl
theorem k_X11_copy_213 : lk 213 C_X11_copy = some (.imul, (0, 0, 0, 0)) := by decide +kernel
theorem s_X11_copy_213 {ca : Nat → List Value → tM → tO} {M : tM} {L : tL} {x y : Int32} {S : List Value} : rn ca C_X11_copy 213 L (.int y :: .int x :: S) M = rn ca C_X11_copy 214 L (.int (x * y) :: S) M := (rn_at k_X11_copy_213).trans rfl
theorem k_X11_copy_214 : lk 214 C_X11_copy = some (.iload 4, (0, 0, 0, 0)) := by decide +kernel
theorem s_X11_copy_214 {ca : Nat → List Value → tM → tO} {M : tM} {a0 a1 a2 a3 a5 a6 a7 : Option Value} {x : Int32} {S : List Value} : rn ca C_X11_copy 214 [a0, a1, a2, a3, some (.int x), a5, a6, a7] S M = rn ca C_X11_copy 216 [a0, a1, a2, a3, some (.int x), a5, a6, a7] (.int x :: S) M := (rn_at k_X11_copy_214).trans rfl
theorem k_X11_copy_216 : lk 216 C_X11_copy = some (.iadd, (0, 0, 0, 0)) := by decide +kernel
theorem s_X11_copy_216 {ca : Nat → List Value → tM → tO} {M : tM} {L : tL} {x y : Int32} {S : List Value} : rn ca C_X11_copy 216 L (.int y :: .int x :: S) M = rn ca C_X11_copy 217 L (.int (x + y) :: S) M := (rn_at k_X11_copy_216).trans rfl
theorem k_X11_copy_217 : lk 217 C_X11_copy = some (.iload 7, (0, 0, 0, 0)) := by decide +kernel
theorem s_X11_copy_217 {ca : Nat → List Value → tM → tO} {M : tM} {a0 a1 a2 a3 a4 a5 a6 : Option Value} {x : Int32} {S : List Value} : rn ca C_X11_copy 217 [a0, a1, a2, a3, a4, a5, a6, some (.int x)] S M = rn ca C_X11_copy 219 [a0, a1, a2, a3, a4, a5, a6, some (.int x)] (.int x :: S) M := (rn_at k_X11_copy_217).trans rfl
theorem k_X11_copy_219 : lk 219 C_X11_copy = some (.iadd, (0, 0, 0, 0)) := by decide +kernel
theorem s_X11_copy_219 {ca : Nat → List Value → tM → tO} {M : tM} {L : tL} {x y : Int32} {S : List Value} : rn ca C_X11_copy 219 L (.int y :: .int x :: S) M = rn ca C_X11_copy 220 L (.int (x + y) :: S) M := (rn_at k_X11_copy_219).trans rfl
theorem k_X11_copy_220 : lk 220 C_X11_copy = some (.aload_n 0, (0, 0, 0, 0)) := by decide +kernel
theorem s_X11_copy_220 {ca : Nat → List Value → tM → tO} {M : tM} {a1 a2 a3 a4 a5 a6 a7 : Option Value} {x : Nat} {S : List Value} : rn ca C_X11_copy 220 [some (.ref x), a1, a2, a3, a4, a5, a6, a7] S M = rn ca C_X11_copy 221 [some (.ref x), a1, a2, a3, a4, a5, a6, a7] (.ref x :: S) M := (rn_at k_X11_copy_220).trans rfl
theorem k_X11_copy_221 : lk 221 C_X11_copy = some (.getfield 36, (11, 8, 0, 153)) := by decide +kernel
theorem s_X11_copy_221 {ca : Nat → List Value → tM → tO} {M : tM} {L : tL} {b : Nat} {S : List Value} : rn ca C_X11_copy 221 L (.ref b :: S) M = if clsO b = some 11 then rn ca C_X11_copy 224 L (fv M b 8 :: S) M else none := (rn_at k_X11_copy_221).trans rnx_ite
theorem k_X11_copy_224 : lk 224 C_X11_copy = some (.iload 7, (0, 0, 0, 0)) := by decide +kernel
theorem s_X11_copy_224 {ca : Nat → List Value → tM → tO} {M : tM} {a0 a1 a2 a3 a4 a5 a6 : Option Value} {x : Int32} {S : List Value} : rn ca C_X11_copy 224 [a0, a1, a2, a3, a4, a5, a6, some (.int x)] S M = rn ca C_X11_copy 226 [a0, a1, a2, a3, a4, a5, a6, some (.int x)] (.int x :: S) M := (rn_at k_X11_copy_224).trans rfl
theorem k_X11_copy_226 : lk 226 C_X11_copy = some (.laload, (0, 0, 0, 0)) := by decide +kernel
theorem s_X11_copy_226 {ca : Nat → List Value → tM → tO} {M : tM} {L : tL} {a : Nat} {i : Int32} {S : List Value} : rn ca C_X11_copy 226 L (.int i :: .ref a :: S) M = if akind a = 2 ∧ inb i (alen M a) then rn ca C_X11_copy 227 L (.long (M.2 a i.toInt.toNat) :: S) M else none := (rn_at k_X11_copy_226).trans rnx_ite
theorem k_X11_copy_227 : lk 227 C_X11_copy = some (.lastore, (0, 0, 0, 0)) := by decide +kernel
theorem s_X11_copy_227 {ca : Nat → List Value → tM → tO} {M : tM} {L : tL} {a : Nat} {i : Int32} {x : Int64} {S : List Value} : rn ca C_X11_copy 227 L (.long x :: .int i :: .ref a :: S) M = if akind a = 2 ∧ inb i (alen M a) then rn ca C_X11_copy 228 L S (sJ M a i.toInt.toNat x) else none := (rn_at k_X11_copy_227).trans rnx_ite
theorem k_X11_copy_228 : lk 228 C_X11_copy = some (.iinc 7 1, (0, 0, 0, 0)) := by decide +kernel
theorem s_X11_copy_228 {ca : Nat → List Value → tM → tO} {M : tM} {a0 a1 a2 a3 a4 a5 a6 : Option Value} {x : Int32} {S : List Value} : rn ca C_X11_copy 228 [a0, a1, a2, a3, a4, a5, a6, some (.int x)] S M = rn ca C_X11_copy 231 [a0, a1, a2, a3, a4, a5, a6, some (.int (x + iI 1))] S M := (rn_at k_X11_copy_228).trans rfl
theorem k_X11_copy_231 : lk 231 C_X11_copy = some (.goto (-33), (198, 0, 0, 0)) := by decide +kernel
theorem s_X11_copy_231 {ca : Nat → List Value → tM → tO} {M : tM} {L : tL} {S : List Value} : rn ca C_X11_copy 231 L S M = rn ca C_X11_copy 198 L S M := (rn_at k_X11_copy_231).trans rfl
theorem k_X11_copy_234 : lk 234 C_X11_copy = some (.iconst 1, (0, 0, 0, 0)) := by decide +kernel
theorem s_X11_copy_234 {ca : Nat → List Value → tM → tO} {M : tM} {L : tL} {S : List Value} : rn ca C_X11_copy 234 L S M = rn ca C_X11_copy 235 L (.int (iI 1) :: S) M := (rn_at k_X11_copy_234).trans rfl
theorem k_X11_copy_235 : lk 235 C_X11_copy = some (.ireturn, (0, 0, 0, 0)) := by decide +kernel
theorem s_X11_copy_235 {ca : Nat → List Value → tM → tO} {M : tM} {L : tL} {x : Int32} : rn ca C_X11_copy 235 L [.int x] M = some (some (.int x), M) := (rn_at k_X11_copy_235).trans rfl
theorem k_X11_element_0 : lk 0 C_X11_element = some (.aload_n 0, (0, 0, 0, 0)) := by decide +kernel
theorem s_X11_element_0 {ca : Nat → List Value → tM → tO} {M : tM} {a1 a2 : Option Value} {x : Nat} {S : List Value} : rn ca C_X11_element 0 [some (.ref x), a1, a2] S M = rn ca C_X11_element 1 [some (.ref x), a1, a2] (.ref x :: S) M := (rn_at k_X11_element_0).trans rfl
theorem k_X11_element_1 : lk 1 C_X11_element = some (.iload_n 1, (0, 0, 0, 0)) := by decide +kernel
theorem s_X11_element_1 {ca : Nat → List Value → tM → tO} {M : tM} {a0 a2 : Option Value} {x : Int32} {S : List Value} : rn ca C_X11_element 1 [a0, some (.int x), a2] S M = rn ca C_X11_element 2 [a0, some (.int x), a2] (.int x :: S) M := (rn_at k_X11_element_1).trans rfl
theorem k_X11_element_2 : lk 2 C_X11_element = some (.invokevirtual 126, (172, 1, 11, 236)) := by decide +kernel
theorem s_X11_element_2 {ca : Nat → List Value → tM → tO} {M : tM} {L : tL} {v1 : Value} {b : Nat} : rn ca C_X11_element 2 L [v1, .ref b] M = if clsO b = some 11 then rnk ca C_X11_element 5 L [] (ca m_X11_rowIn [.ref b, v1] M) else none := (rn_at k_X11_element_2).trans rnx_ite
theorem k_X11_element_5 : lk 5 C_X11_element = some (.iconst 1, (0, 0, 0, 0)) := by decide +kernel
theorem s_X11_element_5 {ca : Nat → List Value → tM → tO} {M : tM} {L : tL} {S : List Value} : rn ca C_X11_element 5 L S M = rn ca C_X11_element 6 L (.int (iI 1) :: S) M := (rn_at k_X11_element_5).trans rfl
theorem k_X11_element_6 : lk 6 C_X11_element = some (.if_icmp .ne 36, (42, 0, 0, 0)) := by decide +kernel
theorem s_X11_element_6 {ca : Nat → List Value → tM → tO} {M : tM} {L : tL} {x y : Int32} {S : List Value} : rn ca C_X11_element 6 L (.int y :: .int x :: S) M = if ¬ x = y then rn ca C_X11_element 42 L S M else rn ca C_X11_element 9 L S M := (rn_at k_X11_element_6).trans rnx_ite
theorem k_X11_element_9 : lk 9 C_X11_element = some (.iload_n 2, (0, 0, 0, 0)) := by decide +kernel
theorem s_X11_element_9 {ca : Nat → List Value → tM → tO} {M : tM} {a0 a1 : Option Value} {x : Int32} {S : List Value} : rn ca C_X11_element 9 [a0, a1, some (.int x)] S M = rn ca C_X11_element 10 [a0, a1, some (.int x)] (.int x :: S) M := (rn_at k_X11_element_9).trans rfl
theorem k_X11_element_10 : lk 10 C_X11_element = some (.i2l, (0, 0, 0, 0)) := by decide +kernel
theorem s_X11_element_10 {ca : Nat → List Value → tM → tO} {M : tM} {L : tL} {x : Int32} {S : List Value} : rn ca C_X11_element 10 L (.int x :: S) M = rn ca C_X11_element 11 L (.long x.toInt64 :: S) M := (rn_at k_X11_element_10).trans rfl
theorem k_X11_element_11 : lk 11 C_X11_element = some (.lconst 0, (0, 0, 0, 0)) := by decide +kernel
theorem s_X11_element_11 {ca : Nat → List Value → tM → tO} {M : tM} {L : tL} {S : List Value} : rn ca C_X11_element 11 L S M = rn ca C_X11_element 12 L (.long (jJ 0) :: S) M := (rn_at k_X11_element_11).trans rfl
theorem k_X11_element_12 : lk 12 C_X11_element = some (.aload_n 0, (0, 0, 0, 0)) := by decide +kernel
theorem s_X11_element_12 {ca : Nat → List Value → tM → tO} {M : tM} {a1 a2 : Option Value} {x : Nat} {S : List Value} : rn ca C_X11_element 12 [some (.ref x), a1, a2] S M = rn ca C_X11_element 13 [some (.ref x), a1, a2] (.ref x :: S) M := (rn_at k_X11_element_12).trans rfl
theorem k_X11_element_13 : lk 13 C_X11_element = some (.getfield 29, (11, 6, 0, 151)) := by decide +kernel
theorem s_X11_element_13 {ca : Nat → List Value → tM → tO} {M : tM} {L : tL} {b : Nat} {S : List Value} : rn ca C_X11_element 13 L (.ref b :: S) M = if clsO b = some 11 then rn ca C_X11_element 16 L (fv M b 6 :: S) M else none := (rn_at k_X11_element_13).trans rnx_ite
theorem k_X11_element_16 : lk 16 C_X11_element = some (.iload_n 1, (0, 0, 0, 0)) := by decide +kernel
theorem s_X11_element_16 {ca : Nat → List Value → tM → tO} {M : tM} {a0 a2 : Option Value} {x : Int32} {S : List Value} : rn ca C_X11_element 16 [a0, some (.int x), a2] S M = rn ca C_X11_element 17 [a0, some (.int x), a2] (.int x :: S) M := (rn_at k_X11_element_16).trans rfl
theorem k_X11_element_17 : lk 17 C_X11_element = some (.iaload, (0, 0, 0, 0)) := by decide +kernel
theorem s_X11_element_17 {ca : Nat → List Value → tM → tO} {M : tM} {L : tL} {a : Nat} {i : Int32} {S : List Value} : rn ca C_X11_element 17 L (.int i :: .ref a :: S) M = if (akind a = 0 ∨ akind a = 6 ∨ akind a = 7) ∧ inb i (alen M a) then rn ca C_X11_element 18 L (.int (M.1 a i.toInt.toNat) :: S) M else none := (rn_at k_X11_element_17).trans rnx_ite
theorem k_X11_element_18 : lk 18 C_X11_element = some (.iconst 1, (0, 0, 0, 0)) := by decide +kernel
theorem s_X11_element_18 {ca : Nat → List Value → tM → tO} {M : tM} {L : tL} {S : List Value} : rn ca C_X11_element 18 L S M = rn ca C_X11_element 19 L (.int (iI 1) :: S) M := (rn_at k_X11_element_18).trans rfl
theorem k_X11_element_19 : lk 19 C_X11_element = some (.isub, (0, 0, 0, 0)) := by decide +kernel
theorem s_X11_element_19 {ca : Nat → List Value → tM → tO} {M : tM} {L : tL} {x y : Int32} {S : List Value} : rn ca C_X11_element 19 L (.int y :: .int x :: S) M = rn ca C_X11_element 20 L (.int (x - y) :: S) M := (rn_at k_X11_element_19).trans rfl
theorem k_X11_element_20 : lk 20 C_X11_element = some (.i2l, (0, 0, 0, 0)) := by decide +kernel
theorem s_X11_element_20 {ca : Nat → List Value → tM → tO} {M : tM} {L : tL} {x : Int32} {S : List Value} : rn ca C_X11_element 20 L (.int x :: S) M = rn ca C_X11_element 21 L (.long x.toInt64 :: S) M := (rn_at k_X11_element_20).trans rfl
theorem k_X11_element_21 : lk 21 C_X11_element = some (.invokestatic 87, (143, 3, 0, 197)) := by decide +kernel
theorem s_X11_element_21 {ca : Nat → List Value → tM → tO} {M : tM} {L : tL} {v1 v2 v3 : Value} : rn ca C_X11_element 21 L [v3, v2, v1] M = rnk ca C_X11_element 24 L [] (ca m_X11_isIn [v1, v2, v3] M) := (rn_at k_X11_element_21).trans rfl
theorem k_X11_element_24 : lk 24 C_X11_element = some (.ifCond .eq 18, (42, 0, 0, 0)) := by decide +kernel
theorem s_X11_element_24 {ca : Nat → List Value → tM → tO} {M : tM} {L : tL} {x : Int32} {S : List Value} : rn ca C_X11_element 24 L (.int x :: S) M = if x = iI 0 then rn ca C_X11_element 42 L S M else rn ca C_X11_element 27 L S M := (rn_at k_X11_element_24).trans rnx_ite
theorem k_X11_element_27 : lk 27 C_X11_element = some (.aload_n 0, (0, 0, 0, 0)) := by decide +kernel
theorem s_X11_element_27 {ca : Nat → List Value → tM → tO} {M : tM} {a1 a2 : Option Value} {x : Nat} {S : List Value} : rn ca C_X11_element 27 [some (.ref x), a1, a2] S M = rn ca C_X11_element 28 [some (.ref x), a1, a2] (.ref x :: S) M := (rn_at k_X11_element_27).trans rfl
theorem k_X11_element_28 : lk 28 C_X11_element = some (.getfield 32, (11, 7, 0, 152)) := by decide +kernel
theorem s_X11_element_28 {ca : Nat → List Value → tM → tO} {M : tM} {L : tL} {b : Nat} {S : List Value} : rn ca C_X11_element 28 L (.ref b :: S) M = if clsO b = some 11 then rn ca C_X11_element 31 L (fv M b 7 :: S) M else none := (rn_at k_X11_element_28).trans rnx_ite
theorem k_X11_element_31 : lk 31 C_X11_element = some (.sipush 160, (0, 0, 0, 0)) := by decide +kernel
theorem s_X11_element_31 {ca : Nat → List Value → tM → tO} {M : tM} {L : tL} {S : List Value} : rn ca C_X11_element 31 L S M = rn ca C_X11_element 34 L (.int (iI 160) :: S) M := (rn_at k_X11_element_31).trans rfl
theorem k_X11_element_34 : lk 34 C_X11_element = some (.iload_n 1, (0, 0, 0, 0)) := by decide +kernel
theorem s_X11_element_34 {ca : Nat → List Value → tM → tO} {M : tM} {a0 a2 : Option Value} {x : Int32} {S : List Value} : rn ca C_X11_element 34 [a0, some (.int x), a2] S M = rn ca C_X11_element 35 [a0, some (.int x), a2] (.int x :: S) M := (rn_at k_X11_element_34).trans rfl
theorem k_X11_element_35 : lk 35 C_X11_element = some (.imul, (0, 0, 0, 0)) := by decide +kernel
theorem s_X11_element_35 {ca : Nat → List Value → tM → tO} {M : tM} {L : tL} {x y : Int32} {S : List Value} : rn ca C_X11_element 35 L (.int y :: .int x :: S) M = rn ca C_X11_element 36 L (.int (x * y) :: S) M := (rn_at k_X11_element_35).trans rfl
theorem k_X11_element_36 : lk 36 C_X11_element = some (.iload_n 2, (0, 0, 0, 0)) := by decide +kernel
theorem s_X11_element_36 {ca : Nat → List Value → tM → tO} {M : tM} {a0 a1 : Option Value} {x : Int32} {S : List Value} : rn ca C_X11_element 36 [a0, a1, some (.int x)] S M = rn ca C_X11_element 37 [a0, a1, some (.int x)] (.int x :: S) M := (rn_at k_X11_element_36).trans rfl
theorem k_X11_element_37 : lk 37 C_X11_element = some (.iadd, (0, 0, 0, 0)) := by decide +kernel
theorem s_X11_element_37 {ca : Nat → List Value → tM → tO} {M : tM} {L : tL} {x y : Int32} {S : List Value} : rn ca C_X11_element 37 L (.int y :: .int x :: S) M = rn ca C_X11_element 38 L (.int (x + y) :: S) M := (rn_at k_X11_element_37).trans rfl
theorem k_X11_element_38 : lk 38 C_X11_element = some (.laload, (0, 0, 0, 0)) := by decide +kernel
theorem s_X11_element_38 {ca : Nat → List Value → tM → tO} {M : tM} {L : tL} {a : Nat} {i : Int32} {S : List Value} : rn ca C_X11_element 38 L (.int i :: .ref a :: S) M = if akind a = 2 ∧ inb i (alen M a) then rn ca C_X11_element 39 L (.long (M.2 a i.toInt.toNat) :: S) M else none := (rn_at k_X11_element_38).trans rnx_ite
theorem k_X11_element_39 : lk 39 C_X11_element = some (.goto 4, (43, 0, 0, 0)) := by decide +kernel
theorem s_X11_element_39 {ca : Nat → List Value → tM → tO} {M : tM} {L : tL} {S : List Value} : rn ca C_X11_element 39 L S M = rn ca C_X11_element 43 L S M := (rn_at k_X11_element_39).trans rfl
theorem k_X11_element_42 : lk 42 C_X11_element = some (.lconst 0, (0, 0, 0, 0)) := by decide +kernel
theorem s_X11_element_42 {ca : Nat → List Value → tM → tO} {M : tM} {L : tL} {S : List Value} : rn ca C_X11_element 42 L S M = rn ca C_X11_element 43 L (.long (jJ 0) :: S) M := (rn_at k_X11_element_42).trans rfl
theorem k_X11_element_43 : lk 43 C_X11_element = some (.lreturn, (0, 0, 0, 0)) := by decide +kernel
theorem s_X11_element_43 {ca : Nat → List Value → tM → tO} {M : tM} {L : tL} {x : Int64} : rn ca C_X11_element 43 L [.long x] M = some (some (.long x), M) := (rn_at k_X11_element_43).trans rfl
theorem k_X11_told_0 : lk 0 C_X11_told = some (.aload_n 0, (0, 0, 0, 0)) := by decide +kernel
theorem s_X11_told_0 {ca : Nat → List Value → tM → tO} {M : tM} {a1 a2 : Option Value} {x : Nat} {S : List Value} : rn ca C_X11_told 0 [some (.ref x), a1, a2] S M = rn ca C_X11_told 1 [some (.ref x), a1, a2] (.ref x :: S) M := (rn_at k_X11_told_0).trans rfl
theorem k_X11_told_1 : lk 1 C_X11_told = some (.getfield 32, (11, 7, 0, 152)) := by decide +kernel
theorem s_X11_told_1 {ca : Nat → List Value → tM → tO} {M : tM} {L : tL} {b : Nat} {S : List Value} : rn ca C_X11_told 1 L (.ref b :: S) M = if clsO b = some 11 then rn ca C_X11_told 4 L (fv M b 7 :: S) M else none := (rn_at k_X11_told_1).trans rnx_ite
theorem k_X11_told_4 : lk 4 C_X11_told = some (.sipush 160, (0, 0, 0, 0)) := by decide +kernel
theorem s_X11_told_4 {ca : Nat → List Value → tM → tO} {M : tM} {L : tL} {S : List Value} : rn ca C_X11_told 4 L S M = rn ca C_X11_told 7 L (.int (iI 160) :: S) M := (rn_at k_X11_told_4).trans rfl
theorem k_X11_told_7 : lk 7 C_X11_told = some (.iload_n 1, (0, 0, 0, 0)) := by decide +kernel
theorem s_X11_told_7 {ca : Nat → List Value → tM → tO} {M : tM} {a0 a2 : Option Value} {x : Int32} {S : List Value} : rn ca C_X11_told 7 [a0, some (.int x), a2] S M = rn ca C_X11_told 8 [a0, some (.int x), a2] (.int x :: S) M := (rn_at k_X11_told_7).trans rfl
theorem k_X11_told_8 : lk 8 C_X11_told = some (.imul, (0, 0, 0, 0)) := by decide +kernel
theorem s_X11_told_8 {ca : Nat → List Value → tM → tO} {M : tM} {L : tL} {x y : Int32} {S : List Value} : rn ca C_X11_told 8 L (.int y :: .int x :: S) M = rn ca C_X11_told 9 L (.int (x * y) :: S) M := (rn_at k_X11_told_8).trans rfl
theorem k_X11_told_9 : lk 9 C_X11_told = some (.iload_n 2, (0, 0, 0, 0)) := by decide +kernel
theorem s_X11_told_9 {ca : Nat → List Value → tM → tO} {M : tM} {a0 a1 : Option Value} {x : Int32} {S : List Value} : rn ca C_X11_told 9 [a0, a1, some (.int x)] S M = rn ca C_X11_told 10 [a0, a1, some (.int x)] (.int x :: S) M := (rn_at k_X11_told_9).trans rfl
theorem k_X11_told_10 : lk 10 C_X11_told = some (.iadd, (0, 0, 0, 0)) := by decide +kernel
theorem s_X11_told_10 {ca : Nat → List Value → tM → tO} {M : tM} {L : tL} {x y : Int32} {S : List Value} : rn ca C_X11_told 10 L (.int y :: .int x :: S) M = rn ca C_X11_told 11 L (.int (x + y) :: S) M := (rn_at k_X11_told_10).trans rfl
theorem k_X11_told_11 : lk 11 C_X11_told = some (.laload, (0, 0, 0, 0)) := by decide +kernel
theorem s_X11_told_11 {ca : Nat → List Value → tM → tO} {M : tM} {L : tL} {a : Nat} {i : Int32} {S : List Value} : rn ca C_X11_told 11 L (.int i :: .ref a :: S) M = if akind a = 2 ∧ inb i (alen M a) then rn ca C_X11_told 12 L (.long (M.2 a i.toInt.toNat) :: S) M else none := (rn_at k_X11_told_11).trans rnx_ite
theorem k_X11_told_12 : lk 12 C_X11_told = some (.l2i, (0, 0, 0, 0)) := by decide +kernel
theorem s_X11_told_12 {ca : Nat → List Value → tM → tO} {M : tM} {L : tL} {x : Int64} {S : List Value} : rn ca C_X11_told 12 L (.long x :: S) M = rn ca C_X11_told 13 L (.int x.toInt32 :: S) M := (rn_at k_X11_told_12).trans rfl
theorem k_X11_told_13 : lk 13 C_X11_told = some (.ireturn, (0, 0, 0, 0)) := by decide +kernel
theorem s_X11_told_13 {ca : Nat → List Value → tM → tO} {M : tM} {L : tL} {x : Int32} : rn ca C_X11_told 13 L [.int x] M = some (some (.int x), M) := (rn_at k_X11_told_13).trans rfl
theorem k_X11_show_0 : lk 0 C_X11_show = some (.iload_n 1, (0, 0, 0, 0)) := by decide +kernel
theorem s_X11_show_0 {ca : Nat → List Value → tM → tO} {M : tM} {a0 a2 : Option Value} {x : Int32} {S : List Value} : rn ca C_X11_show 0 [a0, some (.int x), a2] S M = rn ca C_X11_show 1 [a0, some (.int x), a2] (.int x :: S) M := (rn_at k_X11_show_0).trans rfl
theorem k_X11_show_1 : lk 1 C_X11_show = some (.invokestatic 123, (170, 1, 0, 193)) := by decide +kernel
theorem s_X11_show_1 {ca : Nat → List Value → tM → tO} {M : tM} {L : tL} {v1 : Value} : rn ca C_X11_show 1 L [v1] M = rnk ca C_X11_show 4 L [] (ca m_X11_isShelf [v1] M) := (rn_at k_X11_show_1).trans rfl
theorem k_X11_show_4 : lk 4 C_X11_show = some (.ifCond .eq 17, (21, 0, 0, 0)) := by decide +kernel
theorem s_X11_show_4 {ca : Nat → List Value → tM → tO} {M : tM} {L : tL} {x : Int32} {S : List Value} : rn ca C_X11_show 4 L (.int x :: S) M = if x = iI 0 then rn ca C_X11_show 21 L S M else rn ca C_X11_show 7 L S M := (rn_at k_X11_show_4).trans rnx_ite
theorem k_X11_show_7 : lk 7 C_X11_show = some (.iload_n 2, (0, 0, 0, 0)) := by decide +kernel
theorem s_X11_show_7 {ca : Nat → List Value → tM → tO} {M : tM} {a0 a1 : Option Value} {x : Int32} {S : List Value} : rn ca C_X11_show 7 [a0, a1, some (.int x)] S M = rn ca C_X11_show 8 [a0, a1, some (.int x)] (.int x :: S) M := (rn_at k_X11_show_7).trans rfl
theorem k_X11_show_8 : lk 8 C_X11_show = some (.iconst (-1), (0, 0, 0, 0)) := by decide +kernel
theorem s_X11_show_8 {ca : Nat → List Value → tM → tO} {M : tM} {L : tL} {S : List Value} : rn ca C_X11_show 8 L S M = rn ca C_X11_show 9 L (.int (iI (-1)) :: S) M := (rn_at k_X11_show_8).trans rfl
theorem k_X11_show_9 : lk 9 C_X11_show = some (.if_icmp .eq 18, (27, 0, 0, 0)) := by decide +kernel
theorem s_X11_show_9 {ca : Nat → List Value → tM → tO} {M : tM} {L : tL} {x y : Int32} {S : List Value} : rn ca C_X11_show 9 L (.int y :: .int x :: S) M = if x = y then rn ca C_X11_show 27 L S M else rn ca C_X11_show 12 L S M := (rn_at k_X11_show_9).trans rnx_ite
theorem k_X11_show_12 : lk 12 C_X11_show = some (.aload_n 0, (0, 0, 0, 0)) := by decide +kernel
theorem s_X11_show_12 {ca : Nat → List Value → tM → tO} {M : tM} {a1 a2 : Option Value} {x : Nat} {S : List Value} : rn ca C_X11_show 12 [some (.ref x), a1, a2] S M = rn ca C_X11_show 13 [some (.ref x), a1, a2] (.ref x :: S) M := (rn_at k_X11_show_12).trans rfl
theorem k_X11_show_13 : lk 13 C_X11_show = some (.iload_n 2, (0, 0, 0, 0)) := by decide +kernel
theorem s_X11_show_13 {ca : Nat → List Value → tM → tO} {M : tM} {a0 a1 : Option Value} {x : Int32} {S : List Value} : rn ca C_X11_show 13 [a0, a1, some (.int x)] S M = rn ca C_X11_show 14 [a0, a1, some (.int x)] (.int x :: S) M := (rn_at k_X11_show_13).trans rfl
theorem k_X11_show_14 : lk 14 C_X11_show = some (.i2l, (0, 0, 0, 0)) := by decide +kernel
theorem s_X11_show_14 {ca : Nat → List Value → tM → tO} {M : tM} {L : tL} {x : Int32} {S : List Value} : rn ca C_X11_show 14 L (.int x :: S) M = rn ca C_X11_show 15 L (.long x.toInt64 :: S) M := (rn_at k_X11_show_14).trans rfl
theorem k_X11_show_15 : lk 15 C_X11_show = some (.invokevirtual 114, (149, 1, 11, 302)) := by decide +kernel
theorem s_X11_show_15 {ca : Nat → List Value → tM → tO} {M : tM} {L : tL} {v1 : Value} {b : Nat} : rn ca C_X11_show 15 L [v1, .ref b] M = if clsO b = some 11 then rnk ca C_X11_show 18 L [] (ca m_X11_isCapsule [.ref b, v1] M) else none := (rn_at k_X11_show_15).trans rnx_ite
theorem k_X11_show_18 : lk 18 C_X11_show = some (.ifCond .ne 9, (27, 0, 0, 0)) := by decide +kernel
theorem s_X11_show_18 {ca : Nat → List Value → tM → tO} {M : tM} {L : tL} {x : Int32} {S : List Value} : rn ca C_X11_show 18 L (.int x :: S) M = if ¬ x = iI 0 then rn ca C_X11_show 27 L S M else rn ca C_X11_show 21 L S M := (rn_at k_X11_show_18).trans rnx_ite
theorem k_X11_show_21 : lk 21 C_X11_show = some (.aload_n 0, (0, 0, 0, 0)) := by decide +kernel
theorem s_X11_show_21 {ca : Nat → List Value → tM → tO} {M : tM} {a1 a2 : Option Value} {x : Nat} {S : List Value} : rn ca C_X11_show 21 [some (.ref x), a1, a2] S M = rn ca C_X11_show 22 [some (.ref x), a1, a2] (.ref x :: S) M := (rn_at k_X11_show_21).trans rfl
theorem k_X11_show_22 : lk 22 C_X11_show = some (.iconst (-1), (0, 0, 0, 0)) := by decide +kernel
theorem s_X11_show_22 {ca : Nat → List Value → tM → tO} {M : tM} {L : tL} {S : List Value} : rn ca C_X11_show 22 L S M = rn ca C_X11_show 23 L (.int (iI (-1)) :: S) M := (rn_at k_X11_show_22).trans rfl
theorem k_X11_show_23 : lk 23 C_X11_show = some (.invokevirtual 83, (144, 1, 11, 200)) := by decide +kernel
theorem s_X11_show_23 {ca : Nat → List Value → tM → tO} {M : tM} {L : tL} {v1 : Value} {b : Nat} : rn ca C_X11_show 23 L [v1, .ref b] M = if clsO b = some 11 then rnk ca C_X11_show 26 L [] (ca m_X11_refuse [.ref b, v1] M) else none := (rn_at k_X11_show_23).trans rnx_ite
theorem k_X11_show_26 : lk 26 C_X11_show = some (.ireturn, (0, 0, 0, 0)) := by decide +kernel
theorem s_X11_show_26 {ca : Nat → List Value → tM → tO} {M : tM} {L : tL} {x : Int32} : rn ca C_X11_show 26 L [.int x] M = some (some (.int x), M) := (rn_at k_X11_show_26).trans rfl
theorem k_X11_show_27 : lk 27 C_X11_show = some (.aload_n 0, (0, 0, 0, 0)) := by decide +kernel
theorem s_X11_show_27 {ca : Nat → List Value → tM → tO} {M : tM} {a1 a2 : Option Value} {x : Nat} {S : List Value} : rn ca C_X11_show 27 [some (.ref x), a1, a2] S M = rn ca C_X11_show 28 [some (.ref x), a1, a2] (.ref x :: S) M := (rn_at k_X11_show_27).trans rfl
theorem k_X11_show_28 : lk 28 C_X11_show = some (.getfield 26, (11, 5, 0, 150)) := by decide +kernel
theorem s_X11_show_28 {ca : Nat → List Value → tM → tO} {M : tM} {L : tL} {b : Nat} {S : List Value} : rn ca C_X11_show 28 L (.ref b :: S) M = if clsO b = some 11 then rn ca C_X11_show 31 L (fv M b 5 :: S) M else none := (rn_at k_X11_show_28).trans rnx_ite
theorem k_X11_show_31 : lk 31 C_X11_show = some (.iload_n 1, (0, 0, 0, 0)) := by decide +kernel
theorem s_X11_show_31 {ca : Nat → List Value → tM → tO} {M : tM} {a0 a2 : Option Value} {x : Int32} {S : List Value} : rn ca C_X11_show 31 [a0, some (.int x), a2] S M = rn ca C_X11_show 32 [a0, some (.int x), a2] (.int x :: S) M := (rn_at k_X11_show_31).trans rfl
theorem k_X11_show_32 : lk 32 C_X11_show = some (.iload_n 2, (0, 0, 0, 0)) := by decide +kernel
theorem s_X11_show_32 {ca : Nat → List Value → tM → tO} {M : tM} {a0 a1 : Option Value} {x : Int32} {S : List Value} : rn ca C_X11_show 32 [a0, a1, some (.int x)] S M = rn ca C_X11_show 33 [a0, a1, some (.int x)] (.int x :: S) M := (rn_at k_X11_show_32).trans rfl
theorem k_X11_show_33 : lk 33 C_X11_show = some (.iastore, (0, 0, 0, 0)) := by decide +kernel
theorem s_X11_show_33 {ca : Nat → List Value → tM → tO} {M : tM} {L : tL} {a : Nat} {i x : Int32} {S : List Value} : rn ca C_X11_show 33 L (.int x :: .int i :: .ref a :: S) M = if akind a = 0 ∧ inb i (alen M a) then rn ca C_X11_show 34 L S (sI M a i.toInt.toNat x) else none := (rn_at k_X11_show_33).trans rnx_ite
theorem k_X11_show_34 : lk 34 C_X11_show = some (.iload_n 2, (0, 0, 0, 0)) := by decide +kernel
theorem s_X11_show_34 {ca : Nat → List Value → tM → tO} {M : tM} {a0 a1 : Option Value} {x : Int32} {S : List Value} : rn ca C_X11_show 34 [a0, a1, some (.int x)] S M = rn ca C_X11_show 35 [a0, a1, some (.int x)] (.int x :: S) M := (rn_at k_X11_show_34).trans rfl
theorem k_X11_show_35 : lk 35 C_X11_show = some (.iconst (-1), (0, 0, 0, 0)) := by decide +kernel
theorem s_X11_show_35 {ca : Nat → List Value → tM → tO} {M : tM} {L : tL} {S : List Value} : rn ca C_X11_show 35 L S M = rn ca C_X11_show 36 L (.int (iI (-1)) :: S) M := (rn_at k_X11_show_35).trans rfl
theorem k_X11_show_36 : lk 36 C_X11_show = some (.if_icmp .ne 7, (43, 0, 0, 0)) := by decide +kernel
theorem s_X11_show_36 {ca : Nat → List Value → tM → tO} {M : tM} {L : tL} {x y : Int32} {S : List Value} : rn ca C_X11_show 36 L (.int y :: .int x :: S) M = if ¬ x = y then rn ca C_X11_show 43 L S M else rn ca C_X11_show 39 L S M := (rn_at k_X11_show_36).trans rnx_ite
theorem k_X11_show_39 : lk 39 C_X11_show = some (.iconst 0, (0, 0, 0, 0)) := by decide +kernel
theorem s_X11_show_39 {ca : Nat → List Value → tM → tO} {M : tM} {L : tL} {S : List Value} : rn ca C_X11_show 39 L S M = rn ca C_X11_show 40 L (.int (iI 0) :: S) M := (rn_at k_X11_show_39).trans rfl
theorem k_X11_show_40 : lk 40 C_X11_show = some (.goto 4, (44, 0, 0, 0)) := by decide +kernel
theorem s_X11_show_40 {ca : Nat → List Value → tM → tO} {M : tM} {L : tL} {S : List Value} : rn ca C_X11_show 40 L S M = rn ca C_X11_show 44 L S M := (rn_at k_X11_show_40).trans rfl
theorem k_X11_show_43 : lk 43 C_X11_show = some (.iconst 1, (0, 0, 0, 0)) := by decide +kernel
theorem s_X11_show_43 {ca : Nat → List Value → tM → tO} {M : tM} {L : tL} {S : List Value} : rn ca C_X11_show 43 L S M = rn ca C_X11_show 44 L (.int (iI 1) :: S) M := (rn_at k_X11_show_43).trans rfl
theorem k_X11_show_44 : lk 44 C_X11_show = some (.ireturn, (0, 0, 0, 0)) := by decide +kernel
theorem s_X11_show_44 {ca : Nat → List Value → tM → tO} {M : tM} {L : tL} {x : Int32} : rn ca C_X11_show 44 L [.int x] M = some (some (.int x), M) := (rn_at k_X11_show_44).trans rfl
theorem k_X11_holds_0 : lk 0 C_X11_holds = some (.iload_n 1, (0, 0, 0, 0)) := by decide +kernel
theorem s_X11_holds_0 {ca : Nat → List Value → tM → tO} {M : tM} {a0 : Option Value} {x : Int32} {S : List Value} : rn ca C_X11_holds 0 [a0, some (.int x)] S M = rn ca C_X11_holds 1 [a0, some (.int x)] (.int x :: S) M := (rn_at k_X11_holds_0).trans rfl
theorem k_X11_holds_1 : lk 1 C_X11_holds = some (.invokestatic 123, (170, 1, 0, 193)) := by decide +kernel
theorem s_X11_holds_1 {ca : Nat → List Value → tM → tO} {M : tM} {L : tL} {v1 : Value} : rn ca C_X11_holds 1 L [v1] M = rnk ca C_X11_holds 4 L [] (ca m_X11_isShelf [v1] M) := (rn_at k_X11_holds_1).trans rfl
theorem k_X11_holds_4 : lk 4 C_X11_holds = some (.ifCond .eq 12, (16, 0, 0, 0)) := by decide +kernel
theorem s_X11_holds_4 {ca : Nat → List Value → tM → tO} {M : tM} {L : tL} {x : Int32} {S : List Value} : rn ca C_X11_holds 4 L (.int x :: S) M = if x = iI 0 then rn ca C_X11_holds 16 L S M else rn ca C_X11_holds 7 L S M := (rn_at k_X11_holds_4).trans rnx_ite
theorem k_X11_holds_7 : lk 7 C_X11_holds = some (.aload_n 0, (0, 0, 0, 0)) := by decide +kernel
theorem s_X11_holds_7 {ca : Nat → List Value → tM → tO} {M : tM} {a1 : Option Value} {x : Nat} {S : List Value} : rn ca C_X11_holds 7 [some (.ref x), a1] S M = rn ca C_X11_holds 8 [some (.ref x), a1] (.ref x :: S) M := (rn_at k_X11_holds_7).trans rfl
theorem k_X11_holds_8 : lk 8 C_X11_holds = some (.getfield 26, (11, 5, 0, 150)) := by decide +kernel
theorem s_X11_holds_8 {ca : Nat → List Value → tM → tO} {M : tM} {L : tL} {b : Nat} {S : List Value} : rn ca C_X11_holds 8 L (.ref b :: S) M = if clsO b = some 11 then rn ca C_X11_holds 11 L (fv M b 5 :: S) M else none := (rn_at k_X11_holds_8).trans rnx_ite
theorem k_X11_holds_11 : lk 11 C_X11_holds = some (.iload_n 1, (0, 0, 0, 0)) := by decide +kernel
theorem s_X11_holds_11 {ca : Nat → List Value → tM → tO} {M : tM} {a0 : Option Value} {x : Int32} {S : List Value} : rn ca C_X11_holds 11 [a0, some (.int x)] S M = rn ca C_X11_holds 12 [a0, some (.int x)] (.int x :: S) M := (rn_at k_X11_holds_11).trans rfl
theorem k_X11_holds_12 : lk 12 C_X11_holds = some (.iaload, (0, 0, 0, 0)) := by decide +kernel
theorem s_X11_holds_12 {ca : Nat → List Value → tM → tO} {M : tM} {L : tL} {a : Nat} {i : Int32} {S : List Value} : rn ca C_X11_holds 12 L (.int i :: .ref a :: S) M = if (akind a = 0 ∨ akind a = 6 ∨ akind a = 7) ∧ inb i (alen M a) then rn ca C_X11_holds 13 L (.int (M.1 a i.toInt.toNat) :: S) M else none := (rn_at k_X11_holds_12).trans rnx_ite
theorem k_X11_holds_13 : lk 13 C_X11_holds = some (.goto 4, (17, 0, 0, 0)) := by decide +kernel
theorem s_X11_holds_13 {ca : Nat → List Value → tM → tO} {M : tM} {L : tL} {S : List Value} : rn ca C_X11_holds 13 L S M = rn ca C_X11_holds 17 L S M := (rn_at k_X11_holds_13).trans rfl
theorem k_X11_holds_16 : lk 16 C_X11_holds = some (.iconst (-1), (0, 0, 0, 0)) := by decide +kernel
theorem s_X11_holds_16 {ca : Nat → List Value → tM → tO} {M : tM} {L : tL} {S : List Value} : rn ca C_X11_holds 16 L S M = rn ca C_X11_holds 17 L (.int (iI (-1)) :: S) M := (rn_at k_X11_holds_16).trans rfl
theorem k_X11_holds_17 : lk 17 C_X11_holds = some (.ireturn, (0, 0, 0, 0)) := by decide +kernel
theorem s_X11_holds_17 {ca : Nat → List Value → tM → tO} {M : tM} {L : tL} {x : Int32} : rn ca C_X11_holds 17 L [.int x] M = some (some (.int x), M) := (rn_at k_X11_holds_17).trans rfl
theorem k_X11_says_0 : lk 0 C_X11_says = some (.iload_n 1, (0, 0, 0, 0)) := by decide +kernel
theorem s_X11_says_0 {ca : Nat → List Value → tM → tO} {M : tM} {a0 a2 a3 a4 : Option Value} {x : Int32} {S : List Value} : rn ca C_X11_says 0 [a0, some (.int x), a2, a3, a4] S M = rn ca C_X11_says 1 [a0, some (.int x), a2, a3, a4] (.int x :: S) M := (rn_at k_X11_says_0).trans rfl
theorem k_X11_says_1 : lk 1 C_X11_says = some (.invokestatic 123, (170, 1, 0, 193)) := by decide +kernel
theorem s_X11_says_1 {ca : Nat → List Value → tM → tO} {M : tM} {L : tL} {v1 : Value} : rn ca C_X11_says 1 L [v1] M = rnk ca C_X11_says 4 L [] (ca m_X11_isShelf [v1] M) := (rn_at k_X11_says_1).trans rfl
theorem k_X11_says_4 : lk 4 C_X11_says = some (.ifCond .eq 15, (19, 0, 0, 0)) := by decide +kernel
theorem s_X11_says_4 {ca : Nat → List Value → tM → tO} {M : tM} {L : tL} {x : Int32} {S : List Value} : rn ca C_X11_says 4 L (.int x :: S) M = if x = iI 0 then rn ca C_X11_says 19 L S M else rn ca C_X11_says 7 L S M := (rn_at k_X11_says_4).trans rnx_ite
theorem k_X11_says_7 : lk 7 C_X11_says = some (.iload_n 2, (0, 0, 0, 0)) := by decide +kernel
theorem s_X11_says_7 {ca : Nat → List Value → tM → tO} {M : tM} {a0 a1 a3 a4 : Option Value} {x : Int32} {S : List Value} : rn ca C_X11_says 7 [a0, a1, some (.int x), a3, a4] S M = rn ca C_X11_says 8 [a0, a1, some (.int x), a3, a4] (.int x :: S) M := (rn_at k_X11_says_7).trans rfl
theorem k_X11_says_8 : lk 8 C_X11_says = some (.i2l, (0, 0, 0, 0)) := by decide +kernel
theorem s_X11_says_8 {ca : Nat → List Value → tM → tO} {M : tM} {L : tL} {x : Int32} {S : List Value} : rn ca C_X11_says 8 L (.int x :: S) M = rn ca C_X11_says 9 L (.long x.toInt64 :: S) M := (rn_at k_X11_says_8).trans rfl
theorem k_X11_says_9 : lk 9 C_X11_says = some (.lconst 0, (0, 0, 0, 0)) := by decide +kernel
theorem s_X11_says_9 {ca : Nat → List Value → tM → tO} {M : tM} {L : tL} {S : List Value} : rn ca C_X11_says 9 L S M = rn ca C_X11_says 10 L (.long (jJ 0) :: S) M := (rn_at k_X11_says_9).trans rfl
theorem k_X11_says_10 : lk 10 C_X11_says = some (.ldc2_w 105, (0, 0, 6, 326)) := by decide +kernel
theorem s_X11_says_10 {ca : Nat → List Value → tM → tO} {M : tM} {L : tL} {S : List Value} : rn ca C_X11_says 10 L S M = rn ca C_X11_says 13 L (.long (jJ 6) :: S) M := (rn_at k_X11_says_10).trans rfl
theorem k_X11_says_13 : lk 13 C_X11_says = some (.invokestatic 87, (143, 3, 0, 197)) := by decide +kernel
theorem s_X11_says_13 {ca : Nat → List Value → tM → tO} {M : tM} {L : tL} {v1 v2 v3 : Value} : rn ca C_X11_says 13 L [v3, v2, v1] M = rnk ca C_X11_says 16 L [] (ca m_X11_isIn [v1, v2, v3] M) := (rn_at k_X11_says_13).trans rfl
theorem k_X11_says_16 : lk 16 C_X11_says = some (.ifCond .ne 9, (25, 0, 0, 0)) := by decide +kernel
theorem s_X11_says_16 {ca : Nat → List Value → tM → tO} {M : tM} {L : tL} {x : Int32} {S : List Value} : rn ca C_X11_says 16 L (.int x :: S) M = if ¬ x = iI 0 then rn ca C_X11_says 25 L S M else rn ca C_X11_says 19 L S M := (rn_at k_X11_says_16).trans rnx_ite
theorem k_X11_says_19 : lk 19 C_X11_says = some (.aload_n 0, (0, 0, 0, 0)) := by decide +kernel
theorem s_X11_says_19 {ca : Nat → List Value → tM → tO} {M : tM} {a1 a2 a3 a4 : Option Value} {x : Nat} {S : List Value} : rn ca C_X11_says 19 [some (.ref x), a1, a2, a3, a4] S M = rn ca C_X11_says 20 [some (.ref x), a1, a2, a3, a4] (.ref x :: S) M := (rn_at k_X11_says_19).trans rfl
theorem k_X11_says_20 : lk 20 C_X11_says = some (.iconst (-1), (0, 0, 0, 0)) := by decide +kernel
theorem s_X11_says_20 {ca : Nat → List Value → tM → tO} {M : tM} {L : tL} {S : List Value} : rn ca C_X11_says 20 L S M = rn ca C_X11_says 21 L (.int (iI (-1)) :: S) M := (rn_at k_X11_says_20).trans rfl
theorem k_X11_says_21 : lk 21 C_X11_says = some (.invokevirtual 83, (144, 1, 11, 200)) := by decide +kernel
theorem s_X11_says_21 {ca : Nat → List Value → tM → tO} {M : tM} {L : tL} {v1 : Value} {b : Nat} : rn ca C_X11_says 21 L [v1, .ref b] M = if clsO b = some 11 then rnk ca C_X11_says 24 L [] (ca m_X11_refuse [.ref b, v1] M) else none := (rn_at k_X11_says_21).trans rnx_ite
theorem k_X11_says_24 : lk 24 C_X11_says = some (.ireturn, (0, 0, 0, 0)) := by decide +kernel
theorem s_X11_says_24 {ca : Nat → List Value → tM → tO} {M : tM} {L : tL} {x : Int32} : rn ca C_X11_says 24 L [.int x] M = some (some (.int x), M) := (rn_at k_X11_says_24).trans rfl
theorem k_X11_says_25 : lk 25 C_X11_says = some (.aload_n 0, (0, 0, 0, 0)) := by decide +kernel
theorem s_X11_says_25 {ca : Nat → List Value → tM → tO} {M : tM} {a1 a2 a3 a4 : Option Value} {x : Nat} {S : List Value} : rn ca C_X11_says 25 [some (.ref x), a1, a2, a3, a4] S M = rn ca C_X11_says 26 [some (.ref x), a1, a2, a3, a4] (.ref x :: S) M := (rn_at k_X11_says_25).trans rfl
theorem k_X11_says_26 : lk 26 C_X11_says = some (.getfield 26, (11, 5, 0, 150)) := by decide +kernel
theorem s_X11_says_26 {ca : Nat → List Value → tM → tO} {M : tM} {L : tL} {b : Nat} {S : List Value} : rn ca C_X11_says 26 L (.ref b :: S) M = if clsO b = some 11 then rn ca C_X11_says 29 L (fv M b 5 :: S) M else none := (rn_at k_X11_says_26).trans rnx_ite
theorem k_X11_says_29 : lk 29 C_X11_says = some (.iload_n 1, (0, 0, 0, 0)) := by decide +kernel
theorem s_X11_says_29 {ca : Nat → List Value → tM → tO} {M : tM} {a0 a2 a3 a4 : Option Value} {x : Int32} {S : List Value} : rn ca C_X11_says 29 [a0, some (.int x), a2, a3, a4] S M = rn ca C_X11_says 30 [a0, some (.int x), a2, a3, a4] (.int x :: S) M := (rn_at k_X11_says_29).trans rfl
theorem k_X11_says_30 : lk 30 C_X11_says = some (.iaload, (0, 0, 0, 0)) := by decide +kernel
theorem s_X11_says_30 {ca : Nat → List Value → tM → tO} {M : tM} {L : tL} {a : Nat} {i : Int32} {S : List Value} : rn ca C_X11_says 30 L (.int i :: .ref a :: S) M = if (akind a = 0 ∨ akind a = 6 ∨ akind a = 7) ∧ inb i (alen M a) then rn ca C_X11_says 31 L (.int (M.1 a i.toInt.toNat) :: S) M else none := (rn_at k_X11_says_30).trans rnx_ite
theorem k_X11_says_31 : lk 31 C_X11_says = some (.iconst (-1), (0, 0, 0, 0)) := by decide +kernel
theorem s_X11_says_31 {ca : Nat → List Value → tM → tO} {M : tM} {L : tL} {S : List Value} : rn ca C_X11_says 31 L S M = rn ca C_X11_says 32 L (.int (iI (-1)) :: S) M := (rn_at k_X11_says_31).trans rfl
theorem k_X11_says_32 : lk 32 C_X11_says = some (.if_icmp .ne 10, (42, 0, 0, 0)) := by decide +kernel
theorem s_X11_says_32 {ca : Nat → List Value → tM → tO} {M : tM} {L : tL} {x y : Int32} {S : List Value} : rn ca C_X11_says 32 L (.int y :: .int x :: S) M = if ¬ x = y then rn ca C_X11_says 42 L S M else rn ca C_X11_says 35 L S M := (rn_at k_X11_says_32).trans rnx_ite
theorem k_X11_says_35 : lk 35 C_X11_says = some (.aload_n 0, (0, 0, 0, 0)) := by decide +kernel
theorem s_X11_says_35 {ca : Nat → List Value → tM → tO} {M : tM} {a1 a2 a3 a4 : Option Value} {x : Nat} {S : List Value} : rn ca C_X11_says 35 [some (.ref x), a1, a2, a3, a4] S M = rn ca C_X11_says 36 [some (.ref x), a1, a2, a3, a4] (.ref x :: S) M := (rn_at k_X11_says_35).trans rfl
theorem k_X11_says_36 : lk 36 C_X11_says = some (.bipush (-3), (0, 0, 0, 0)) := by decide +kernel
theorem s_X11_says_36 {ca : Nat → List Value → tM → tO} {M : tM} {L : tL} {S : List Value} : rn ca C_X11_says 36 L S M = rn ca C_X11_says 38 L (.int (iI (-3)) :: S) M := (rn_at k_X11_says_36).trans rfl
theorem k_X11_says_38 : lk 38 C_X11_says = some (.invokevirtual 83, (144, 1, 11, 200)) := by decide +kernel
theorem s_X11_says_38 {ca : Nat → List Value → tM → tO} {M : tM} {L : tL} {v1 : Value} {b : Nat} : rn ca C_X11_says 38 L [v1, .ref b] M = if clsO b = some 11 then rnk ca C_X11_says 41 L [] (ca m_X11_refuse [.ref b, v1] M) else none := (rn_at k_X11_says_38).trans rnx_ite
theorem k_X11_says_41 : lk 41 C_X11_says = some (.ireturn, (0, 0, 0, 0)) := by decide +kernel
theorem s_X11_says_41 {ca : Nat → List Value → tM → tO} {M : tM} {L : tL} {x : Int32} : rn ca C_X11_says 41 L [.int x] M = some (some (.int x), M) := (rn_at k_X11_says_41).trans rfl
theorem k_X11_says_42 : lk 42 C_X11_says = some (.aload_n 0, (0, 0, 0, 0)) := by decide +kernel
theorem s_X11_says_42 {ca : Nat → List Value → tM → tO} {M : tM} {a1 a2 a3 a4 : Option Value} {x : Nat} {S : List Value} : rn ca C_X11_says 42 [some (.ref x), a1, a2, a3, a4] S M = rn ca C_X11_says 43 [some (.ref x), a1, a2, a3, a4] (.ref x :: S) M := (rn_at k_X11_says_42).trans rfl
theorem k_X11_says_43 : lk 43 C_X11_says = some (.getfield 26, (11, 5, 0, 150)) := by decide +kernel
theorem s_X11_says_43 {ca : Nat → List Value → tM → tO} {M : tM} {L : tL} {b : Nat} {S : List Value} : rn ca C_X11_says 43 L (.ref b :: S) M = if clsO b = some 11 then rn ca C_X11_says 46 L (fv M b 5 :: S) M else none := (rn_at k_X11_says_43).trans rnx_ite
theorem k_X11_says_46 : lk 46 C_X11_says = some (.iload_n 1, (0, 0, 0, 0)) := by decide +kernel
theorem s_X11_says_46 {ca : Nat → List Value → tM → tO} {M : tM} {a0 a2 a3 a4 : Option Value} {x : Int32} {S : List Value} : rn ca C_X11_says 46 [a0, some (.int x), a2, a3, a4] S M = rn ca C_X11_says 47 [a0, some (.int x), a2, a3, a4] (.int x :: S) M := (rn_at k_X11_says_46).trans rfl
theorem k_X11_says_47 : lk 47 C_X11_says = some (.iaload, (0, 0, 0, 0)) := by decide +kernel
theorem s_X11_says_47 {ca : Nat → List Value → tM → tO} {M : tM} {L : tL} {a : Nat} {i : Int32} {S : List Value} : rn ca C_X11_says 47 L (.int i :: .ref a :: S) M = if (akind a = 0 ∨ akind a = 6 ∨ akind a = 7) ∧ inb i (alen M a) then rn ca C_X11_says 48 L (.int (M.1 a i.toInt.toNat) :: S) M else none := (rn_at k_X11_says_47).trans rnx_ite
theorem k_X11_says_48 : lk 48 C_X11_says = some (.istore_n 3, (0, 0, 0, 0)) := by decide +kernel
theorem s_X11_says_48 {ca : Nat → List Value → tM → tO} {M : tM} {a0 a1 a2 a3 a4 : Option Value} {x : Int32} {S : List Value} : rn ca C_X11_says 48 [a0, a1, a2, a3, a4] (.int x :: S) M = rn ca C_X11_says 49 [a0, a1, a2, some (.int x), a4] S M := (rn_at k_X11_says_48).trans rfl
theorem k_X11_says_49 : lk 49 C_X11_says = some (.iload_n 3, (0, 0, 0, 0)) := by decide +kernel
theorem s_X11_says_49 {ca : Nat → List Value → tM → tO} {M : tM} {a0 a1 a2 a4 : Option Value} {x : Int32} {S : List Value} : rn ca C_X11_says 49 [a0, a1, a2, some (.int x), a4] S M = rn ca C_X11_says 50 [a0, a1, a2, some (.int x), a4] (.int x :: S) M := (rn_at k_X11_says_49).trans rfl
theorem k_X11_says_50 : lk 50 C_X11_says = some (.bipush 100, (0, 0, 0, 0)) := by decide +kernel
theorem s_X11_says_50 {ca : Nat → List Value → tM → tO} {M : tM} {L : tL} {S : List Value} : rn ca C_X11_says 50 L S M = rn ca C_X11_says 52 L (.int (iI 100) :: S) M := (rn_at k_X11_says_50).trans rfl
theorem k_X11_says_52 : lk 52 C_X11_says = some (.if_icmp .lt 7, (59, 0, 0, 0)) := by decide +kernel
theorem s_X11_says_52 {ca : Nat → List Value → tM → tO} {M : tM} {L : tL} {x y : Int32} {S : List Value} : rn ca C_X11_says 52 L (.int y :: .int x :: S) M = if x < y then rn ca C_X11_says 59 L S M else rn ca C_X11_says 55 L S M := (rn_at k_X11_says_52).trans rnx_ite
theorem k_X11_says_55 : lk 55 C_X11_says = some (.iconst (-1), (0, 0, 0, 0)) := by decide +kernel
theorem s_X11_says_55 {ca : Nat → List Value → tM → tO} {M : tM} {L : tL} {S : List Value} : rn ca C_X11_says 55 L S M = rn ca C_X11_says 56 L (.int (iI (-1)) :: S) M := (rn_at k_X11_says_55).trans rfl
theorem k_X11_says_56 : lk 56 C_X11_says = some (.goto 8, (64, 0, 0, 0)) := by decide +kernel
theorem s_X11_says_56 {ca : Nat → List Value → tM → tO} {M : tM} {L : tL} {S : List Value} : rn ca C_X11_says 56 L S M = rn ca C_X11_says 64 L S M := (rn_at k_X11_says_56).trans rfl
theorem k_X11_says_59 : lk 59 C_X11_says = some (.aload_n 0, (0, 0, 0, 0)) := by decide +kernel
theorem s_X11_says_59 {ca : Nat → List Value → tM → tO} {M : tM} {a1 a2 a3 a4 : Option Value} {x : Nat} {S : List Value} : rn ca C_X11_says 59 [some (.ref x), a1, a2, a3, a4] S M = rn ca C_X11_says 60 [some (.ref x), a1, a2, a3, a4] (.ref x :: S) M := (rn_at k_X11_says_59).trans rfl
theorem k_X11_says_60 : lk 60 C_X11_says = some (.iload_n 3, (0, 0, 0, 0)) := by decide +kernel
theorem s_X11_says_60 {ca : Nat → List Value → tM → tO} {M : tM} {a0 a1 a2 a4 : Option Value} {x : Int32} {S : List Value} : rn ca C_X11_says 60 [a0, a1, a2, some (.int x), a4] S M = rn ca C_X11_says 61 [a0, a1, a2, some (.int x), a4] (.int x :: S) M := (rn_at k_X11_says_60).trans rfl
theorem k_X11_says_61 : lk 61 C_X11_says = some (.invokevirtual 134, (155, 1, 11, 327)) := by decide +kernel
theorem s_X11_says_61 {ca : Nat → List Value → tM → tO} {M : tM} {L : tL} {v1 : Value} {b : Nat} : rn ca C_X11_says 61 L [v1, .ref b] M = if clsO b = some 11 then rnk ca C_X11_says 64 L [] (ca m_X11_kind [.ref b, v1] M) else none := (rn_at k_X11_says_61).trans rnx_ite
theorem k_X11_says_64 : lk 64 C_X11_says = some (.istore 4, (0, 0, 0, 0)) := by decide +kernel
theorem s_X11_says_64 {ca : Nat → List Value → tM → tO} {M : tM} {a0 a1 a2 a3 a4 : Option Value} {x : Int32} {S : List Value} : rn ca C_X11_says 64 [a0, a1, a2, a3, a4] (.int x :: S) M = rn ca C_X11_says 66 [a0, a1, a2, a3, some (.int x)] S M := (rn_at k_X11_says_64).trans rfl
theorem k_X11_says_66 : lk 66 C_X11_says = some (.iload 4, (0, 0, 0, 0)) := by decide +kernel
theorem s_X11_says_66 {ca : Nat → List Value → tM → tO} {M : tM} {a0 a1 a2 a3 : Option Value} {x : Int32} {S : List Value} : rn ca C_X11_says 66 [a0, a1, a2, a3, some (.int x)] S M = rn ca C_X11_says 68 [a0, a1, a2, a3, some (.int x)] (.int x :: S) M := (rn_at k_X11_says_66).trans rfl
theorem k_X11_says_68 : lk 68 C_X11_says = some (.iconst (-1), (0, 0, 0, 0)) := by decide +kernel
theorem s_X11_says_68 {ca : Nat → List Value → tM → tO} {M : tM} {L : tL} {S : List Value} : rn ca C_X11_says 68 L S M = rn ca C_X11_says 69 L (.int (iI (-1)) :: S) M := (rn_at k_X11_says_68).trans rfl
theorem k_X11_says_69 : lk 69 C_X11_says = some (.if_icmp .eq 21, (90, 0, 0, 0)) := by decide +kernel
theorem s_X11_says_69 {ca : Nat → List Value → tM → tO} {M : tM} {L : tL} {x y : Int32} {S : List Value} : rn ca C_X11_says 69 L (.int y :: .int x :: S) M = if x = y then rn ca C_X11_says 90 L S M else rn ca C_X11_says 72 L S M := (rn_at k_X11_says_69).trans rnx_ite
theorem k_X11_says_72 : lk 72 C_X11_says = some (.iload 4, (0, 0, 0, 0)) := by decide +kernel
theorem s_X11_says_72 {ca : Nat → List Value → tM → tO} {M : tM} {a0 a1 a2 a3 : Option Value} {x : Int32} {S : List Value} : rn ca C_X11_says 72 [a0, a1, a2, a3, some (.int x)] S M = rn ca C_X11_says 74 [a0, a1, a2, a3, some (.int x)] (.int x :: S) M := (rn_at k_X11_says_72).trans rfl
theorem k_X11_says_74 : lk 74 C_X11_says = some (.iload_n 2, (0, 0, 0, 0)) := by decide +kernel
theorem s_X11_says_74 {ca : Nat → List Value → tM → tO} {M : tM} {a0 a1 a3 a4 : Option Value} {x : Int32} {S : List Value} : rn ca C_X11_says 74 [a0, a1, some (.int x), a3, a4] S M = rn ca C_X11_says 75 [a0, a1, some (.int x), a3, a4] (.int x :: S) M := (rn_at k_X11_says_74).trans rfl
theorem k_X11_says_75 : lk 75 C_X11_says = some (.if_icmp .eq 15, (90, 0, 0, 0)) := by decide +kernel
theorem s_X11_says_75 {ca : Nat → List Value → tM → tO} {M : tM} {L : tL} {x y : Int32} {S : List Value} : rn ca C_X11_says 75 L (.int y :: .int x :: S) M = if x = y then rn ca C_X11_says 90 L S M else rn ca C_X11_says 78 L S M := (rn_at k_X11_says_75).trans rnx_ite
theorem k_X11_says_78 : lk 78 C_X11_says = some (.aload_n 0, (0, 0, 0, 0)) := by decide +kernel
theorem s_X11_says_78 {ca : Nat → List Value → tM → tO} {M : tM} {a1 a2 a3 a4 : Option Value} {x : Nat} {S : List Value} : rn ca C_X11_says 78 [some (.ref x), a1, a2, a3, a4] S M = rn ca C_X11_says 79 [some (.ref x), a1, a2, a3, a4] (.ref x :: S) M := (rn_at k_X11_says_78).trans rfl
theorem k_X11_says_79 : lk 79 C_X11_says = some (.getfield 39, (11, 9, 0, 154)) := by decide +kernel
theorem s_X11_says_79 {ca : Nat → List Value → tM → tO} {M : tM} {L : tL} {b : Nat} {S : List Value} : rn ca C_X11_says 79 L (.ref b :: S) M = if clsO b = some 11 then rn ca C_X11_says 82 L (fv M b 9 :: S) M else none := (rn_at k_X11_says_79).trans rnx_ite
theorem k_X11_says_82 : lk 82 C_X11_says = some (.iload 4, (0, 0, 0, 0)) := by decide +kernel
theorem s_X11_says_82 {ca : Nat → List Value → tM → tO} {M : tM} {a0 a1 a2 a3 : Option Value} {x : Int32} {S : List Value} : rn ca C_X11_says 82 [a0, a1, a2, a3, some (.int x)] S M = rn ca C_X11_says 84 [a0, a1, a2, a3, some (.int x)] (.int x :: S) M := (rn_at k_X11_says_82).trans rfl
theorem k_X11_says_84 : lk 84 C_X11_says = some (.iaload, (0, 0, 0, 0)) := by decide +kernel
theorem s_X11_says_84 {ca : Nat → List Value → tM → tO} {M : tM} {L : tL} {a : Nat} {i : Int32} {S : List Value} : rn ca C_X11_says 84 L (.int i :: .ref a :: S) M = if (akind a = 0 ∨ akind a = 6 ∨ akind a = 7) ∧ inb i (alen M a) then rn ca C_X11_says 85 L (.int (M.1 a i.toInt.toNat) :: S) M else none := (rn_at k_X11_says_84).trans rnx_ite
theorem k_X11_says_85 : lk 85 C_X11_says = some (.istore 4, (0, 0, 0, 0)) := by decide +kernel
theorem s_X11_says_85 {ca : Nat → List Value → tM → tO} {M : tM} {a0 a1 a2 a3 a4 : Option Value} {x : Int32} {S : List Value} : rn ca C_X11_says 85 [a0, a1, a2, a3, a4] (.int x :: S) M = rn ca C_X11_says 87 [a0, a1, a2, a3, some (.int x)] S M := (rn_at k_X11_says_85).trans rfl
theorem k_X11_says_87 : lk 87 C_X11_says = some (.goto (-21), (66, 0, 0, 0)) := by decide +kernel
theorem s_X11_says_87 {ca : Nat → List Value → tM → tO} {M : tM} {L : tL} {S : List Value} : rn ca C_X11_says 87 L S M = rn ca C_X11_says 66 L S M := (rn_at k_X11_says_87).trans rfl
theorem k_X11_says_90 : lk 90 C_X11_says = some (.iload 4, (0, 0, 0, 0)) := by decide +kernel
theorem s_X11_says_90 {ca : Nat → List Value → tM → tO} {M : tM} {a0 a1 a2 a3 : Option Value} {x : Int32} {S : List Value} : rn ca C_X11_says 90 [a0, a1, a2, a3, some (.int x)] S M = rn ca C_X11_says 92 [a0, a1, a2, a3, some (.int x)] (.int x :: S) M := (rn_at k_X11_says_90).trans rfl
theorem k_X11_says_92 : lk 92 C_X11_says = some (.iconst (-1), (0, 0, 0, 0)) := by decide +kernel
theorem s_X11_says_92 {ca : Nat → List Value → tM → tO} {M : tM} {L : tL} {S : List Value} : rn ca C_X11_says 92 L S M = rn ca C_X11_says 93 L (.int (iI (-1)) :: S) M := (rn_at k_X11_says_92).trans rfl
theorem k_X11_says_93 : lk 93 C_X11_says = some (.if_icmp .ne 10, (103, 0, 0, 0)) := by decide +kernel
theorem s_X11_says_93 {ca : Nat → List Value → tM → tO} {M : tM} {L : tL} {x y : Int32} {S : List Value} : rn ca C_X11_says 93 L (.int y :: .int x :: S) M = if ¬ x = y then rn ca C_X11_says 103 L S M else rn ca C_X11_says 96 L S M := (rn_at k_X11_says_93).trans rnx_ite
theorem k_X11_says_96 : lk 96 C_X11_says = some (.aload_n 0, (0, 0, 0, 0)) := by decide +kernel
theorem s_X11_says_96 {ca : Nat → List Value → tM → tO} {M : tM} {a1 a2 a3 a4 : Option Value} {x : Nat} {S : List Value} : rn ca C_X11_says 96 [some (.ref x), a1, a2, a3, a4] S M = rn ca C_X11_says 97 [some (.ref x), a1, a2, a3, a4] (.ref x :: S) M := (rn_at k_X11_says_96).trans rfl
theorem k_X11_says_97 : lk 97 C_X11_says = some (.bipush (-2), (0, 0, 0, 0)) := by decide +kernel
theorem s_X11_says_97 {ca : Nat → List Value → tM → tO} {M : tM} {L : tL} {S : List Value} : rn ca C_X11_says 97 L S M = rn ca C_X11_says 99 L (.int (iI (-2)) :: S) M := (rn_at k_X11_says_97).trans rfl
theorem k_X11_says_99 : lk 99 C_X11_says = some (.invokevirtual 83, (144, 1, 11, 200)) := by decide +kernel
theorem s_X11_says_99 {ca : Nat → List Value → tM → tO} {M : tM} {L : tL} {v1 : Value} {b : Nat} : rn ca C_X11_says 99 L [v1, .ref b] M = if clsO b = some 11 then rnk ca C_X11_says 102 L [] (ca m_X11_refuse [.ref b, v1] M) else none := (rn_at k_X11_says_99).trans rnx_ite
theorem k_X11_says_102 : lk 102 C_X11_says = some (.ireturn, (0, 0, 0, 0)) := by decide +kernel
theorem s_X11_says_102 {ca : Nat → List Value → tM → tO} {M : tM} {L : tL} {x : Int32} : rn ca C_X11_says 102 L [.int x] M = some (some (.int x), M) := (rn_at k_X11_says_102).trans rfl
theorem k_X11_says_103 : lk 103 C_X11_says = some (.iload_n 2, (0, 0, 0, 0)) := by decide +kernel
theorem s_X11_says_103 {ca : Nat → List Value → tM → tO} {M : tM} {a0 a1 a3 a4 : Option Value} {x : Int32} {S : List Value} : rn ca C_X11_says 103 [a0, a1, some (.int x), a3, a4] S M = rn ca C_X11_says 104 [a0, a1, some (.int x), a3, a4] (.int x :: S) M := (rn_at k_X11_says_103).trans rfl
theorem k_X11_says_104 : lk 104 C_X11_says = some (.ifCond .ne 11, (115, 0, 0, 0)) := by decide +kernel
theorem s_X11_says_104 {ca : Nat → List Value → tM → tO} {M : tM} {L : tL} {x : Int32} {S : List Value} : rn ca C_X11_says 104 L (.int x :: S) M = if ¬ x = iI 0 then rn ca C_X11_says 115 L S M else rn ca C_X11_says 107 L S M := (rn_at k_X11_says_104).trans rnx_ite
theorem k_X11_says_107 : lk 107 C_X11_says = some (.aload_n 0, (0, 0, 0, 0)) := by decide +kernel
theorem s_X11_says_107 {ca : Nat → List Value → tM → tO} {M : tM} {a1 a2 a3 a4 : Option Value} {x : Nat} {S : List Value} : rn ca C_X11_says 107 [some (.ref x), a1, a2, a3, a4] S M = rn ca C_X11_says 108 [some (.ref x), a1, a2, a3, a4] (.ref x :: S) M := (rn_at k_X11_says_107).trans rfl
theorem k_X11_says_108 : lk 108 C_X11_says = some (.iload_n 3, (0, 0, 0, 0)) := by decide +kernel
theorem s_X11_says_108 {ca : Nat → List Value → tM → tO} {M : tM} {a0 a1 a2 a4 : Option Value} {x : Int32} {S : List Value} : rn ca C_X11_says 108 [a0, a1, a2, some (.int x), a4] S M = rn ca C_X11_says 109 [a0, a1, a2, some (.int x), a4] (.int x :: S) M := (rn_at k_X11_says_108).trans rfl
theorem k_X11_says_109 : lk 109 C_X11_says = some (.invokevirtual 137, (158, 1, 11, 331)) := by decide +kernel
theorem s_X11_says_109 {ca : Nat → List Value → tM → tO} {M : tM} {L : tL} {v1 : Value} {b : Nat} : rn ca C_X11_says 109 L [v1, .ref b] M = if clsO b = some 11 then rnk ca C_X11_says 112 L [] (ca m_X11_at [.ref b, v1] M) else none := (rn_at k_X11_says_109).trans rnx_ite
theorem k_X11_says_112 : lk 112 C_X11_says = some (.goto 41, (153, 0, 0, 0)) := by decide +kernel
theorem s_X11_says_112 {ca : Nat → List Value → tM → tO} {M : tM} {L : tL} {S : List Value} : rn ca C_X11_says 112 L S M = rn ca C_X11_says 153 L S M := (rn_at k_X11_says_112).trans rfl
theorem k_X11_says_115 : lk 115 C_X11_says = some (.iload_n 2, (0, 0, 0, 0)) := by decide +kernel
theorem s_X11_says_115 {ca : Nat → List Value → tM → tO} {M : tM} {a0 a1 a3 a4 : Option Value} {x : Int32} {S : List Value} : rn ca C_X11_says 115 [a0, a1, some (.int x), a3, a4] S M = rn ca C_X11_says 116 [a0, a1, some (.int x), a3, a4] (.int x :: S) M := (rn_at k_X11_says_115).trans rfl
theorem k_X11_says_116 : lk 116 C_X11_says = some (.iconst 5, (0, 0, 0, 0)) := by decide +kernel
theorem s_X11_says_116 {ca : Nat → List Value → tM → tO} {M : tM} {L : tL} {S : List Value} : rn ca C_X11_says 116 L S M = rn ca C_X11_says 117 L (.int (iI 5) :: S) M := (rn_at k_X11_says_116).trans rfl
theorem k_X11_says_117 : lk 117 C_X11_says = some (.if_icmp .ne 13, (130, 0, 0, 0)) := by decide +kernel
theorem s_X11_says_117 {ca : Nat → List Value → tM → tO} {M : tM} {L : tL} {x y : Int32} {S : List Value} : rn ca C_X11_says 117 L (.int y :: .int x :: S) M = if ¬ x = y then rn ca C_X11_says 130 L S M else rn ca C_X11_says 120 L S M := (rn_at k_X11_says_117).trans rnx_ite
theorem k_X11_says_120 : lk 120 C_X11_says = some (.aload_n 0, (0, 0, 0, 0)) := by decide +kernel
theorem s_X11_says_120 {ca : Nat → List Value → tM → tO} {M : tM} {a1 a2 a3 a4 : Option Value} {x : Nat} {S : List Value} : rn ca C_X11_says 120 [some (.ref x), a1, a2, a3, a4] S M = rn ca C_X11_says 121 [some (.ref x), a1, a2, a3, a4] (.ref x :: S) M := (rn_at k_X11_says_120).trans rfl
theorem k_X11_says_121 : lk 121 C_X11_says = some (.getfield 17, (11, 1, 0, 147)) := by decide +kernel
theorem s_X11_says_121 {ca : Nat → List Value → tM → tO} {M : tM} {L : tL} {b : Nat} {S : List Value} : rn ca C_X11_says 121 L (.ref b :: S) M = if clsO b = some 11 then rn ca C_X11_says 124 L (fv M b 1 :: S) M else none := (rn_at k_X11_says_121).trans rnx_ite
theorem k_X11_says_124 : lk 124 C_X11_says = some (.bipush 109, (0, 0, 0, 0)) := by decide +kernel
theorem s_X11_says_124 {ca : Nat → List Value → tM → tO} {M : tM} {L : tL} {S : List Value} : rn ca C_X11_says 124 L S M = rn ca C_X11_says 126 L (.int (iI 109) :: S) M := (rn_at k_X11_says_124).trans rfl
theorem k_X11_says_126 : lk 126 C_X11_says = some (.iaload, (0, 0, 0, 0)) := by decide +kernel
theorem s_X11_says_126 {ca : Nat → List Value → tM → tO} {M : tM} {L : tL} {a : Nat} {i : Int32} {S : List Value} : rn ca C_X11_says 126 L (.int i :: .ref a :: S) M = if (akind a = 0 ∨ akind a = 6 ∨ akind a = 7) ∧ inb i (alen M a) then rn ca C_X11_says 127 L (.int (M.1 a i.toInt.toNat) :: S) M else none := (rn_at k_X11_says_126).trans rnx_ite
theorem k_X11_says_127 : lk 127 C_X11_says = some (.goto 26, (153, 0, 0, 0)) := by decide +kernel
theorem s_X11_says_127 {ca : Nat → List Value → tM → tO} {M : tM} {L : tL} {S : List Value} : rn ca C_X11_says 127 L S M = rn ca C_X11_says 153 L S M := (rn_at k_X11_says_127).trans rfl
theorem k_X11_says_130 : lk 130 C_X11_says = some (.iload_n 2, (0, 0, 0, 0)) := by decide +kernel
theorem s_X11_says_130 {ca : Nat → List Value → tM → tO} {M : tM} {a0 a1 a3 a4 : Option Value} {x : Int32} {S : List Value} : rn ca C_X11_says 130 [a0, a1, some (.int x), a3, a4] S M = rn ca C_X11_says 131 [a0, a1, some (.int x), a3, a4] (.int x :: S) M := (rn_at k_X11_says_130).trans rfl
theorem k_X11_says_131 : lk 131 C_X11_says = some (.iconst 3, (0, 0, 0, 0)) := by decide +kernel
theorem s_X11_says_131 {ca : Nat → List Value → tM → tO} {M : tM} {L : tL} {S : List Value} : rn ca C_X11_says 131 L S M = rn ca C_X11_says 132 L (.int (iI 3) :: S) M := (rn_at k_X11_says_131).trans rfl
theorem k_X11_says_132 : lk 132 C_X11_says = some (.if_icmp .eq 8, (140, 0, 0, 0)) := by decide +kernel
theorem s_X11_says_132 {ca : Nat → List Value → tM → tO} {M : tM} {L : tL} {x y : Int32} {S : List Value} : rn ca C_X11_says 132 L (.int y :: .int x :: S) M = if x = y then rn ca C_X11_says 140 L S M else rn ca C_X11_says 135 L S M := (rn_at k_X11_says_132).trans rnx_ite
theorem k_X11_says_135 : lk 135 C_X11_says = some (.iload_n 2, (0, 0, 0, 0)) := by decide +kernel
theorem s_X11_says_135 {ca : Nat → List Value → tM → tO} {M : tM} {a0 a1 a3 a4 : Option Value} {x : Int32} {S : List Value} : rn ca C_X11_says 135 [a0, a1, some (.int x), a3, a4] S M = rn ca C_X11_says 136 [a0, a1, some (.int x), a3, a4] (.int x :: S) M := (rn_at k_X11_says_135).trans rfl
theorem k_X11_says_136 : lk 136 C_X11_says = some (.iconst 4, (0, 0, 0, 0)) := by decide +kernel
theorem s_X11_says_136 {ca : Nat → List Value → tM → tO} {M : tM} {L : tL} {S : List Value} : rn ca C_X11_says 136 L S M = rn ca C_X11_says 137 L (.int (iI 4) :: S) M := (rn_at k_X11_says_136).trans rfl
theorem k_X11_says_137 : lk 137 C_X11_says = some (.if_icmp .ne 11, (148, 0, 0, 0)) := by decide +kernel
theorem s_X11_says_137 {ca : Nat → List Value → tM → tO} {M : tM} {L : tL} {x y : Int32} {S : List Value} : rn ca C_X11_says 137 L (.int y :: .int x :: S) M = if ¬ x = y then rn ca C_X11_says 148 L S M else rn ca C_X11_says 140 L S M := (rn_at k_X11_says_137).trans rnx_ite
theorem k_X11_says_140 : lk 140 C_X11_says = some (.aload_n 0, (0, 0, 0, 0)) := by decide +kernel
theorem s_X11_says_140 {ca : Nat → List Value → tM → tO} {M : tM} {a1 a2 a3 a4 : Option Value} {x : Nat} {S : List Value} : rn ca C_X11_says 140 [some (.ref x), a1, a2, a3, a4] S M = rn ca C_X11_says 141 [some (.ref x), a1, a2, a3, a4] (.ref x :: S) M := (rn_at k_X11_says_140).trans rfl
theorem k_X11_says_141 : lk 141 C_X11_says = some (.iload_n 3, (0, 0, 0, 0)) := by decide +kernel
theorem s_X11_says_141 {ca : Nat → List Value → tM → tO} {M : tM} {a0 a1 a2 a4 : Option Value} {x : Int32} {S : List Value} : rn ca C_X11_says 141 [a0, a1, a2, some (.int x), a4] S M = rn ca C_X11_says 142 [a0, a1, a2, some (.int x), a4] (.int x :: S) M := (rn_at k_X11_says_141).trans rfl
theorem k_X11_says_142 : lk 142 C_X11_says = some (.invokevirtual 140, (156, 1, 11, 335)) := by decide +kernel
theorem s_X11_says_142 {ca : Nat → List Value → tM → tO} {M : tM} {L : tL} {v1 : Value} {b : Nat} : rn ca C_X11_says 142 L [v1, .ref b] M = if clsO b = some 11 then rnk ca C_X11_says 145 L [] (ca m_X11_a [.ref b, v1] M) else none := (rn_at k_X11_says_142).trans rnx_ite
theorem k_X11_says_145 : lk 145 C_X11_says = some (.goto 8, (153, 0, 0, 0)) := by decide +kernel
theorem s_X11_says_145 {ca : Nat → List Value → tM → tO} {M : tM} {L : tL} {S : List Value} : rn ca C_X11_says 145 L S M = rn ca C_X11_says 153 L S M := (rn_at k_X11_says_145).trans rfl
theorem k_X11_says_148 : lk 148 C_X11_says = some (.aload_n 0, (0, 0, 0, 0)) := by decide +kernel
theorem s_X11_says_148 {ca : Nat → List Value → tM → tO} {M : tM} {a1 a2 a3 a4 : Option Value} {x : Nat} {S : List Value} : rn ca C_X11_says 148 [some (.ref x), a1, a2, a3, a4] S M = rn ca C_X11_says 149 [some (.ref x), a1, a2, a3, a4] (.ref x :: S) M := (rn_at k_X11_says_148).trans rfl
theorem k_X11_says_149 : lk 149 C_X11_says = some (.iload_n 3, (0, 0, 0, 0)) := by decide +kernel
theorem s_X11_says_149 {ca : Nat → List Value → tM → tO} {M : tM} {a0 a1 a2 a4 : Option Value} {x : Int32} {S : List Value} : rn ca C_X11_says 149 [a0, a1, a2, some (.int x), a4] S M = rn ca C_X11_says 150 [a0, a1, a2, some (.int x), a4] (.int x :: S) M := (rn_at k_X11_says_149).trans rfl
theorem k_X11_says_150 : lk 150 C_X11_says = some (.invokevirtual 143, (157, 1, 11, 339)) := by decide +kernel
theorem s_X11_says_150 {ca : Nat → List Value → tM → tO} {M : tM} {L : tL} {v1 : Value} {b : Nat} : rn ca C_X11_says 150 L [v1, .ref b] M = if clsO b = some 11 then rnk ca C_X11_says 153 L [] (ca m_X11_weight [.ref b, v1] M) else none := (rn_at k_X11_says_150).trans rnx_ite
theorem k_X11_says_153 : lk 153 C_X11_says = some (.ireturn, (0, 0, 0, 0)) := by decide +kernel
theorem s_X11_says_153 {ca : Nat → List Value → tM → tO} {M : tM} {L : tL} {x : Int32} : rn ca C_X11_says 153 L [.int x] M = some (some (.int x), M) := (rn_at k_X11_says_153).trans rfl
theorem k_X11_letter_0 : lk 0 C_X11_letter = some (.aload_n 0, (0, 0, 0, 0)) := by decide +kernel
theorem s_X11_letter_0 {ca : Nat → List Value → tM → tO} {M : tM} {x : Nat} {S : List Value} : rn ca C_X11_letter 0 [some (.ref x)] S M = rn ca C_X11_letter 1 [some (.ref x)] (.ref x :: S) M := (rn_at k_X11_letter_0).trans rfl
theorem k_X11_letter_1 : lk 1 C_X11_letter = some (.getfield 146, (11, 12, 0, 615)) := by decide +kernel
theorem s_X11_letter_1 {ca : Nat → List Value → tM → tO} {M : tM} {L : tL} {b : Nat} {S : List Value} : rn ca C_X11_letter 1 L (.ref b :: S) M = if clsO b = some 11 then rn ca C_X11_letter 4 L (fv M b 12 :: S) M else none := (rn_at k_X11_letter_1).trans rnx_ite
theorem k_X11_letter_4 : lk 4 C_X11_letter = some (.aload_n 0, (0, 0, 0, 0)) := by decide +kernel
theorem s_X11_letter_4 {ca : Nat → List Value → tM → tO} {M : tM} {x : Nat} {S : List Value} : rn ca C_X11_letter 4 [some (.ref x)] S M = rn ca C_X11_letter 5 [some (.ref x)] (.ref x :: S) M := (rn_at k_X11_letter_4).trans rfl
theorem k_X11_letter_5 : lk 5 C_X11_letter = some (.getfield 29, (11, 6, 0, 151)) := by decide +kernel
theorem s_X11_letter_5 {ca : Nat → List Value → tM → tO} {M : tM} {L : tL} {b : Nat} {S : List Value} : rn ca C_X11_letter 5 L (.ref b :: S) M = if clsO b = some 11 then rn ca C_X11_letter 8 L (fv M b 6 :: S) M else none := (rn_at k_X11_letter_5).trans rnx_ite
theorem k_X11_letter_8 : lk 8 C_X11_letter = some (.aload_n 0, (0, 0, 0, 0)) := by decide +kernel
theorem s_X11_letter_8 {ca : Nat → List Value → tM → tO} {M : tM} {x : Nat} {S : List Value} : rn ca C_X11_letter 8 [some (.ref x)] S M = rn ca C_X11_letter 9 [some (.ref x)] (.ref x :: S) M := (rn_at k_X11_letter_8).trans rfl
theorem k_X11_letter_9 : lk 9 C_X11_letter = some (.getfield 149, (11, 11, 0, 614)) := by decide +kernel
theorem s_X11_letter_9 {ca : Nat → List Value → tM → tO} {M : tM} {L : tL} {b : Nat} {S : List Value} : rn ca C_X11_letter 9 L (.ref b :: S) M = if clsO b = some 11 then rn ca C_X11_letter 12 L (fv M b 11 :: S) M else none := (rn_at k_X11_letter_9).trans rnx_ite
theorem k_X11_letter_12 : lk 12 C_X11_letter = some (.iaload, (0, 0, 0, 0)) := by decide +kernel
theorem s_X11_letter_12 {ca : Nat → List Value → tM → tO} {M : tM} {L : tL} {a : Nat} {i : Int32} {S : List Value} : rn ca C_X11_letter 12 L (.int i :: .ref a :: S) M = if (akind a = 0 ∨ akind a = 6 ∨ akind a = 7) ∧ inb i (alen M a) then rn ca C_X11_letter 13 L (.int (M.1 a i.toInt.toNat) :: S) M else none := (rn_at k_X11_letter_12).trans rnx_ite
theorem k_X11_letter_13 : lk 13 C_X11_letter = some (.if_icmp .ge 18, (31, 0, 0, 0)) := by decide +kernel
theorem s_X11_letter_13 {ca : Nat → List Value → tM → tO} {M : tM} {L : tL} {x y : Int32} {S : List Value} : rn ca C_X11_letter 13 L (.int y :: .int x :: S) M = if y ≤ x then rn ca C_X11_letter 31 L S M else rn ca C_X11_letter 16 L S M := (rn_at k_X11_letter_13).trans rnx_ite
theorem k_X11_letter_16 : lk 16 C_X11_letter = some (.aload_n 0, (0, 0, 0, 0)) := by decide +kernel
theorem s_X11_letter_16 {ca : Nat → List Value → tM → tO} {M : tM} {x : Nat} {S : List Value} : rn ca C_X11_letter 16 [some (.ref x)] S M = rn ca C_X11_letter 17 [some (.ref x)] (.ref x :: S) M := (rn_at k_X11_letter_16).trans rfl
theorem k_X11_letter_17 : lk 17 C_X11_letter = some (.aload_n 0, (0, 0, 0, 0)) := by decide +kernel
theorem s_X11_letter_17 {ca : Nat → List Value → tM → tO} {M : tM} {x : Nat} {S : List Value} : rn ca C_X11_letter 17 [some (.ref x)] S M = rn ca C_X11_letter 18 [some (.ref x)] (.ref x :: S) M := (rn_at k_X11_letter_17).trans rfl
theorem k_X11_letter_18 : lk 18 C_X11_letter = some (.getfield 149, (11, 11, 0, 614)) := by decide +kernel
theorem s_X11_letter_18 {ca : Nat → List Value → tM → tO} {M : tM} {L : tL} {b : Nat} {S : List Value} : rn ca C_X11_letter 18 L (.ref b :: S) M = if clsO b = some 11 then rn ca C_X11_letter 21 L (fv M b 11 :: S) M else none := (rn_at k_X11_letter_18).trans rnx_ite
theorem k_X11_letter_21 : lk 21 C_X11_letter = some (.aload_n 0, (0, 0, 0, 0)) := by decide +kernel
theorem s_X11_letter_21 {ca : Nat → List Value → tM → tO} {M : tM} {x : Nat} {S : List Value} : rn ca C_X11_letter 21 [some (.ref x)] S M = rn ca C_X11_letter 22 [some (.ref x)] (.ref x :: S) M := (rn_at k_X11_letter_21).trans rfl
theorem k_X11_letter_22 : lk 22 C_X11_letter = some (.getfield 146, (11, 12, 0, 615)) := by decide +kernel
theorem s_X11_letter_22 {ca : Nat → List Value → tM → tO} {M : tM} {L : tL} {b : Nat} {S : List Value} : rn ca C_X11_letter 22 L (.ref b :: S) M = if clsO b = some 11 then rn ca C_X11_letter 25 L (fv M b 12 :: S) M else none := (rn_at k_X11_letter_22).trans rnx_ite
theorem k_X11_letter_25 : lk 25 C_X11_letter = some (.invokevirtual 152, (177, 2, 11, 632)) := by decide +kernel
theorem s_X11_letter_25 {ca : Nat → List Value → tM → tO} {M : tM} {L : tL} {v1 v2 : Value} {b : Nat} : rn ca C_X11_letter 25 L [v2, v1, .ref b] M = if clsO b = some 11 then rnk ca C_X11_letter 28 L [] (ca m_X11_told [.ref b, v1, v2] M) else none := (rn_at k_X11_letter_25).trans rnx_ite
theorem k_X11_letter_28 : lk 28 C_X11_letter = some (.goto 4, (32, 0, 0, 0)) := by decide +kernel
theorem s_X11_letter_28 {ca : Nat → List Value → tM → tO} {M : tM} {L : tL} {S : List Value} : rn ca C_X11_letter 28 L S M = rn ca C_X11_letter 32 L S M := (rn_at k_X11_letter_28).trans rfl
theorem k_X11_letter_31 : lk 31 C_X11_letter = some (.iconst 0, (0, 0, 0, 0)) := by decide +kernel
theorem s_X11_letter_31 {ca : Nat → List Value → tM → tO} {M : tM} {L : tL} {S : List Value} : rn ca C_X11_letter 31 L S M = rn ca C_X11_letter 32 L (.int (iI 0) :: S) M := (rn_at k_X11_letter_31).trans rfl
theorem k_X11_letter_32 : lk 32 C_X11_letter = some (.ireturn, (0, 0, 0, 0)) := by decide +kernel
theorem s_X11_letter_32 {ca : Nat → List Value → tM → tO} {M : tM} {L : tL} {x : Int32} : rn ca C_X11_letter 32 L [.int x] M = some (some (.int x), M) := (rn_at k_X11_letter_32).trans rfl
theorem k_X11_isFault_0 : lk 0 C_X11_isFault = some (.aload_n 0, (0, 0, 0, 0)) := by decide +kernel
theorem s_X11_isFault_0 {ca : Nat → List Value → tM → tO} {M : tM} {a1 : Option Value} {x : Nat} {S : List Value} : rn ca C_X11_isFault 0 [some (.ref x), a1] S M = rn ca C_X11_isFault 1 [some (.ref x), a1] (.ref x :: S) M := (rn_at k_X11_isFault_0).trans rfl
theorem k_X11_isFault_1 : lk 1 C_X11_isFault = some (.iload_n 1, (0, 0, 0, 0)) := by decide +kernel
theorem s_X11_isFault_1 {ca : Nat → List Value → tM → tO} {M : tM} {a0 : Option Value} {x : Int32} {S : List Value} : rn ca C_X11_isFault 1 [a0, some (.int x)] S M = rn ca C_X11_isFault 2 [a0, some (.int x)] (.int x :: S) M := (rn_at k_X11_isFault_1).trans rfl
theorem k_X11_isFault_2 : lk 2 C_X11_isFault = some (.putfield 60, (11, 13, 0, 157)) := by decide +kernel
theorem s_X11_isFault_2 {ca : Nat → List Value → tM → tO} {M : tM} {L : tL} {b : Nat} {v : Int32} {S : List Value} : rn ca C_X11_isFault 2 L (.int v :: .ref b :: S) M = if clsO b = some 11 then rn ca C_X11_isFault 5 L S (sI M b 13 v) else none := (rn_at k_X11_isFault_2).trans rnx_ite
theorem k_X11_isFault_5 : lk 5 C_X11_isFault = some (.iconst 0, (0, 0, 0, 0)) := by decide +kernel
theorem s_X11_isFault_5 {ca : Nat → List Value → tM → tO} {M : tM} {L : tL} {S : List Value} : rn ca C_X11_isFault 5 L S M = rn ca C_X11_isFault 6 L (.int (iI 0) :: S) M := (rn_at k_X11_isFault_5).trans rfl
theorem k_X11_isFault_6 : lk 6 C_X11_isFault = some (.ireturn, (1, 0, 0, 0)) := by decide +kernel
theorem s_X11_isFault_6 {ca : Nat → List Value → tM → tO} {M : tM} {L : tL} {x : Int32} : rn ca C_X11_isFault 6 L [.int x] M = if x = iI 0 ∨ x = iI 1 then some (some (.int x), M) else none := (rn_at k_X11_isFault_6).trans rnx_ite
theorem k_X11_isLetter_0 : lk 0 C_X11_isLetter = some (.aload_n 0, (0, 0, 0, 0)) := by decide +kernel
theorem s_X11_isLetter_0 {ca : Nat → List Value → tM → tO} {M : tM} {a1 : Option Value} {x : Nat} {S : List Value} : rn ca C_X11_isLetter 0 [some (.ref x), a1] S M = rn ca C_X11_isLetter 1 [some (.ref x), a1] (.ref x :: S) M := (rn_at k_X11_isLetter_0).trans rfl
theorem k_X11_isLetter_1 : lk 1 C_X11_isLetter = some (.getfield 146, (11, 12, 0, 615)) := by decide +kernel
theorem s_X11_isLetter_1 {ca : Nat → List Value → tM → tO} {M : tM} {L : tL} {b : Nat} {S : List Value} : rn ca C_X11_isLetter 1 L (.ref b :: S) M = if clsO b = some 11 then rn ca C_X11_isLetter 4 L (fv M b 12 :: S) M else none := (rn_at k_X11_isLetter_1).trans rnx_ite
theorem k_X11_isLetter_4 : lk 4 C_X11_isLetter = some (.aload_n 0, (0, 0, 0, 0)) := by decide +kernel
theorem s_X11_isLetter_4 {ca : Nat → List Value → tM → tO} {M : tM} {a1 : Option Value} {x : Nat} {S : List Value} : rn ca C_X11_isLetter 4 [some (.ref x), a1] S M = rn ca C_X11_isLetter 5 [some (.ref x), a1] (.ref x :: S) M := (rn_at k_X11_isLetter_4).trans rfl
theorem k_X11_isLetter_5 : lk 5 C_X11_isLetter = some (.getfield 29, (11, 6, 0, 151)) := by decide +kernel
theorem s_X11_isLetter_5 {ca : Nat → List Value → tM → tO} {M : tM} {L : tL} {b : Nat} {S : List Value} : rn ca C_X11_isLetter 5 L (.ref b :: S) M = if clsO b = some 11 then rn ca C_X11_isLetter 8 L (fv M b 6 :: S) M else none := (rn_at k_X11_isLetter_5).trans rnx_ite
theorem k_X11_isLetter_8 : lk 8 C_X11_isLetter = some (.aload_n 0, (0, 0, 0, 0)) := by decide +kernel
theorem s_X11_isLetter_8 {ca : Nat → List Value → tM → tO} {M : tM} {a1 : Option Value} {x : Nat} {S : List Value} : rn ca C_X11_isLetter 8 [some (.ref x), a1] S M = rn ca C_X11_isLetter 9 [some (.ref x), a1] (.ref x :: S) M := (rn_at k_X11_isLetter_8).trans rfl
theorem k_X11_isLetter_9 : lk 9 C_X11_isLetter = some (.getfield 149, (11, 11, 0, 614)) := by decide +kernel
theorem s_X11_isLetter_9 {ca : Nat → List Value → tM → tO} {M : tM} {L : tL} {b : Nat} {S : List Value} : rn ca C_X11_isLetter 9 L (.ref b :: S) M = if clsO b = some 11 then rn ca C_X11_isLetter 12 L (fv M b 11 :: S) M else none := (rn_at k_X11_isLetter_9).trans rnx_ite
theorem k_X11_isLetter_12 : lk 12 C_X11_isLetter = some (.iaload, (0, 0, 0, 0)) := by decide +kernel
theorem s_X11_isLetter_12 {ca : Nat → List Value → tM → tO} {M : tM} {L : tL} {a : Nat} {i : Int32} {S : List Value} : rn ca C_X11_isLetter 12 L (.int i :: .ref a :: S) M = if (akind a = 0 ∨ akind a = 6 ∨ akind a = 7) ∧ inb i (alen M a) then rn ca C_X11_isLetter 13 L (.int (M.1 a i.toInt.toNat) :: S) M else none := (rn_at k_X11_isLetter_12).trans rnx_ite
theorem k_X11_isLetter_13 : lk 13 C_X11_isLetter = some (.if_icmp .ge 11, (24, 0, 0, 0)) := by decide +kernel
theorem s_X11_isLetter_13 {ca : Nat → List Value → tM → tO} {M : tM} {L : tL} {x y : Int32} {S : List Value} : rn ca C_X11_isLetter 13 L (.int y :: .int x :: S) M = if y ≤ x then rn ca C_X11_isLetter 24 L S M else rn ca C_X11_isLetter 16 L S M := (rn_at k_X11_isLetter_13).trans rnx_ite
theorem k_X11_isLetter_16 : lk 16 C_X11_isLetter = some (.aload_n 0, (0, 0, 0, 0)) := by decide +kernel
theorem s_X11_isLetter_16 {ca : Nat → List Value → tM → tO} {M : tM} {a1 : Option Value} {x : Nat} {S : List Value} : rn ca C_X11_isLetter 16 [some (.ref x), a1] S M = rn ca C_X11_isLetter 17 [some (.ref x), a1] (.ref x :: S) M := (rn_at k_X11_isLetter_16).trans rfl
theorem k_X11_isLetter_17 : lk 17 C_X11_isLetter = some (.invokevirtual 156, (181, 0, 11, 628)) := by decide +kernel
theorem s_X11_isLetter_17 {ca : Nat → List Value → tM → tO} {M : tM} {L : tL} {b : Nat} : rn ca C_X11_isLetter 17 L [.ref b] M = if clsO b = some 11 then rnk ca C_X11_isLetter 20 L [] (ca m_X11_letter [.ref b] M) else none := (rn_at k_X11_isLetter_17).trans rnx_ite
theorem k_X11_isLetter_20 : lk 20 C_X11_isLetter = some (.iload_n 1, (0, 0, 0, 0)) := by decide +kernel
theorem s_X11_isLetter_20 {ca : Nat → List Value → tM → tO} {M : tM} {a0 : Option Value} {x : Int32} {S : List Value} : rn ca C_X11_isLetter 20 [a0, some (.int x)] S M = rn ca C_X11_isLetter 21 [a0, some (.int x)] (.int x :: S) M := (rn_at k_X11_isLetter_20).trans rfl
theorem k_X11_isLetter_21 : lk 21 C_X11_isLetter = some (.if_icmp .eq 12, (33, 0, 0, 0)) := by decide +kernel
theorem s_X11_isLetter_21 {ca : Nat → List Value → tM → tO} {M : tM} {L : tL} {x y : Int32} {S : List Value} : rn ca C_X11_isLetter 21 L (.int y :: .int x :: S) M = if x = y then rn ca C_X11_isLetter 33 L S M else rn ca C_X11_isLetter 24 L S M := (rn_at k_X11_isLetter_21).trans rnx_ite
theorem k_X11_isLetter_24 : lk 24 C_X11_isLetter = some (.aload_n 0, (0, 0, 0, 0)) := by decide +kernel
theorem s_X11_isLetter_24 {ca : Nat → List Value → tM → tO} {M : tM} {a1 : Option Value} {x : Nat} {S : List Value} : rn ca C_X11_isLetter 24 [some (.ref x), a1] S M = rn ca C_X11_isLetter 25 [some (.ref x), a1] (.ref x :: S) M := (rn_at k_X11_isLetter_24).trans rfl
theorem k_X11_isLetter_25 : lk 25 C_X11_isLetter = some (.aload_n 0, (0, 0, 0, 0)) := by decide +kernel
theorem s_X11_isLetter_25 {ca : Nat → List Value → tM → tO} {M : tM} {a1 : Option Value} {x : Nat} {S : List Value} : rn ca C_X11_isLetter 25 [some (.ref x), a1] S M = rn ca C_X11_isLetter 26 [some (.ref x), a1] (.ref x :: S) M := (rn_at k_X11_isLetter_25).trans rfl
theorem k_X11_isLetter_26 : lk 26 C_X11_isLetter = some (.getfield 146, (11, 12, 0, 615)) := by decide +kernel
theorem s_X11_isLetter_26 {ca : Nat → List Value → tM → tO} {M : tM} {L : tL} {b : Nat} {S : List Value} : rn ca C_X11_isLetter 26 L (.ref b :: S) M = if clsO b = some 11 then rn ca C_X11_isLetter 29 L (fv M b 12 :: S) M else none := (rn_at k_X11_isLetter_26).trans rnx_ite
theorem k_X11_isLetter_29 : lk 29 C_X11_isLetter = some (.invokevirtual 159, (182, 1, 11, 637)) := by decide +kernel
theorem s_X11_isLetter_29 {ca : Nat → List Value → tM → tO} {M : tM} {L : tL} {v1 : Value} {b : Nat} : rn ca C_X11_isLetter 29 L [v1, .ref b] M = if clsO b = some 11 then rnk ca C_X11_isLetter 32 L [] (ca m_X11_isFault [.ref b, v1] M) else none := (rn_at k_X11_isLetter_29).trans rnx_ite
theorem k_X11_isLetter_32 : lk 32 C_X11_isLetter = some (.ireturn, (1, 0, 0, 0)) := by decide +kernel
theorem s_X11_isLetter_32 {ca : Nat → List Value → tM → tO} {M : tM} {L : tL} {x : Int32} : rn ca C_X11_isLetter 32 L [.int x] M = if x = iI 0 ∨ x = iI 1 then some (some (.int x), M) else none := (rn_at k_X11_isLetter_32).trans rnx_ite
theorem k_X11_isLetter_33 : lk 33 C_X11_isLetter = some (.aload_n 0, (0, 0, 0, 0)) := by decide +kernel
theorem s_X11_isLetter_33 {ca : Nat → List Value → tM → tO} {M : tM} {a1 : Option Value} {x : Nat} {S : List Value} : rn ca C_X11_isLetter 33 [some (.ref x), a1] S M = rn ca C_X11_isLetter 34 [some (.ref x), a1] (.ref x :: S) M := (rn_at k_X11_isLetter_33).trans rfl
theorem k_X11_isLetter_34 : lk 34 C_X11_isLetter = some (.dup, (0, 0, 0, 0)) := by decide +kernel
theorem s_X11_isLetter_34 {ca : Nat → List Value → tM → tO} {M : tM} {L : tL} {x : Nat} {S : List Value} : rn ca C_X11_isLetter 34 L (.ref x :: S) M = rn ca C_X11_isLetter 35 L (.ref x :: .ref x :: S) M := (rn_at k_X11_isLetter_34).trans rfl
theorem s_X11_isLetter_34b {ca : Nat → List Value → tM → tO} {M : tM} {L : tL} {x : Int32} {S : List Value} : rn ca C_X11_isLetter 34 L (.int x :: S) M = rn ca C_X11_isLetter 35 L (.int x :: .int x :: S) M := (rn_at k_X11_isLetter_34).trans rfl
theorem k_X11_isLetter_35 : lk 35 C_X11_isLetter = some (.getfield 146, (11, 12, 0, 615)) := by decide +kernel
theorem s_X11_isLetter_35 {ca : Nat → List Value → tM → tO} {M : tM} {L : tL} {b : Nat} {S : List Value} : rn ca C_X11_isLetter 35 L (.ref b :: S) M = if clsO b = some 11 then rn ca C_X11_isLetter 38 L (fv M b 12 :: S) M else none := (rn_at k_X11_isLetter_35).trans rnx_ite
theorem k_X11_isLetter_38 : lk 38 C_X11_isLetter = some (.iconst 1, (0, 0, 0, 0)) := by decide +kernel
theorem s_X11_isLetter_38 {ca : Nat → List Value → tM → tO} {M : tM} {L : tL} {S : List Value} : rn ca C_X11_isLetter 38 L S M = rn ca C_X11_isLetter 39 L (.int (iI 1) :: S) M := (rn_at k_X11_isLetter_38).trans rfl
theorem k_X11_isLetter_39 : lk 39 C_X11_isLetter = some (.iadd, (0, 0, 0, 0)) := by decide +kernel
theorem s_X11_isLetter_39 {ca : Nat → List Value → tM → tO} {M : tM} {L : tL} {x y : Int32} {S : List Value} : rn ca C_X11_isLetter 39 L (.int y :: .int x :: S) M = rn ca C_X11_isLetter 40 L (.int (x + y) :: S) M := (rn_at k_X11_isLetter_39).trans rfl
theorem k_X11_isLetter_40 : lk 40 C_X11_isLetter = some (.putfield 146, (11, 12, 0, 615)) := by decide +kernel
theorem s_X11_isLetter_40 {ca : Nat → List Value → tM → tO} {M : tM} {L : tL} {b : Nat} {v : Int32} {S : List Value} : rn ca C_X11_isLetter 40 L (.int v :: .ref b :: S) M = if clsO b = some 11 then rn ca C_X11_isLetter 43 L S (sI M b 12 v) else none := (rn_at k_X11_isLetter_40).trans rnx_ite
theorem k_X11_isLetter_43 : lk 43 C_X11_isLetter = some (.iconst 1, (0, 0, 0, 0)) := by decide +kernel
theorem s_X11_isLetter_43 {ca : Nat → List Value → tM → tO} {M : tM} {L : tL} {S : List Value} : rn ca C_X11_isLetter 43 L S M = rn ca C_X11_isLetter 44 L (.int (iI 1) :: S) M := (rn_at k_X11_isLetter_43).trans rfl
theorem k_X11_isLetter_44 : lk 44 C_X11_isLetter = some (.ireturn, (1, 0, 0, 0)) := by decide +kernel
theorem s_X11_isLetter_44 {ca : Nat → List Value → tM → tO} {M : tM} {L : tL} {x : Int32} : rn ca C_X11_isLetter 44 L [.int x] M = if x = iI 0 ∨ x = iI 1 then some (some (.int x), M) else none := (rn_at k_X11_isLetter_44).trans rnx_ite
theorem k_X11_word_0 : lk 0 C_X11_word = some (.bipush 63, (0, 0, 0, 0)) := by decide +kernel
theorem s_X11_word_0 {ca : Nat → List Value → tM → tO} {M : tM} {L : tL} {S : List Value} : rn ca C_X11_word 0 L S M = rn ca C_X11_word 2 L (.int (iI 63) :: S) M := (rn_at k_X11_word_0).trans rfl
theorem k_X11_word_2 : lk 2 C_X11_word = some (.istore_n 1, (0, 0, 0, 0)) := by decide +kernel
theorem s_X11_word_2 {ca : Nat → List Value → tM → tO} {M : tM} {a0 a1 a2 a3 a4 a5 : Option Value} {x : Int32} {S : List Value} : rn ca C_X11_word 2 [a0, a1, a2, a3, a4, a5] (.int x :: S) M = rn ca C_X11_word 3 [a0, some (.int x), a2, a3, a4, a5] S M := (rn_at k_X11_word_2).trans rfl
theorem k_X11_word_3 : lk 3 C_X11_word = some (.aload_n 0, (0, 0, 0, 0)) := by decide +kernel
theorem s_X11_word_3 {ca : Nat → List Value → tM → tO} {M : tM} {a1 a2 a3 a4 a5 : Option Value} {x : Nat} {S : List Value} : rn ca C_X11_word 3 [some (.ref x), a1, a2, a3, a4, a5] S M = rn ca C_X11_word 4 [some (.ref x), a1, a2, a3, a4, a5] (.ref x :: S) M := (rn_at k_X11_word_3).trans rfl
theorem k_X11_word_4 : lk 4 C_X11_word = some (.getfield 146, (11, 12, 0, 615)) := by decide +kernel
theorem s_X11_word_4 {ca : Nat → List Value → tM → tO} {M : tM} {L : tL} {b : Nat} {S : List Value} : rn ca C_X11_word 4 L (.ref b :: S) M = if clsO b = some 11 then rn ca C_X11_word 7 L (fv M b 12 :: S) M else none := (rn_at k_X11_word_4).trans rnx_ite
theorem k_X11_word_7 : lk 7 C_X11_word = some (.istore_n 2, (0, 0, 0, 0)) := by decide +kernel
theorem s_X11_word_7 {ca : Nat → List Value → tM → tO} {M : tM} {a0 a1 a2 a3 a4 a5 : Option Value} {x : Int32} {S : List Value} : rn ca C_X11_word 7 [a0, a1, a2, a3, a4, a5] (.int x :: S) M = rn ca C_X11_word 8 [a0, a1, some (.int x), a3, a4, a5] S M := (rn_at k_X11_word_7).trans rfl
theorem k_X11_word_8 : lk 8 C_X11_word = some (.aload_n 0, (0, 0, 0, 0)) := by decide +kernel
theorem s_X11_word_8 {ca : Nat → List Value → tM → tO} {M : tM} {a1 a2 a3 a4 a5 : Option Value} {x : Nat} {S : List Value} : rn ca C_X11_word 8 [some (.ref x), a1, a2, a3, a4, a5] S M = rn ca C_X11_word 9 [some (.ref x), a1, a2, a3, a4, a5] (.ref x :: S) M := (rn_at k_X11_word_8).trans rfl
theorem k_X11_word_9 : lk 9 C_X11_word = some (.getfield 146, (11, 12, 0, 615)) := by decide +kernel
theorem s_X11_word_9 {ca : Nat → List Value → tM → tO} {M : tM} {L : tL} {b : Nat} {S : List Value} : rn ca C_X11_word 9 L (.ref b :: S) M = if clsO b = some 11 then rn ca C_X11_word 12 L (fv M b 12 :: S) M else none := (rn_at k_X11_word_9).trans rnx_ite
theorem k_X11_word_12 : lk 12 C_X11_word = some (.aload_n 0, (0, 0, 0, 0)) := by decide +kernel
theorem s_X11_word_12 {ca : Nat → List Value → tM → tO} {M : tM} {a1 a2 a3 a4 a5 : Option Value} {x : Nat} {S : List Value} : rn ca C_X11_word 12 [some (.ref x), a1, a2, a3, a4, a5] S M = rn ca C_X11_word 13 [some (.ref x), a1, a2, a3, a4, a5] (.ref x :: S) M := (rn_at k_X11_word_12).trans rfl
theorem k_X11_word_13 : lk 13 C_X11_word = some (.getfield 29, (11, 6, 0, 151)) := by decide +kernel
theorem s_X11_word_13 {ca : Nat → List Value → tM → tO} {M : tM} {L : tL} {b : Nat} {S : List Value} : rn ca C_X11_word 13 L (.ref b :: S) M = if clsO b = some 11 then rn ca C_X11_word 16 L (fv M b 6 :: S) M else none := (rn_at k_X11_word_13).trans rnx_ite
theorem k_X11_word_16 : lk 16 C_X11_word = some (.aload_n 0, (0, 0, 0, 0)) := by decide +kernel
theorem s_X11_word_16 {ca : Nat → List Value → tM → tO} {M : tM} {a1 a2 a3 a4 a5 : Option Value} {x : Nat} {S : List Value} : rn ca C_X11_word 16 [some (.ref x), a1, a2, a3, a4, a5] S M = rn ca C_X11_word 17 [some (.ref x), a1, a2, a3, a4, a5] (.ref x :: S) M := (rn_at k_X11_word_16).trans rfl
theorem k_X11_word_17 : lk 17 C_X11_word = some (.getfield 149, (11, 11, 0, 614)) := by decide +kernel
theorem s_X11_word_17 {ca : Nat → List Value → tM → tO} {M : tM} {L : tL} {b : Nat} {S : List Value} : rn ca C_X11_word 17 L (.ref b :: S) M = if clsO b = some 11 then rn ca C_X11_word 20 L (fv M b 11 :: S) M else none := (rn_at k_X11_word_17).trans rnx_ite
theorem k_X11_word_20 : lk 20 C_X11_word = some (.iaload, (0, 0, 0, 0)) := by decide +kernel
theorem s_X11_word_20 {ca : Nat → List Value → tM → tO} {M : tM} {L : tL} {a : Nat} {i : Int32} {S : List Value} : rn ca C_X11_word 20 L (.int i :: .ref a :: S) M = if (akind a = 0 ∨ akind a = 6 ∨ akind a = 7) ∧ inb i (alen M a) then rn ca C_X11_word 21 L (.int (M.1 a i.toInt.toNat) :: S) M else none := (rn_at k_X11_word_20).trans rnx_ite
theorem k_X11_word_21 : lk 21 C_X11_word = some (.if_icmp .ge 145, (166, 0, 0, 0)) := by decide +kernel
theorem s_X11_word_21 {ca : Nat → List Value → tM → tO} {M : tM} {L : tL} {x y : Int32} {S : List Value} : rn ca C_X11_word 21 L (.int y :: .int x :: S) M = if y ≤ x then rn ca C_X11_word 166 L S M else rn ca C_X11_word 24 L S M := (rn_at k_X11_word_21).trans rnx_ite
theorem k_X11_word_24 : lk 24 C_X11_word = some (.iconst 0, (0, 0, 0, 0)) := by decide +kernel
theorem s_X11_word_24 {ca : Nat → List Value → tM → tO} {M : tM} {L : tL} {S : List Value} : rn ca C_X11_word 24 L S M = rn ca C_X11_word 25 L (.int (iI 0) :: S) M := (rn_at k_X11_word_24).trans rfl
theorem k_X11_word_25 : lk 25 C_X11_word = some (.istore_n 3, (0, 0, 0, 0)) := by decide +kernel
theorem s_X11_word_25 {ca : Nat → List Value → tM → tO} {M : tM} {a0 a1 a2 a3 a4 a5 : Option Value} {x : Int32} {S : List Value} : rn ca C_X11_word 25 [a0, a1, a2, a3, a4, a5] (.int x :: S) M = rn ca C_X11_word 26 [a0, a1, a2, some (.int x), a4, a5] S M := (rn_at k_X11_word_25).trans rfl
theorem k_X11_word_26 : lk 26 C_X11_word = some (.iconst 0, (0, 0, 0, 0)) := by decide +kernel
theorem s_X11_word_26 {ca : Nat → List Value → tM → tO} {M : tM} {L : tL} {S : List Value} : rn ca C_X11_word 26 L S M = rn ca C_X11_word 27 L (.int (iI 0) :: S) M := (rn_at k_X11_word_26).trans rfl
theorem k_X11_word_27 : lk 27 C_X11_word = some (.istore 4, (0, 0, 0, 0)) := by decide +kernel
theorem s_X11_word_27 {ca : Nat → List Value → tM → tO} {M : tM} {a0 a1 a2 a3 a4 a5 : Option Value} {x : Int32} {S : List Value} : rn ca C_X11_word 27 [a0, a1, a2, a3, a4, a5] (.int x :: S) M = rn ca C_X11_word 29 [a0, a1, a2, a3, some (.int x), a5] S M := (rn_at k_X11_word_27).trans rfl
theorem k_X11_word_29 : lk 29 C_X11_word = some (.iload 4, (0, 0, 0, 0)) := by decide +kernel
theorem s_X11_word_29 {ca : Nat → List Value → tM → tO} {M : tM} {a0 a1 a2 a3 a5 : Option Value} {x : Int32} {S : List Value} : rn ca C_X11_word 29 [a0, a1, a2, a3, some (.int x), a5] S M = rn ca C_X11_word 31 [a0, a1, a2, a3, some (.int x), a5] (.int x :: S) M := (rn_at k_X11_word_29).trans rfl
theorem k_X11_word_31 : lk 31 C_X11_word = some (.bipush 6, (0, 0, 0, 0)) := by decide +kernel
theorem s_X11_word_31 {ca : Nat → List Value → tM → tO} {M : tM} {L : tL} {S : List Value} : rn ca C_X11_word 31 L S M = rn ca C_X11_word 33 L (.int (iI 6) :: S) M := (rn_at k_X11_word_31).trans rfl
theorem k_X11_word_33 : lk 33 C_X11_word = some (.if_icmp .ge 65, (98, 0, 0, 0)) := by decide +kernel
theorem s_X11_word_33 {ca : Nat → List Value → tM → tO} {M : tM} {L : tL} {x y : Int32} {S : List Value} : rn ca C_X11_word 33 L (.int y :: .int x :: S) M = if y ≤ x then rn ca C_X11_word 98 L S M else rn ca C_X11_word 36 L S M := (rn_at k_X11_word_33).trans rnx_ite
theorem k_X11_word_36 : lk 36 C_X11_word = some (.iload_n 1, (0, 0, 0, 0)) := by decide +kernel
theorem s_X11_word_36 {ca : Nat → List Value → tM → tO} {M : tM} {a0 a2 a3 a4 a5 : Option Value} {x : Int32} {S : List Value} : rn ca C_X11_word 36 [a0, some (.int x), a2, a3, a4, a5] S M = rn ca C_X11_word 37 [a0, some (.int x), a2, a3, a4, a5] (.int x :: S) M := (rn_at k_X11_word_36).trans rfl
theorem k_X11_word_37 : lk 37 C_X11_word = some (.iload 4, (0, 0, 0, 0)) := by decide +kernel
theorem s_X11_word_37 {ca : Nat → List Value → tM → tO} {M : tM} {a0 a1 a2 a3 a5 : Option Value} {x : Int32} {S : List Value} : rn ca C_X11_word 37 [a0, a1, a2, a3, some (.int x), a5] S M = rn ca C_X11_word 39 [a0, a1, a2, a3, some (.int x), a5] (.int x :: S) M := (rn_at k_X11_word_37).trans rfl
theorem k_X11_word_39 : lk 39 C_X11_word = some (.ishr, (0, 0, 0, 0)) := by decide +kernel
theorem s_X11_word_39 {ca : Nat → List Value → tM → tO} {M : tM} {L : tL} {x y : Int32} {S : List Value} : rn ca C_X11_word 39 L (.int y :: .int x :: S) M = rn ca C_X11_word 40 L (.int (x >>> (y &&& 31)) :: S) M := (rn_at k_X11_word_39).trans rfl
theorem k_X11_word_40 : lk 40 C_X11_word = some (.iconst 1, (0, 0, 0, 0)) := by decide +kernel
theorem s_X11_word_40 {ca : Nat → List Value → tM → tO} {M : tM} {L : tL} {S : List Value} : rn ca C_X11_word 40 L S M = rn ca C_X11_word 41 L (.int (iI 1) :: S) M := (rn_at k_X11_word_40).trans rfl
theorem k_X11_word_41 : lk 41 C_X11_word = some (.iand, (0, 0, 0, 0)) := by decide +kernel
theorem s_X11_word_41 {ca : Nat → List Value → tM → tO} {M : tM} {L : tL} {x y : Int32} {S : List Value} : rn ca C_X11_word 41 L (.int y :: .int x :: S) M = rn ca C_X11_word 42 L (.int (x &&& y) :: S) M := (rn_at k_X11_word_41).trans rfl
theorem k_X11_word_42 : lk 42 C_X11_word = some (.iconst 1, (0, 0, 0, 0)) := by decide +kernel
theorem s_X11_word_42 {ca : Nat → List Value → tM → tO} {M : tM} {L : tL} {S : List Value} : rn ca C_X11_word 42 L S M = rn ca C_X11_word 43 L (.int (iI 1) :: S) M := (rn_at k_X11_word_42).trans rfl
theorem k_X11_word_43 : lk 43 C_X11_word = some (.if_icmp .ne 30, (73, 0, 0, 0)) := by decide +kernel
theorem s_X11_word_43 {ca : Nat → List Value → tM → tO} {M : tM} {L : tL} {x y : Int32} {S : List Value} : rn ca C_X11_word 43 L (.int y :: .int x :: S) M = if ¬ x = y then rn ca C_X11_word 73 L S M else rn ca C_X11_word 46 L S M := (rn_at k_X11_word_43).trans rnx_ite
theorem k_X11_word_46 : lk 46 C_X11_word = some (.aload_n 0, (0, 0, 0, 0)) := by decide +kernel
theorem s_X11_word_46 {ca : Nat → List Value → tM → tO} {M : tM} {a1 a2 a3 a4 a5 : Option Value} {x : Nat} {S : List Value} : rn ca C_X11_word 46 [some (.ref x), a1, a2, a3, a4, a5] S M = rn ca C_X11_word 47 [some (.ref x), a1, a2, a3, a4, a5] (.ref x :: S) M := (rn_at k_X11_word_46).trans rfl
theorem k_X11_word_47 : lk 47 C_X11_word = some (.getfield 56, (11, 10, 0, 156)) := by decide +kernel
theorem s_X11_word_47 {ca : Nat → List Value → tM → tO} {M : tM} {L : tL} {b : Nat} {S : List Value} : rn ca C_X11_word 47 L (.ref b :: S) M = if clsO b = some 11 then rn ca C_X11_word 50 L (fv M b 10 :: S) M else none := (rn_at k_X11_word_47).trans rnx_ite
theorem k_X11_word_50 : lk 50 C_X11_word = some (.iload 4, (0, 0, 0, 0)) := by decide +kernel
theorem s_X11_word_50 {ca : Nat → List Value → tM → tO} {M : tM} {a0 a1 a2 a3 a5 : Option Value} {x : Int32} {S : List Value} : rn ca C_X11_word 50 [a0, a1, a2, a3, some (.int x), a5] S M = rn ca C_X11_word 52 [a0, a1, a2, a3, some (.int x), a5] (.int x :: S) M := (rn_at k_X11_word_50).trans rfl
theorem k_X11_word_52 : lk 52 C_X11_word = some (.aaload, (0, 0, 0, 0)) := by decide +kernel
theorem s_X11_word_52 {ca : Nat → List Value → tM → tO} {M : tM} {L : tL} {a : Nat} {i : Int32} {S : List Value} : rn ca C_X11_word 52 L (.int i :: .ref a :: S) M = if (akind a = 3 ∨ akind a = 4 ∨ akind a = 5) ∧ inb i (alen M a) then rn ca C_X11_word 53 L (.ref (rfe a i.toInt.toNat) :: S) M else none := (rn_at k_X11_word_52).trans rnx_ite
theorem k_X11_word_53 : lk 53 C_X11_word = some (.aload_n 0, (0, 0, 0, 0)) := by decide +kernel
theorem s_X11_word_53 {ca : Nat → List Value → tM → tO} {M : tM} {a1 a2 a3 a4 a5 : Option Value} {x : Nat} {S : List Value} : rn ca C_X11_word 53 [some (.ref x), a1, a2, a3, a4, a5] S M = rn ca C_X11_word 54 [some (.ref x), a1, a2, a3, a4, a5] (.ref x :: S) M := (rn_at k_X11_word_53).trans rfl
theorem k_X11_word_54 : lk 54 C_X11_word = some (.getfield 146, (11, 12, 0, 615)) := by decide +kernel
theorem s_X11_word_54 {ca : Nat → List Value → tM → tO} {M : tM} {L : tL} {b : Nat} {S : List Value} : rn ca C_X11_word 54 L (.ref b :: S) M = if clsO b = some 11 then rn ca C_X11_word 57 L (fv M b 12 :: S) M else none := (rn_at k_X11_word_54).trans rnx_ite
theorem k_X11_word_57 : lk 57 C_X11_word = some (.iload_n 2, (0, 0, 0, 0)) := by decide +kernel
theorem s_X11_word_57 {ca : Nat → List Value → tM → tO} {M : tM} {a0 a1 a3 a4 a5 : Option Value} {x : Int32} {S : List Value} : rn ca C_X11_word 57 [a0, a1, some (.int x), a3, a4, a5] S M = rn ca C_X11_word 58 [a0, a1, some (.int x), a3, a4, a5] (.int x :: S) M := (rn_at k_X11_word_57).trans rfl
theorem k_X11_word_58 : lk 58 C_X11_word = some (.isub, (0, 0, 0, 0)) := by decide +kernel
theorem s_X11_word_58 {ca : Nat → List Value → tM → tO} {M : tM} {L : tL} {x y : Int32} {S : List Value} : rn ca C_X11_word 58 L (.int y :: .int x :: S) M = rn ca C_X11_word 59 L (.int (x - y) :: S) M := (rn_at k_X11_word_58).trans rfl
theorem k_X11_word_59 : lk 59 C_X11_word = some (.invokevirtual 162, (300, 1, 90, 627)) := by decide +kernel
theorem s_X11_word_59 {ca : Nat → List Value → tM → tO} {M : tM} {L : tL} {v1 : Value} {b : Nat} : rn ca C_X11_word 59 L [v1, .ref b] M = if clsO b = some 90 then rnk ca C_X11_word 62 L [] (ca m_J0_charAt_5068e [.ref b, v1] M) else none := (rn_at k_X11_word_59).trans rnx_ite
theorem k_X11_word_62 : lk 62 C_X11_word = some (.aload_n 0, (0, 0, 0, 0)) := by decide +kernel
theorem s_X11_word_62 {ca : Nat → List Value → tM → tO} {M : tM} {a1 a2 a3 a4 a5 : Option Value} {x : Nat} {S : List Value} : rn ca C_X11_word 62 [some (.ref x), a1, a2, a3, a4, a5] S M = rn ca C_X11_word 63 [some (.ref x), a1, a2, a3, a4, a5] (.ref x :: S) M := (rn_at k_X11_word_62).trans rfl
theorem k_X11_word_63 : lk 63 C_X11_word = some (.invokevirtual 156, (181, 0, 11, 628)) := by decide +kernel
theorem s_X11_word_63 {ca : Nat → List Value → tM → tO} {M : tM} {L : tL} {r0 : Int32} {b : Nat} : rn ca C_X11_word 63 L [.ref b, .int r0] M = if clsO b = some 11 then rnk ca C_X11_word 66 L [.int r0] (ca m_X11_letter [.ref b] M) else none := (rn_at k_X11_word_63).trans rnx_ite
theorem k_X11_word_66 : lk 66 C_X11_word = some (.if_icmp .ne 7, (73, 0, 0, 0)) := by decide +kernel
theorem s_X11_word_66 {ca : Nat → List Value → tM → tO} {M : tM} {L : tL} {x y : Int32} {S : List Value} : rn ca C_X11_word 66 L (.int y :: .int x :: S) M = if ¬ x = y then rn ca C_X11_word 73 L S M else rn ca C_X11_word 69 L S M := (rn_at k_X11_word_66).trans rnx_ite
theorem k_X11_word_69 : lk 69 C_X11_word = some (.iconst 1, (0, 0, 0, 0)) := by decide +kernel
theorem s_X11_word_69 {ca : Nat → List Value → tM → tO} {M : tM} {L : tL} {S : List Value} : rn ca C_X11_word 69 L S M = rn ca C_X11_word 70 L (.int (iI 1) :: S) M := (rn_at k_X11_word_69).trans rfl
theorem k_X11_word_70 : lk 70 C_X11_word = some (.goto 4, (74, 0, 0, 0)) := by decide +kernel
theorem s_X11_word_70 {ca : Nat → List Value → tM → tO} {M : tM} {L : tL} {S : List Value} : rn ca C_X11_word 70 L S M = rn ca C_X11_word 74 L S M := (rn_at k_X11_word_70).trans rfl
theorem k_X11_word_73 : lk 73 C_X11_word = some (.iconst 0, (0, 0, 0, 0)) := by decide +kernel
theorem s_X11_word_73 {ca : Nat → List Value → tM → tO} {M : tM} {L : tL} {S : List Value} : rn ca C_X11_word 73 L S M = rn ca C_X11_word 74 L (.int (iI 0) :: S) M := (rn_at k_X11_word_73).trans rfl
theorem k_X11_word_74 : lk 74 C_X11_word = some (.istore 5, (0, 0, 0, 0)) := by decide +kernel
theorem s_X11_word_74 {ca : Nat → List Value → tM → tO} {M : tM} {a0 a1 a2 a3 a4 a5 : Option Value} {x : Int32} {S : List Value} : rn ca C_X11_word 74 [a0, a1, a2, a3, a4, a5] (.int x :: S) M = rn ca C_X11_word 76 [a0, a1, a2, a3, a4, some (.int x)] S M := (rn_at k_X11_word_74).trans rfl
theorem k_X11_word_76 : lk 76 C_X11_word = some (.iload_n 3, (0, 0, 0, 0)) := by decide +kernel
theorem s_X11_word_76 {ca : Nat → List Value → tM → tO} {M : tM} {a0 a1 a2 a4 a5 : Option Value} {x : Int32} {S : List Value} : rn ca C_X11_word 76 [a0, a1, a2, some (.int x), a4, a5] S M = rn ca C_X11_word 77 [a0, a1, a2, some (.int x), a4, a5] (.int x :: S) M := (rn_at k_X11_word_76).trans rfl
theorem k_X11_word_77 : lk 77 C_X11_word = some (.iload 5, (0, 0, 0, 0)) := by decide +kernel
theorem s_X11_word_77 {ca : Nat → List Value → tM → tO} {M : tM} {a0 a1 a2 a3 a4 : Option Value} {x : Int32} {S : List Value} : rn ca C_X11_word 77 [a0, a1, a2, a3, a4, some (.int x)] S M = rn ca C_X11_word 79 [a0, a1, a2, a3, a4, some (.int x)] (.int x :: S) M := (rn_at k_X11_word_77).trans rfl
theorem k_X11_word_79 : lk 79 C_X11_word = some (.ifCond .eq 10, (89, 0, 0, 0)) := by decide +kernel
theorem s_X11_word_79 {ca : Nat → List Value → tM → tO} {M : tM} {L : tL} {x : Int32} {S : List Value} : rn ca C_X11_word 79 L (.int x :: S) M = if x = iI 0 then rn ca C_X11_word 89 L S M else rn ca C_X11_word 82 L S M := (rn_at k_X11_word_79).trans rnx_ite
theorem k_X11_word_82 : lk 82 C_X11_word = some (.iconst 1, (0, 0, 0, 0)) := by decide +kernel
theorem s_X11_word_82 {ca : Nat → List Value → tM → tO} {M : tM} {L : tL} {S : List Value} : rn ca C_X11_word 82 L S M = rn ca C_X11_word 83 L (.int (iI 1) :: S) M := (rn_at k_X11_word_82).trans rfl
theorem k_X11_word_83 : lk 83 C_X11_word = some (.iload 4, (0, 0, 0, 0)) := by decide +kernel
theorem s_X11_word_83 {ca : Nat → List Value → tM → tO} {M : tM} {a0 a1 a2 a3 a5 : Option Value} {x : Int32} {S : List Value} : rn ca C_X11_word 83 [a0, a1, a2, a3, some (.int x), a5] S M = rn ca C_X11_word 85 [a0, a1, a2, a3, some (.int x), a5] (.int x :: S) M := (rn_at k_X11_word_83).trans rfl
theorem k_X11_word_85 : lk 85 C_X11_word = some (.ishl, (0, 0, 0, 0)) := by decide +kernel
theorem s_X11_word_85 {ca : Nat → List Value → tM → tO} {M : tM} {L : tL} {x y : Int32} {S : List Value} : rn ca C_X11_word 85 L (.int y :: .int x :: S) M = rn ca C_X11_word 86 L (.int (x <<< (y &&& 31)) :: S) M := (rn_at k_X11_word_85).trans rfl
theorem k_X11_word_86 : lk 86 C_X11_word = some (.goto 4, (90, 0, 0, 0)) := by decide +kernel
theorem s_X11_word_86 {ca : Nat → List Value → tM → tO} {M : tM} {L : tL} {S : List Value} : rn ca C_X11_word 86 L S M = rn ca C_X11_word 90 L S M := (rn_at k_X11_word_86).trans rfl
theorem k_X11_word_89 : lk 89 C_X11_word = some (.iconst 0, (0, 0, 0, 0)) := by decide +kernel
theorem s_X11_word_89 {ca : Nat → List Value → tM → tO} {M : tM} {L : tL} {S : List Value} : rn ca C_X11_word 89 L S M = rn ca C_X11_word 90 L (.int (iI 0) :: S) M := (rn_at k_X11_word_89).trans rfl
theorem k_X11_word_90 : lk 90 C_X11_word = some (.ior, (0, 0, 0, 0)) := by decide +kernel
theorem s_X11_word_90 {ca : Nat → List Value → tM → tO} {M : tM} {L : tL} {x y : Int32} {S : List Value} : rn ca C_X11_word 90 L (.int y :: .int x :: S) M = rn ca C_X11_word 91 L (.int (x ||| y) :: S) M := (rn_at k_X11_word_90).trans rfl
theorem k_X11_word_91 : lk 91 C_X11_word = some (.istore_n 3, (0, 0, 0, 0)) := by decide +kernel
theorem s_X11_word_91 {ca : Nat → List Value → tM → tO} {M : tM} {a0 a1 a2 a3 a4 a5 : Option Value} {x : Int32} {S : List Value} : rn ca C_X11_word 91 [a0, a1, a2, a3, a4, a5] (.int x :: S) M = rn ca C_X11_word 92 [a0, a1, a2, some (.int x), a4, a5] S M := (rn_at k_X11_word_91).trans rfl
theorem k_X11_word_92 : lk 92 C_X11_word = some (.iinc 4 1, (0, 0, 0, 0)) := by decide +kernel
theorem s_X11_word_92 {ca : Nat → List Value → tM → tO} {M : tM} {a0 a1 a2 a3 a5 : Option Value} {x : Int32} {S : List Value} : rn ca C_X11_word 92 [a0, a1, a2, a3, some (.int x), a5] S M = rn ca C_X11_word 95 [a0, a1, a2, a3, some (.int (x + iI 1)), a5] S M := (rn_at k_X11_word_92).trans rfl
theorem k_X11_word_95 : lk 95 C_X11_word = some (.goto (-66), (29, 0, 0, 0)) := by decide +kernel
theorem s_X11_word_95 {ca : Nat → List Value → tM → tO} {M : tM} {L : tL} {S : List Value} : rn ca C_X11_word 95 L S M = rn ca C_X11_word 29 L S M := (rn_at k_X11_word_95).trans rfl
theorem k_X11_word_98 : lk 98 C_X11_word = some (.iload_n 3, (0, 0, 0, 0)) := by decide +kernel
theorem s_X11_word_98 {ca : Nat → List Value → tM → tO} {M : tM} {a0 a1 a2 a4 a5 : Option Value} {x : Int32} {S : List Value} : rn ca C_X11_word 98 [a0, a1, a2, some (.int x), a4, a5] S M = rn ca C_X11_word 99 [a0, a1, a2, some (.int x), a4, a5] (.int x :: S) M := (rn_at k_X11_word_98).trans rfl
theorem k_X11_word_99 : lk 99 C_X11_word = some (.ifCond .ne 6, (105, 0, 0, 0)) := by decide +kernel
theorem s_X11_word_99 {ca : Nat → List Value → tM → tO} {M : tM} {L : tL} {x : Int32} {S : List Value} : rn ca C_X11_word 99 L (.int x :: S) M = if ¬ x = iI 0 then rn ca C_X11_word 105 L S M else rn ca C_X11_word 102 L S M := (rn_at k_X11_word_99).trans rnx_ite
theorem k_X11_word_102 : lk 102 C_X11_word = some (.goto 64, (166, 0, 0, 0)) := by decide +kernel
theorem s_X11_word_102 {ca : Nat → List Value → tM → tO} {M : tM} {L : tL} {S : List Value} : rn ca C_X11_word 102 L S M = rn ca C_X11_word 166 L S M := (rn_at k_X11_word_102).trans rfl
theorem k_X11_word_105 : lk 105 C_X11_word = some (.iload_n 3, (0, 0, 0, 0)) := by decide +kernel
theorem s_X11_word_105 {ca : Nat → List Value → tM → tO} {M : tM} {a0 a1 a2 a4 a5 : Option Value} {x : Int32} {S : List Value} : rn ca C_X11_word 105 [a0, a1, a2, some (.int x), a4, a5] S M = rn ca C_X11_word 106 [a0, a1, a2, some (.int x), a4, a5] (.int x :: S) M := (rn_at k_X11_word_105).trans rfl
theorem k_X11_word_106 : lk 106 C_X11_word = some (.istore_n 1, (0, 0, 0, 0)) := by decide +kernel
theorem s_X11_word_106 {ca : Nat → List Value → tM → tO} {M : tM} {a0 a1 a2 a3 a4 a5 : Option Value} {x : Int32} {S : List Value} : rn ca C_X11_word 106 [a0, a1, a2, a3, a4, a5] (.int x :: S) M = rn ca C_X11_word 107 [a0, some (.int x), a2, a3, a4, a5] S M := (rn_at k_X11_word_106).trans rfl
theorem k_X11_word_107 : lk 107 C_X11_word = some (.aload_n 0, (0, 0, 0, 0)) := by decide +kernel
theorem s_X11_word_107 {ca : Nat → List Value → tM → tO} {M : tM} {a1 a2 a3 a4 a5 : Option Value} {x : Nat} {S : List Value} : rn ca C_X11_word 107 [some (.ref x), a1, a2, a3, a4, a5] S M = rn ca C_X11_word 108 [some (.ref x), a1, a2, a3, a4, a5] (.ref x :: S) M := (rn_at k_X11_word_107).trans rfl
theorem k_X11_word_108 : lk 108 C_X11_word = some (.dup, (0, 0, 0, 0)) := by decide +kernel
theorem s_X11_word_108 {ca : Nat → List Value → tM → tO} {M : tM} {L : tL} {x : Nat} {S : List Value} : rn ca C_X11_word 108 L (.ref x :: S) M = rn ca C_X11_word 109 L (.ref x :: .ref x :: S) M := (rn_at k_X11_word_108).trans rfl
theorem s_X11_word_108b {ca : Nat → List Value → tM → tO} {M : tM} {L : tL} {x : Int32} {S : List Value} : rn ca C_X11_word 108 L (.int x :: S) M = rn ca C_X11_word 109 L (.int x :: .int x :: S) M := (rn_at k_X11_word_108).trans rfl
theorem k_X11_word_109 : lk 109 C_X11_word = some (.getfield 146, (11, 12, 0, 615)) := by decide +kernel
theorem s_X11_word_109 {ca : Nat → List Value → tM → tO} {M : tM} {L : tL} {b : Nat} {S : List Value} : rn ca C_X11_word 109 L (.ref b :: S) M = if clsO b = some 11 then rn ca C_X11_word 112 L (fv M b 12 :: S) M else none := (rn_at k_X11_word_109).trans rnx_ite
theorem k_X11_word_112 : lk 112 C_X11_word = some (.iconst 1, (0, 0, 0, 0)) := by decide +kernel
theorem s_X11_word_112 {ca : Nat → List Value → tM → tO} {M : tM} {L : tL} {S : List Value} : rn ca C_X11_word 112 L S M = rn ca C_X11_word 113 L (.int (iI 1) :: S) M := (rn_at k_X11_word_112).trans rfl
theorem k_X11_word_113 : lk 113 C_X11_word = some (.iadd, (0, 0, 0, 0)) := by decide +kernel
theorem s_X11_word_113 {ca : Nat → List Value → tM → tO} {M : tM} {L : tL} {x y : Int32} {S : List Value} : rn ca C_X11_word 113 L (.int y :: .int x :: S) M = rn ca C_X11_word 114 L (.int (x + y) :: S) M := (rn_at k_X11_word_113).trans rfl
theorem k_X11_word_114 : lk 114 C_X11_word = some (.putfield 146, (11, 12, 0, 615)) := by decide +kernel
theorem s_X11_word_114 {ca : Nat → List Value → tM → tO} {M : tM} {L : tL} {b : Nat} {v : Int32} {S : List Value} : rn ca C_X11_word 114 L (.int v :: .ref b :: S) M = if clsO b = some 11 then rn ca C_X11_word 117 L S (sI M b 12 v) else none := (rn_at k_X11_word_114).trans rnx_ite
theorem k_X11_word_117 : lk 117 C_X11_word = some (.iconst 0, (0, 0, 0, 0)) := by decide +kernel
theorem s_X11_word_117 {ca : Nat → List Value → tM → tO} {M : tM} {L : tL} {S : List Value} : rn ca C_X11_word 117 L S M = rn ca C_X11_word 118 L (.int (iI 0) :: S) M := (rn_at k_X11_word_117).trans rfl
theorem k_X11_word_118 : lk 118 C_X11_word = some (.istore 4, (0, 0, 0, 0)) := by decide +kernel
theorem s_X11_word_118 {ca : Nat → List Value → tM → tO} {M : tM} {a0 a1 a2 a3 a4 a5 : Option Value} {x : Int32} {S : List Value} : rn ca C_X11_word 118 [a0, a1, a2, a3, a4, a5] (.int x :: S) M = rn ca C_X11_word 120 [a0, a1, a2, a3, some (.int x), a5] S M := (rn_at k_X11_word_118).trans rfl
theorem k_X11_word_120 : lk 120 C_X11_word = some (.iload 4, (0, 0, 0, 0)) := by decide +kernel
theorem s_X11_word_120 {ca : Nat → List Value → tM → tO} {M : tM} {a0 a1 a2 a3 a5 : Option Value} {x : Int32} {S : List Value} : rn ca C_X11_word 120 [a0, a1, a2, a3, some (.int x), a5] S M = rn ca C_X11_word 122 [a0, a1, a2, a3, some (.int x), a5] (.int x :: S) M := (rn_at k_X11_word_120).trans rfl
theorem k_X11_word_122 : lk 122 C_X11_word = some (.bipush 6, (0, 0, 0, 0)) := by decide +kernel
theorem s_X11_word_122 {ca : Nat → List Value → tM → tO} {M : tM} {L : tL} {S : List Value} : rn ca C_X11_word 122 L S M = rn ca C_X11_word 124 L (.int (iI 6) :: S) M := (rn_at k_X11_word_122).trans rfl
theorem k_X11_word_124 : lk 124 C_X11_word = some (.if_icmp .ge 39, (163, 0, 0, 0)) := by decide +kernel
theorem s_X11_word_124 {ca : Nat → List Value → tM → tO} {M : tM} {L : tL} {x y : Int32} {S : List Value} : rn ca C_X11_word 124 L (.int y :: .int x :: S) M = if y ≤ x then rn ca C_X11_word 163 L S M else rn ca C_X11_word 127 L S M := (rn_at k_X11_word_124).trans rnx_ite
theorem k_X11_word_127 : lk 127 C_X11_word = some (.iload_n 1, (0, 0, 0, 0)) := by decide +kernel
theorem s_X11_word_127 {ca : Nat → List Value → tM → tO} {M : tM} {a0 a2 a3 a4 a5 : Option Value} {x : Int32} {S : List Value} : rn ca C_X11_word 127 [a0, some (.int x), a2, a3, a4, a5] S M = rn ca C_X11_word 128 [a0, some (.int x), a2, a3, a4, a5] (.int x :: S) M := (rn_at k_X11_word_127).trans rfl
theorem k_X11_word_128 : lk 128 C_X11_word = some (.iconst 1, (0, 0, 0, 0)) := by decide +kernel
theorem s_X11_word_128 {ca : Nat → List Value → tM → tO} {M : tM} {L : tL} {S : List Value} : rn ca C_X11_word 128 L S M = rn ca C_X11_word 129 L (.int (iI 1) :: S) M := (rn_at k_X11_word_128).trans rfl
theorem k_X11_word_129 : lk 129 C_X11_word = some (.iload 4, (0, 0, 0, 0)) := by decide +kernel
theorem s_X11_word_129 {ca : Nat → List Value → tM → tO} {M : tM} {a0 a1 a2 a3 a5 : Option Value} {x : Int32} {S : List Value} : rn ca C_X11_word 129 [a0, a1, a2, a3, some (.int x), a5] S M = rn ca C_X11_word 131 [a0, a1, a2, a3, some (.int x), a5] (.int x :: S) M := (rn_at k_X11_word_129).trans rfl
theorem k_X11_word_131 : lk 131 C_X11_word = some (.ishl, (0, 0, 0, 0)) := by decide +kernel
theorem s_X11_word_131 {ca : Nat → List Value → tM → tO} {M : tM} {L : tL} {x y : Int32} {S : List Value} : rn ca C_X11_word 131 L (.int y :: .int x :: S) M = rn ca C_X11_word 132 L (.int (x <<< (y &&& 31)) :: S) M := (rn_at k_X11_word_131).trans rfl
theorem k_X11_word_132 : lk 132 C_X11_word = some (.if_icmp .ne 25, (157, 0, 0, 0)) := by decide +kernel
theorem s_X11_word_132 {ca : Nat → List Value → tM → tO} {M : tM} {L : tL} {x y : Int32} {S : List Value} : rn ca C_X11_word 132 L (.int y :: .int x :: S) M = if ¬ x = y then rn ca C_X11_word 157 L S M else rn ca C_X11_word 135 L S M := (rn_at k_X11_word_132).trans rnx_ite
theorem k_X11_word_135 : lk 135 C_X11_word = some (.aload_n 0, (0, 0, 0, 0)) := by decide +kernel
theorem s_X11_word_135 {ca : Nat → List Value → tM → tO} {M : tM} {a1 a2 a3 a4 a5 : Option Value} {x : Nat} {S : List Value} : rn ca C_X11_word 135 [some (.ref x), a1, a2, a3, a4, a5] S M = rn ca C_X11_word 136 [some (.ref x), a1, a2, a3, a4, a5] (.ref x :: S) M := (rn_at k_X11_word_135).trans rfl
theorem k_X11_word_136 : lk 136 C_X11_word = some (.getfield 56, (11, 10, 0, 156)) := by decide +kernel
theorem s_X11_word_136 {ca : Nat → List Value → tM → tO} {M : tM} {L : tL} {b : Nat} {S : List Value} : rn ca C_X11_word 136 L (.ref b :: S) M = if clsO b = some 11 then rn ca C_X11_word 139 L (fv M b 10 :: S) M else none := (rn_at k_X11_word_136).trans rnx_ite
theorem k_X11_word_139 : lk 139 C_X11_word = some (.iload 4, (0, 0, 0, 0)) := by decide +kernel
theorem s_X11_word_139 {ca : Nat → List Value → tM → tO} {M : tM} {a0 a1 a2 a3 a5 : Option Value} {x : Int32} {S : List Value} : rn ca C_X11_word 139 [a0, a1, a2, a3, some (.int x), a5] S M = rn ca C_X11_word 141 [a0, a1, a2, a3, some (.int x), a5] (.int x :: S) M := (rn_at k_X11_word_139).trans rfl
theorem k_X11_word_141 : lk 141 C_X11_word = some (.aaload, (0, 0, 0, 0)) := by decide +kernel
theorem s_X11_word_141 {ca : Nat → List Value → tM → tO} {M : tM} {L : tL} {a : Nat} {i : Int32} {S : List Value} : rn ca C_X11_word 141 L (.int i :: .ref a :: S) M = if (akind a = 3 ∨ akind a = 4 ∨ akind a = 5) ∧ inb i (alen M a) then rn ca C_X11_word 142 L (.ref (rfe a i.toInt.toNat) :: S) M else none := (rn_at k_X11_word_141).trans rnx_ite
theorem k_X11_word_142 : lk 142 C_X11_word = some (.invokevirtual 166, (301, 0, 90, 636)) := by decide +kernel
theorem s_X11_word_142 {ca : Nat → List Value → tM → tO} {M : tM} {L : tL} {b : Nat} : rn ca C_X11_word 142 L [.ref b] M = if clsO b = some 90 then rnk ca C_X11_word 145 L [] (ca m_J0_length_8abf5 [.ref b] M) else none := (rn_at k_X11_word_142).trans rnx_ite
theorem k_X11_word_145 : lk 145 C_X11_word = some (.aload_n 0, (0, 0, 0, 0)) := by decide +kernel
theorem s_X11_word_145 {ca : Nat → List Value → tM → tO} {M : tM} {a1 a2 a3 a4 a5 : Option Value} {x : Nat} {S : List Value} : rn ca C_X11_word 145 [some (.ref x), a1, a2, a3, a4, a5] S M = rn ca C_X11_word 146 [some (.ref x), a1, a2, a3, a4, a5] (.ref x :: S) M := (rn_at k_X11_word_145).trans rfl
theorem k_X11_word_146 : lk 146 C_X11_word = some (.getfield 146, (11, 12, 0, 615)) := by decide +kernel
theorem s_X11_word_146 {ca : Nat → List Value → tM → tO} {M : tM} {L : tL} {b : Nat} {S : List Value} : rn ca C_X11_word 146 L (.ref b :: S) M = if clsO b = some 11 then rn ca C_X11_word 149 L (fv M b 12 :: S) M else none := (rn_at k_X11_word_146).trans rnx_ite
theorem k_X11_word_149 : lk 149 C_X11_word = some (.iload_n 2, (0, 0, 0, 0)) := by decide +kernel
theorem s_X11_word_149 {ca : Nat → List Value → tM → tO} {M : tM} {a0 a1 a3 a4 a5 : Option Value} {x : Int32} {S : List Value} : rn ca C_X11_word 149 [a0, a1, some (.int x), a3, a4, a5] S M = rn ca C_X11_word 150 [a0, a1, some (.int x), a3, a4, a5] (.int x :: S) M := (rn_at k_X11_word_149).trans rfl
theorem k_X11_word_150 : lk 150 C_X11_word = some (.isub, (0, 0, 0, 0)) := by decide +kernel
theorem s_X11_word_150 {ca : Nat → List Value → tM → tO} {M : tM} {L : tL} {x y : Int32} {S : List Value} : rn ca C_X11_word 150 L (.int y :: .int x :: S) M = rn ca C_X11_word 151 L (.int (x - y) :: S) M := (rn_at k_X11_word_150).trans rfl
theorem k_X11_word_151 : lk 151 C_X11_word = some (.if_icmp .ne 6, (157, 0, 0, 0)) := by decide +kernel
theorem s_X11_word_151 {ca : Nat → List Value → tM → tO} {M : tM} {L : tL} {x y : Int32} {S : List Value} : rn ca C_X11_word 151 L (.int y :: .int x :: S) M = if ¬ x = y then rn ca C_X11_word 157 L S M else rn ca C_X11_word 154 L S M := (rn_at k_X11_word_151).trans rnx_ite
theorem k_X11_word_154 : lk 154 C_X11_word = some (.iload 4, (0, 0, 0, 0)) := by decide +kernel
theorem s_X11_word_154 {ca : Nat → List Value → tM → tO} {M : tM} {a0 a1 a2 a3 a5 : Option Value} {x : Int32} {S : List Value} : rn ca C_X11_word 154 [a0, a1, a2, a3, some (.int x), a5] S M = rn ca C_X11_word 156 [a0, a1, a2, a3, some (.int x), a5] (.int x :: S) M := (rn_at k_X11_word_154).trans rfl
theorem k_X11_word_156 : lk 156 C_X11_word = some (.ireturn, (0, 0, 0, 0)) := by decide +kernel
theorem s_X11_word_156 {ca : Nat → List Value → tM → tO} {M : tM} {L : tL} {x : Int32} : rn ca C_X11_word 156 L [.int x] M = some (some (.int x), M) := (rn_at k_X11_word_156).trans rfl
theorem k_X11_word_157 : lk 157 C_X11_word = some (.iinc 4 1, (0, 0, 0, 0)) := by decide +kernel
theorem s_X11_word_157 {ca : Nat → List Value → tM → tO} {M : tM} {a0 a1 a2 a3 a5 : Option Value} {x : Int32} {S : List Value} : rn ca C_X11_word 157 [a0, a1, a2, a3, some (.int x), a5] S M = rn ca C_X11_word 160 [a0, a1, a2, a3, some (.int (x + iI 1)), a5] S M := (rn_at k_X11_word_157).trans rfl
theorem k_X11_word_160 : lk 160 C_X11_word = some (.goto (-40), (120, 0, 0, 0)) := by decide +kernel
theorem s_X11_word_160 {ca : Nat → List Value → tM → tO} {M : tM} {L : tL} {S : List Value} : rn ca C_X11_word 160 L S M = rn ca C_X11_word 120 L S M := (rn_at k_X11_word_160).trans rfl
theorem k_X11_word_163 : lk 163 C_X11_word = some (.goto (-155), (8, 0, 0, 0)) := by decide +kernel
theorem s_X11_word_163 {ca : Nat → List Value → tM → tO} {M : tM} {L : tL} {S : List Value} : rn ca C_X11_word 163 L S M = rn ca C_X11_word 8 L S M := (rn_at k_X11_word_163).trans rfl
theorem k_X11_word_166 : lk 166 C_X11_word = some (.aload_n 0, (0, 0, 0, 0)) := by decide +kernel
theorem s_X11_word_166 {ca : Nat → List Value → tM → tO} {M : tM} {a1 a2 a3 a4 a5 : Option Value} {x : Nat} {S : List Value} : rn ca C_X11_word 166 [some (.ref x), a1, a2, a3, a4, a5] S M = rn ca C_X11_word 167 [some (.ref x), a1, a2, a3, a4, a5] (.ref x :: S) M := (rn_at k_X11_word_166).trans rfl
theorem k_X11_word_167 : lk 167 C_X11_word = some (.aload_n 0, (0, 0, 0, 0)) := by decide +kernel
theorem s_X11_word_167 {ca : Nat → List Value → tM → tO} {M : tM} {a1 a2 a3 a4 a5 : Option Value} {x : Nat} {S : List Value} : rn ca C_X11_word 167 [some (.ref x), a1, a2, a3, a4, a5] S M = rn ca C_X11_word 168 [some (.ref x), a1, a2, a3, a4, a5] (.ref x :: S) M := (rn_at k_X11_word_167).trans rfl
theorem k_X11_word_168 : lk 168 C_X11_word = some (.getfield 146, (11, 12, 0, 615)) := by decide +kernel
theorem s_X11_word_168 {ca : Nat → List Value → tM → tO} {M : tM} {L : tL} {b : Nat} {S : List Value} : rn ca C_X11_word 168 L (.ref b :: S) M = if clsO b = some 11 then rn ca C_X11_word 171 L (fv M b 12 :: S) M else none := (rn_at k_X11_word_168).trans rnx_ite
theorem k_X11_word_171 : lk 171 C_X11_word = some (.invokevirtual 159, (182, 1, 11, 637)) := by decide +kernel
theorem s_X11_word_171 {ca : Nat → List Value → tM → tO} {M : tM} {L : tL} {v1 : Value} {b : Nat} : rn ca C_X11_word 171 L [v1, .ref b] M = if clsO b = some 11 then rnk ca C_X11_word 174 L [] (ca m_X11_isFault [.ref b, v1] M) else none := (rn_at k_X11_word_171).trans rnx_ite
theorem k_X11_word_174 : lk 174 C_X11_word = some (.pop, (0, 0, 0, 0)) := by decide +kernel
theorem s_X11_word_174 {ca : Nat → List Value → tM → tO} {M : tM} {L : tL} {x : Int32} {S : List Value} : rn ca C_X11_word 174 L (.int x :: S) M = rn ca C_X11_word 175 L S M := (rn_at k_X11_word_174).trans rfl
theorem k_X11_word_175 : lk 175 C_X11_word = some (.iconst (-1), (0, 0, 0, 0)) := by decide +kernel
theorem s_X11_word_175 {ca : Nat → List Value → tM → tO} {M : tM} {L : tL} {S : List Value} : rn ca C_X11_word 175 L S M = rn ca C_X11_word 176 L (.int (iI (-1)) :: S) M := (rn_at k_X11_word_175).trans rfl
theorem k_X11_word_176 : lk 176 C_X11_word = some (.ireturn, (0, 0, 0, 0)) := by decide +kernel
theorem s_X11_word_176 {ca : Nat → List Value → tM → tO} {M : tM} {L : tL} {x : Int32} : rn ca C_X11_word 176 L [.int x] M = some (some (.int x), M) := (rn_at k_X11_word_176).trans rfl
theorem k_X11_number_0 : lk 0 C_X11_number = some (.aload_n 0, (0, 0, 0, 0)) := by decide +kernel
theorem s_X11_number_0 {ca : Nat → List Value → tM → tO} {M : tM} {a1 a2 a3 a4 a5 a6 : Option Value} {x : Nat} {S : List Value} : rn ca C_X11_number 0 [some (.ref x), a1, a2, a3, a4, a5, a6] S M = rn ca C_X11_number 1 [some (.ref x), a1, a2, a3, a4, a5, a6] (.ref x :: S) M := (rn_at k_X11_number_0).trans rfl
theorem k_X11_number_1 : lk 1 C_X11_number = some (.bipush 32, (0, 0, 0, 0)) := by decide +kernel
theorem s_X11_number_1 {ca : Nat → List Value → tM → tO} {M : tM} {L : tL} {S : List Value} : rn ca C_X11_number 1 L S M = rn ca C_X11_number 3 L (.int (iI 32) :: S) M := (rn_at k_X11_number_1).trans rfl
theorem k_X11_number_3 : lk 3 C_X11_number = some (.invokevirtual 169, (183, 1, 11, 647)) := by decide +kernel
theorem s_X11_number_3 {ca : Nat → List Value → tM → tO} {M : tM} {L : tL} {v1 : Value} {b : Nat} : rn ca C_X11_number 3 L [v1, .ref b] M = if clsO b = some 11 then rnk ca C_X11_number 6 L [] (ca m_X11_isLetter [.ref b, v1] M) else none := (rn_at k_X11_number_3).trans rnx_ite
theorem k_X11_number_6 : lk 6 C_X11_number = some (.ifCond .ne 5, (11, 0, 0, 0)) := by decide +kernel
theorem s_X11_number_6 {ca : Nat → List Value → tM → tO} {M : tM} {L : tL} {x : Int32} {S : List Value} : rn ca C_X11_number 6 L (.int x :: S) M = if ¬ x = iI 0 then rn ca C_X11_number 11 L S M else rn ca C_X11_number 9 L S M := (rn_at k_X11_number_6).trans rnx_ite
theorem k_X11_number_9 : lk 9 C_X11_number = some (.iconst (-1), (0, 0, 0, 0)) := by decide +kernel
theorem s_X11_number_9 {ca : Nat → List Value → tM → tO} {M : tM} {L : tL} {S : List Value} : rn ca C_X11_number 9 L S M = rn ca C_X11_number 10 L (.int (iI (-1)) :: S) M := (rn_at k_X11_number_9).trans rfl
theorem k_X11_number_10 : lk 10 C_X11_number = some (.ireturn, (0, 0, 0, 0)) := by decide +kernel
theorem s_X11_number_10 {ca : Nat → List Value → tM → tO} {M : tM} {L : tL} {x : Int32} : rn ca C_X11_number 10 L [.int x] M = some (some (.int x), M) := (rn_at k_X11_number_10).trans rfl
theorem k_X11_number_11 : lk 11 C_X11_number = some (.aload_n 0, (0, 0, 0, 0)) := by decide +kernel
theorem s_X11_number_11 {ca : Nat → List Value → tM → tO} {M : tM} {a1 a2 a3 a4 a5 a6 : Option Value} {x : Nat} {S : List Value} : rn ca C_X11_number 11 [some (.ref x), a1, a2, a3, a4, a5, a6] S M = rn ca C_X11_number 12 [some (.ref x), a1, a2, a3, a4, a5, a6] (.ref x :: S) M := (rn_at k_X11_number_11).trans rfl
theorem k_X11_number_12 : lk 12 C_X11_number = some (.getfield 146, (11, 12, 0, 615)) := by decide +kernel
theorem s_X11_number_12 {ca : Nat → List Value → tM → tO} {M : tM} {L : tL} {b : Nat} {S : List Value} : rn ca C_X11_number 12 L (.ref b :: S) M = if clsO b = some 11 then rn ca C_X11_number 15 L (fv M b 12 :: S) M else none := (rn_at k_X11_number_12).trans rnx_ite
theorem k_X11_number_15 : lk 15 C_X11_number = some (.istore 4, (0, 0, 0, 0)) := by decide +kernel
theorem s_X11_number_15 {ca : Nat → List Value → tM → tO} {M : tM} {a0 a1 a2 a3 a4 a5 a6 : Option Value} {x : Int32} {S : List Value} : rn ca C_X11_number 15 [a0, a1, a2, a3, a4, a5, a6] (.int x :: S) M = rn ca C_X11_number 17 [a0, a1, a2, a3, some (.int x), a5, a6] S M := (rn_at k_X11_number_15).trans rfl
theorem k_X11_number_17 : lk 17 C_X11_number = some (.iconst 0, (0, 0, 0, 0)) := by decide +kernel
theorem s_X11_number_17 {ca : Nat → List Value → tM → tO} {M : tM} {L : tL} {S : List Value} : rn ca C_X11_number 17 L S M = rn ca C_X11_number 18 L (.int (iI 0) :: S) M := (rn_at k_X11_number_17).trans rfl
theorem k_X11_number_18 : lk 18 C_X11_number = some (.istore 5, (0, 0, 0, 0)) := by decide +kernel
theorem s_X11_number_18 {ca : Nat → List Value → tM → tO} {M : tM} {a0 a1 a2 a3 a4 a5 a6 : Option Value} {x : Int32} {S : List Value} : rn ca C_X11_number 18 [a0, a1, a2, a3, a4, a5, a6] (.int x :: S) M = rn ca C_X11_number 20 [a0, a1, a2, a3, a4, some (.int x), a6] S M := (rn_at k_X11_number_18).trans rfl
theorem k_X11_number_20 : lk 20 C_X11_number = some (.aload_n 0, (0, 0, 0, 0)) := by decide +kernel
theorem s_X11_number_20 {ca : Nat → List Value → tM → tO} {M : tM} {a1 a2 a3 a4 a5 a6 : Option Value} {x : Nat} {S : List Value} : rn ca C_X11_number 20 [some (.ref x), a1, a2, a3, a4, a5, a6] S M = rn ca C_X11_number 21 [some (.ref x), a1, a2, a3, a4, a5, a6] (.ref x :: S) M := (rn_at k_X11_number_20).trans rfl
theorem k_X11_number_21 : lk 21 C_X11_number = some (.getfield 146, (11, 12, 0, 615)) := by decide +kernel
theorem s_X11_number_21 {ca : Nat → List Value → tM → tO} {M : tM} {L : tL} {b : Nat} {S : List Value} : rn ca C_X11_number 21 L (.ref b :: S) M = if clsO b = some 11 then rn ca C_X11_number 24 L (fv M b 12 :: S) M else none := (rn_at k_X11_number_21).trans rnx_ite
theorem k_X11_number_24 : lk 24 C_X11_number = some (.aload_n 0, (0, 0, 0, 0)) := by decide +kernel
theorem s_X11_number_24 {ca : Nat → List Value → tM → tO} {M : tM} {a1 a2 a3 a4 a5 a6 : Option Value} {x : Nat} {S : List Value} : rn ca C_X11_number 24 [some (.ref x), a1, a2, a3, a4, a5, a6] S M = rn ca C_X11_number 25 [some (.ref x), a1, a2, a3, a4, a5, a6] (.ref x :: S) M := (rn_at k_X11_number_24).trans rfl
theorem k_X11_number_25 : lk 25 C_X11_number = some (.getfield 29, (11, 6, 0, 151)) := by decide +kernel
theorem s_X11_number_25 {ca : Nat → List Value → tM → tO} {M : tM} {L : tL} {b : Nat} {S : List Value} : rn ca C_X11_number 25 L (.ref b :: S) M = if clsO b = some 11 then rn ca C_X11_number 28 L (fv M b 6 :: S) M else none := (rn_at k_X11_number_25).trans rnx_ite
theorem k_X11_number_28 : lk 28 C_X11_number = some (.aload_n 0, (0, 0, 0, 0)) := by decide +kernel
theorem s_X11_number_28 {ca : Nat → List Value → tM → tO} {M : tM} {a1 a2 a3 a4 a5 a6 : Option Value} {x : Nat} {S : List Value} : rn ca C_X11_number 28 [some (.ref x), a1, a2, a3, a4, a5, a6] S M = rn ca C_X11_number 29 [some (.ref x), a1, a2, a3, a4, a5, a6] (.ref x :: S) M := (rn_at k_X11_number_28).trans rfl
theorem k_X11_number_29 : lk 29 C_X11_number = some (.getfield 149, (11, 11, 0, 614)) := by decide +kernel
theorem s_X11_number_29 {ca : Nat → List Value → tM → tO} {M : tM} {L : tL} {b : Nat} {S : List Value} : rn ca C_X11_number 29 L (.ref b :: S) M = if clsO b = some 11 then rn ca C_X11_number 32 L (fv M b 11 :: S) M else none := (rn_at k_X11_number_29).trans rnx_ite
theorem k_X11_number_32 : lk 32 C_X11_number = some (.iaload, (0, 0, 0, 0)) := by decide +kernel
theorem s_X11_number_32 {ca : Nat → List Value → tM → tO} {M : tM} {L : tL} {a : Nat} {i : Int32} {S : List Value} : rn ca C_X11_number 32 L (.int i :: .ref a :: S) M = if (akind a = 0 ∨ akind a = 6 ∨ akind a = 7) ∧ inb i (alen M a) then rn ca C_X11_number 33 L (.int (M.1 a i.toInt.toNat) :: S) M else none := (rn_at k_X11_number_32).trans rnx_ite
theorem k_X11_number_33 : lk 33 C_X11_number = some (.if_icmp .ge 59, (92, 0, 0, 0)) := by decide +kernel
theorem s_X11_number_33 {ca : Nat → List Value → tM → tO} {M : tM} {L : tL} {x y : Int32} {S : List Value} : rn ca C_X11_number 33 L (.int y :: .int x :: S) M = if y ≤ x then rn ca C_X11_number 92 L S M else rn ca C_X11_number 36 L S M := (rn_at k_X11_number_33).trans rnx_ite
theorem k_X11_number_36 : lk 36 C_X11_number = some (.aload_n 0, (0, 0, 0, 0)) := by decide +kernel
theorem s_X11_number_36 {ca : Nat → List Value → tM → tO} {M : tM} {a1 a2 a3 a4 a5 a6 : Option Value} {x : Nat} {S : List Value} : rn ca C_X11_number 36 [some (.ref x), a1, a2, a3, a4, a5, a6] S M = rn ca C_X11_number 37 [some (.ref x), a1, a2, a3, a4, a5, a6] (.ref x :: S) M := (rn_at k_X11_number_36).trans rfl
theorem k_X11_number_37 : lk 37 C_X11_number = some (.getfield 146, (11, 12, 0, 615)) := by decide +kernel
theorem s_X11_number_37 {ca : Nat → List Value → tM → tO} {M : tM} {L : tL} {b : Nat} {S : List Value} : rn ca C_X11_number 37 L (.ref b :: S) M = if clsO b = some 11 then rn ca C_X11_number 40 L (fv M b 12 :: S) M else none := (rn_at k_X11_number_37).trans rnx_ite
theorem k_X11_number_40 : lk 40 C_X11_number = some (.iload 4, (0, 0, 0, 0)) := by decide +kernel
theorem s_X11_number_40 {ca : Nat → List Value → tM → tO} {M : tM} {a0 a1 a2 a3 a5 a6 : Option Value} {x : Int32} {S : List Value} : rn ca C_X11_number 40 [a0, a1, a2, a3, some (.int x), a5, a6] S M = rn ca C_X11_number 42 [a0, a1, a2, a3, some (.int x), a5, a6] (.int x :: S) M := (rn_at k_X11_number_40).trans rfl
theorem k_X11_number_42 : lk 42 C_X11_number = some (.isub, (0, 0, 0, 0)) := by decide +kernel
theorem s_X11_number_42 {ca : Nat → List Value → tM → tO} {M : tM} {L : tL} {x y : Int32} {S : List Value} : rn ca C_X11_number 42 L (.int y :: .int x :: S) M = rn ca C_X11_number 43 L (.int (x - y) :: S) M := (rn_at k_X11_number_42).trans rfl
theorem k_X11_number_43 : lk 43 C_X11_number = some (.iconst 2, (0, 0, 0, 0)) := by decide +kernel
theorem s_X11_number_43 {ca : Nat → List Value → tM → tO} {M : tM} {L : tL} {S : List Value} : rn ca C_X11_number 43 L S M = rn ca C_X11_number 44 L (.int (iI 2) :: S) M := (rn_at k_X11_number_43).trans rfl
theorem k_X11_number_44 : lk 44 C_X11_number = some (.if_icmp .ge 48, (92, 0, 0, 0)) := by decide +kernel
theorem s_X11_number_44 {ca : Nat → List Value → tM → tO} {M : tM} {L : tL} {x y : Int32} {S : List Value} : rn ca C_X11_number 44 L (.int y :: .int x :: S) M = if y ≤ x then rn ca C_X11_number 92 L S M else rn ca C_X11_number 47 L S M := (rn_at k_X11_number_44).trans rnx_ite
theorem k_X11_number_47 : lk 47 C_X11_number = some (.aload_n 0, (0, 0, 0, 0)) := by decide +kernel
theorem s_X11_number_47 {ca : Nat → List Value → tM → tO} {M : tM} {a1 a2 a3 a4 a5 a6 : Option Value} {x : Nat} {S : List Value} : rn ca C_X11_number 47 [some (.ref x), a1, a2, a3, a4, a5, a6] S M = rn ca C_X11_number 48 [some (.ref x), a1, a2, a3, a4, a5, a6] (.ref x :: S) M := (rn_at k_X11_number_47).trans rfl
theorem k_X11_number_48 : lk 48 C_X11_number = some (.invokevirtual 156, (181, 0, 11, 628)) := by decide +kernel
theorem s_X11_number_48 {ca : Nat → List Value → tM → tO} {M : tM} {L : tL} {b : Nat} : rn ca C_X11_number 48 L [.ref b] M = if clsO b = some 11 then rnk ca C_X11_number 51 L [] (ca m_X11_letter [.ref b] M) else none := (rn_at k_X11_number_48).trans rnx_ite
theorem k_X11_number_51 : lk 51 C_X11_number = some (.i2l, (0, 0, 0, 0)) := by decide +kernel
theorem s_X11_number_51 {ca : Nat → List Value → tM → tO} {M : tM} {L : tL} {x : Int32} {S : List Value} : rn ca C_X11_number 51 L (.int x :: S) M = rn ca C_X11_number 52 L (.long x.toInt64 :: S) M := (rn_at k_X11_number_51).trans rfl
theorem k_X11_number_52 : lk 52 C_X11_number = some (.ldc2_w 172, (0, 0, 48, 645)) := by decide +kernel
theorem s_X11_number_52 {ca : Nat → List Value → tM → tO} {M : tM} {L : tL} {S : List Value} : rn ca C_X11_number 52 L S M = rn ca C_X11_number 55 L (.long (jJ 48) :: S) M := (rn_at k_X11_number_52).trans rfl
theorem k_X11_number_55 : lk 55 C_X11_number = some (.ldc2_w 174, (0, 0, 57, 646)) := by decide +kernel
theorem s_X11_number_55 {ca : Nat → List Value → tM → tO} {M : tM} {L : tL} {S : List Value} : rn ca C_X11_number 55 L S M = rn ca C_X11_number 58 L (.long (jJ 57) :: S) M := (rn_at k_X11_number_55).trans rfl
theorem k_X11_number_58 : lk 58 C_X11_number = some (.invokestatic 87, (143, 3, 0, 197)) := by decide +kernel
theorem s_X11_number_58 {ca : Nat → List Value → tM → tO} {M : tM} {L : tL} {v1 v2 v3 : Value} : rn ca C_X11_number 58 L [v3, v2, v1] M = rnk ca C_X11_number 61 L [] (ca m_X11_isIn [v1, v2, v3] M) := (rn_at k_X11_number_58).trans rfl
theorem k_X11_number_61 : lk 61 C_X11_number = some (.ifCond .eq 31, (92, 0, 0, 0)) := by decide +kernel
theorem s_X11_number_61 {ca : Nat → List Value → tM → tO} {M : tM} {L : tL} {x : Int32} {S : List Value} : rn ca C_X11_number 61 L (.int x :: S) M = if x = iI 0 then rn ca C_X11_number 92 L S M else rn ca C_X11_number 64 L S M := (rn_at k_X11_number_61).trans rnx_ite
theorem k_X11_number_64 : lk 64 C_X11_number = some (.bipush 10, (0, 0, 0, 0)) := by decide +kernel
theorem s_X11_number_64 {ca : Nat → List Value → tM → tO} {M : tM} {L : tL} {S : List Value} : rn ca C_X11_number 64 L S M = rn ca C_X11_number 66 L (.int (iI 10) :: S) M := (rn_at k_X11_number_64).trans rfl
theorem k_X11_number_66 : lk 66 C_X11_number = some (.iload 5, (0, 0, 0, 0)) := by decide +kernel
theorem s_X11_number_66 {ca : Nat → List Value → tM → tO} {M : tM} {a0 a1 a2 a3 a4 a6 : Option Value} {x : Int32} {S : List Value} : rn ca C_X11_number 66 [a0, a1, a2, a3, a4, some (.int x), a6] S M = rn ca C_X11_number 68 [a0, a1, a2, a3, a4, some (.int x), a6] (.int x :: S) M := (rn_at k_X11_number_66).trans rfl
theorem k_X11_number_68 : lk 68 C_X11_number = some (.imul, (0, 0, 0, 0)) := by decide +kernel
theorem s_X11_number_68 {ca : Nat → List Value → tM → tO} {M : tM} {L : tL} {x y : Int32} {S : List Value} : rn ca C_X11_number 68 L (.int y :: .int x :: S) M = rn ca C_X11_number 69 L (.int (x * y) :: S) M := (rn_at k_X11_number_68).trans rfl
theorem k_X11_number_69 : lk 69 C_X11_number = some (.aload_n 0, (0, 0, 0, 0)) := by decide +kernel
theorem s_X11_number_69 {ca : Nat → List Value → tM → tO} {M : tM} {a1 a2 a3 a4 a5 a6 : Option Value} {x : Nat} {S : List Value} : rn ca C_X11_number 69 [some (.ref x), a1, a2, a3, a4, a5, a6] S M = rn ca C_X11_number 70 [some (.ref x), a1, a2, a3, a4, a5, a6] (.ref x :: S) M := (rn_at k_X11_number_69).trans rfl
theorem k_X11_number_70 : lk 70 C_X11_number = some (.invokevirtual 156, (181, 0, 11, 628)) := by decide +kernel
theorem s_X11_number_70 {ca : Nat → List Value → tM → tO} {M : tM} {L : tL} {r0 : Int32} {b : Nat} : rn ca C_X11_number 70 L [.ref b, .int r0] M = if clsO b = some 11 then rnk ca C_X11_number 73 L [.int r0] (ca m_X11_letter [.ref b] M) else none := (rn_at k_X11_number_70).trans rnx_ite
theorem k_X11_number_73 : lk 73 C_X11_number = some (.iadd, (0, 0, 0, 0)) := by decide +kernel
theorem s_X11_number_73 {ca : Nat → List Value → tM → tO} {M : tM} {L : tL} {x y : Int32} {S : List Value} : rn ca C_X11_number 73 L (.int y :: .int x :: S) M = rn ca C_X11_number 74 L (.int (x + y) :: S) M := (rn_at k_X11_number_73).trans rfl
theorem k_X11_number_74 : lk 74 C_X11_number = some (.bipush 48, (0, 0, 0, 0)) := by decide +kernel
theorem s_X11_number_74 {ca : Nat → List Value → tM → tO} {M : tM} {L : tL} {S : List Value} : rn ca C_X11_number 74 L S M = rn ca C_X11_number 76 L (.int (iI 48) :: S) M := (rn_at k_X11_number_74).trans rfl
theorem k_X11_number_76 : lk 76 C_X11_number = some (.isub, (0, 0, 0, 0)) := by decide +kernel
theorem s_X11_number_76 {ca : Nat → List Value → tM → tO} {M : tM} {L : tL} {x y : Int32} {S : List Value} : rn ca C_X11_number 76 L (.int y :: .int x :: S) M = rn ca C_X11_number 77 L (.int (x - y) :: S) M := (rn_at k_X11_number_76).trans rfl
theorem k_X11_number_77 : lk 77 C_X11_number = some (.istore 5, (0, 0, 0, 0)) := by decide +kernel
theorem s_X11_number_77 {ca : Nat → List Value → tM → tO} {M : tM} {a0 a1 a2 a3 a4 a5 a6 : Option Value} {x : Int32} {S : List Value} : rn ca C_X11_number 77 [a0, a1, a2, a3, a4, a5, a6] (.int x :: S) M = rn ca C_X11_number 79 [a0, a1, a2, a3, a4, some (.int x), a6] S M := (rn_at k_X11_number_77).trans rfl
theorem k_X11_number_79 : lk 79 C_X11_number = some (.aload_n 0, (0, 0, 0, 0)) := by decide +kernel
theorem s_X11_number_79 {ca : Nat → List Value → tM → tO} {M : tM} {a1 a2 a3 a4 a5 a6 : Option Value} {x : Nat} {S : List Value} : rn ca C_X11_number 79 [some (.ref x), a1, a2, a3, a4, a5, a6] S M = rn ca C_X11_number 80 [some (.ref x), a1, a2, a3, a4, a5, a6] (.ref x :: S) M := (rn_at k_X11_number_79).trans rfl
theorem k_X11_number_80 : lk 80 C_X11_number = some (.dup, (0, 0, 0, 0)) := by decide +kernel
theorem s_X11_number_80 {ca : Nat → List Value → tM → tO} {M : tM} {L : tL} {x : Nat} {S : List Value} : rn ca C_X11_number 80 L (.ref x :: S) M = rn ca C_X11_number 81 L (.ref x :: .ref x :: S) M := (rn_at k_X11_number_80).trans rfl
theorem s_X11_number_80b {ca : Nat → List Value → tM → tO} {M : tM} {L : tL} {x : Int32} {S : List Value} : rn ca C_X11_number 80 L (.int x :: S) M = rn ca C_X11_number 81 L (.int x :: .int x :: S) M := (rn_at k_X11_number_80).trans rfl
theorem k_X11_number_81 : lk 81 C_X11_number = some (.getfield 146, (11, 12, 0, 615)) := by decide +kernel
theorem s_X11_number_81 {ca : Nat → List Value → tM → tO} {M : tM} {L : tL} {b : Nat} {S : List Value} : rn ca C_X11_number 81 L (.ref b :: S) M = if clsO b = some 11 then rn ca C_X11_number 84 L (fv M b 12 :: S) M else none := (rn_at k_X11_number_81).trans rnx_ite
theorem k_X11_number_84 : lk 84 C_X11_number = some (.iconst 1, (0, 0, 0, 0)) := by decide +kernel
theorem s_X11_number_84 {ca : Nat → List Value → tM → tO} {M : tM} {L : tL} {S : List Value} : rn ca C_X11_number 84 L S M = rn ca C_X11_number 85 L (.int (iI 1) :: S) M := (rn_at k_X11_number_84).trans rfl
theorem k_X11_number_85 : lk 85 C_X11_number = some (.iadd, (0, 0, 0, 0)) := by decide +kernel
theorem s_X11_number_85 {ca : Nat → List Value → tM → tO} {M : tM} {L : tL} {x y : Int32} {S : List Value} : rn ca C_X11_number 85 L (.int y :: .int x :: S) M = rn ca C_X11_number 86 L (.int (x + y) :: S) M := (rn_at k_X11_number_85).trans rfl
theorem k_X11_number_86 : lk 86 C_X11_number = some (.putfield 146, (11, 12, 0, 615)) := by decide +kernel
theorem s_X11_number_86 {ca : Nat → List Value → tM → tO} {M : tM} {L : tL} {b : Nat} {v : Int32} {S : List Value} : rn ca C_X11_number 86 L (.int v :: .ref b :: S) M = if clsO b = some 11 then rn ca C_X11_number 89 L S (sI M b 12 v) else none := (rn_at k_X11_number_86).trans rnx_ite
theorem k_X11_number_89 : lk 89 C_X11_number = some (.goto (-69), (20, 0, 0, 0)) := by decide +kernel
theorem s_X11_number_89 {ca : Nat → List Value → tM → tO} {M : tM} {L : tL} {S : List Value} : rn ca C_X11_number 89 L S M = rn ca C_X11_number 20 L S M := (rn_at k_X11_number_89).trans rfl
theorem k_X11_number_92 : lk 92 C_X11_number = some (.aload_n 0, (0, 0, 0, 0)) := by decide +kernel
theorem s_X11_number_92 {ca : Nat → List Value → tM → tO} {M : tM} {a1 a2 a3 a4 a5 a6 : Option Value} {x : Nat} {S : List Value} : rn ca C_X11_number 92 [some (.ref x), a1, a2, a3, a4, a5, a6] S M = rn ca C_X11_number 93 [some (.ref x), a1, a2, a3, a4, a5, a6] (.ref x :: S) M := (rn_at k_X11_number_92).trans rfl
theorem k_X11_number_93 : lk 93 C_X11_number = some (.getfield 146, (11, 12, 0, 615)) := by decide +kernel
theorem s_X11_number_93 {ca : Nat → List Value → tM → tO} {M : tM} {L : tL} {b : Nat} {S : List Value} : rn ca C_X11_number 93 L (.ref b :: S) M = if clsO b = some 11 then rn ca C_X11_number 96 L (fv M b 12 :: S) M else none := (rn_at k_X11_number_93).trans rnx_ite
theorem k_X11_number_96 : lk 96 C_X11_number = some (.iload 4, (0, 0, 0, 0)) := by decide +kernel
theorem s_X11_number_96 {ca : Nat → List Value → tM → tO} {M : tM} {a0 a1 a2 a3 a5 a6 : Option Value} {x : Int32} {S : List Value} : rn ca C_X11_number 96 [a0, a1, a2, a3, some (.int x), a5, a6] S M = rn ca C_X11_number 98 [a0, a1, a2, a3, some (.int x), a5, a6] (.int x :: S) M := (rn_at k_X11_number_96).trans rfl
theorem k_X11_number_98 : lk 98 C_X11_number = some (.if_icmp .le 26, (124, 0, 0, 0)) := by decide +kernel
theorem s_X11_number_98 {ca : Nat → List Value → tM → tO} {M : tM} {L : tL} {x y : Int32} {S : List Value} : rn ca C_X11_number 98 L (.int y :: .int x :: S) M = if x ≤ y then rn ca C_X11_number 124 L S M else rn ca C_X11_number 101 L S M := (rn_at k_X11_number_98).trans rnx_ite
theorem k_X11_number_101 : lk 101 C_X11_number = some (.iload 5, (0, 0, 0, 0)) := by decide +kernel
theorem s_X11_number_101 {ca : Nat → List Value → tM → tO} {M : tM} {a0 a1 a2 a3 a4 a6 : Option Value} {x : Int32} {S : List Value} : rn ca C_X11_number 101 [a0, a1, a2, a3, a4, some (.int x), a6] S M = rn ca C_X11_number 103 [a0, a1, a2, a3, a4, some (.int x), a6] (.int x :: S) M := (rn_at k_X11_number_101).trans rfl
theorem k_X11_number_103 : lk 103 C_X11_number = some (.i2l, (0, 0, 0, 0)) := by decide +kernel
theorem s_X11_number_103 {ca : Nat → List Value → tM → tO} {M : tM} {L : tL} {x : Int32} {S : List Value} : rn ca C_X11_number 103 L (.int x :: S) M = rn ca C_X11_number 104 L (.long x.toInt64 :: S) M := (rn_at k_X11_number_103).trans rfl
theorem k_X11_number_104 : lk 104 C_X11_number = some (.iload_n 1, (0, 0, 0, 0)) := by decide +kernel
theorem s_X11_number_104 {ca : Nat → List Value → tM → tO} {M : tM} {a0 a2 a3 a4 a5 a6 : Option Value} {x : Int32} {S : List Value} : rn ca C_X11_number 104 [a0, some (.int x), a2, a3, a4, a5, a6] S M = rn ca C_X11_number 105 [a0, some (.int x), a2, a3, a4, a5, a6] (.int x :: S) M := (rn_at k_X11_number_104).trans rfl
theorem k_X11_number_105 : lk 105 C_X11_number = some (.i2l, (0, 0, 0, 0)) := by decide +kernel
theorem s_X11_number_105 {ca : Nat → List Value → tM → tO} {M : tM} {L : tL} {x : Int32} {S : List Value} : rn ca C_X11_number 105 L (.int x :: S) M = rn ca C_X11_number 106 L (.long x.toInt64 :: S) M := (rn_at k_X11_number_105).trans rfl
theorem k_X11_number_106 : lk 106 C_X11_number = some (.iload_n 2, (0, 0, 0, 0)) := by decide +kernel
theorem s_X11_number_106 {ca : Nat → List Value → tM → tO} {M : tM} {a0 a1 a3 a4 a5 a6 : Option Value} {x : Int32} {S : List Value} : rn ca C_X11_number 106 [a0, a1, some (.int x), a3, a4, a5, a6] S M = rn ca C_X11_number 107 [a0, a1, some (.int x), a3, a4, a5, a6] (.int x :: S) M := (rn_at k_X11_number_106).trans rfl
theorem k_X11_number_107 : lk 107 C_X11_number = some (.i2l, (0, 0, 0, 0)) := by decide +kernel
theorem s_X11_number_107 {ca : Nat → List Value → tM → tO} {M : tM} {L : tL} {x : Int32} {S : List Value} : rn ca C_X11_number 107 L (.int x :: S) M = rn ca C_X11_number 108 L (.long x.toInt64 :: S) M := (rn_at k_X11_number_107).trans rfl
theorem k_X11_number_108 : lk 108 C_X11_number = some (.invokestatic 87, (143, 3, 0, 197)) := by decide +kernel
theorem s_X11_number_108 {ca : Nat → List Value → tM → tO} {M : tM} {L : tL} {v1 v2 v3 : Value} : rn ca C_X11_number 108 L [v3, v2, v1] M = rnk ca C_X11_number 111 L [] (ca m_X11_isIn [v1, v2, v3] M) := (rn_at k_X11_number_108).trans rfl
theorem k_X11_number_111 : lk 111 C_X11_number = some (.ifCond .eq 13, (124, 0, 0, 0)) := by decide +kernel
theorem s_X11_number_111 {ca : Nat → List Value → tM → tO} {M : tM} {L : tL} {x : Int32} {S : List Value} : rn ca C_X11_number 111 L (.int x :: S) M = if x = iI 0 then rn ca C_X11_number 124 L S M else rn ca C_X11_number 114 L S M := (rn_at k_X11_number_111).trans rnx_ite
theorem k_X11_number_114 : lk 114 C_X11_number = some (.iload 5, (0, 0, 0, 0)) := by decide +kernel
theorem s_X11_number_114 {ca : Nat → List Value → tM → tO} {M : tM} {a0 a1 a2 a3 a4 a6 : Option Value} {x : Int32} {S : List Value} : rn ca C_X11_number 114 [a0, a1, a2, a3, a4, some (.int x), a6] S M = rn ca C_X11_number 116 [a0, a1, a2, a3, a4, some (.int x), a6] (.int x :: S) M := (rn_at k_X11_number_114).trans rfl
theorem k_X11_number_116 : lk 116 C_X11_number = some (.iload_n 3, (0, 0, 0, 0)) := by decide +kernel
theorem s_X11_number_116 {ca : Nat → List Value → tM → tO} {M : tM} {a0 a1 a2 a4 a5 a6 : Option Value} {x : Int32} {S : List Value} : rn ca C_X11_number 116 [a0, a1, a2, some (.int x), a4, a5, a6] S M = rn ca C_X11_number 117 [a0, a1, a2, some (.int x), a4, a5, a6] (.int x :: S) M := (rn_at k_X11_number_116).trans rfl
theorem k_X11_number_117 : lk 117 C_X11_number = some (.if_icmp .eq 7, (124, 0, 0, 0)) := by decide +kernel
theorem s_X11_number_117 {ca : Nat → List Value → tM → tO} {M : tM} {L : tL} {x y : Int32} {S : List Value} : rn ca C_X11_number 117 L (.int y :: .int x :: S) M = if x = y then rn ca C_X11_number 124 L S M else rn ca C_X11_number 120 L S M := (rn_at k_X11_number_117).trans rnx_ite
theorem k_X11_number_120 : lk 120 C_X11_number = some (.iconst 1, (0, 0, 0, 0)) := by decide +kernel
theorem s_X11_number_120 {ca : Nat → List Value → tM → tO} {M : tM} {L : tL} {S : List Value} : rn ca C_X11_number 120 L S M = rn ca C_X11_number 121 L (.int (iI 1) :: S) M := (rn_at k_X11_number_120).trans rfl
theorem k_X11_number_121 : lk 121 C_X11_number = some (.goto 4, (125, 0, 0, 0)) := by decide +kernel
theorem s_X11_number_121 {ca : Nat → List Value → tM → tO} {M : tM} {L : tL} {S : List Value} : rn ca C_X11_number 121 L S M = rn ca C_X11_number 125 L S M := (rn_at k_X11_number_121).trans rfl
theorem k_X11_number_124 : lk 124 C_X11_number = some (.iconst 0, (0, 0, 0, 0)) := by decide +kernel
theorem s_X11_number_124 {ca : Nat → List Value → tM → tO} {M : tM} {L : tL} {S : List Value} : rn ca C_X11_number 124 L S M = rn ca C_X11_number 125 L (.int (iI 0) :: S) M := (rn_at k_X11_number_124).trans rfl
theorem k_X11_number_125 : lk 125 C_X11_number = some (.istore 6, (0, 0, 0, 0)) := by decide +kernel
theorem s_X11_number_125 {ca : Nat → List Value → tM → tO} {M : tM} {a0 a1 a2 a3 a4 a5 a6 : Option Value} {x : Int32} {S : List Value} : rn ca C_X11_number 125 [a0, a1, a2, a3, a4, a5, a6] (.int x :: S) M = rn ca C_X11_number 127 [a0, a1, a2, a3, a4, a5, some (.int x)] S M := (rn_at k_X11_number_125).trans rfl
theorem k_X11_number_127 : lk 127 C_X11_number = some (.iload 6, (0, 0, 0, 0)) := by decide +kernel
theorem s_X11_number_127 {ca : Nat → List Value → tM → tO} {M : tM} {a0 a1 a2 a3 a4 a5 : Option Value} {x : Int32} {S : List Value} : rn ca C_X11_number 127 [a0, a1, a2, a3, a4, a5, some (.int x)] S M = rn ca C_X11_number 129 [a0, a1, a2, a3, a4, a5, some (.int x)] (.int x :: S) M := (rn_at k_X11_number_127).trans rfl
theorem k_X11_number_129 : lk 129 C_X11_number = some (.ifCond .ne 10, (139, 0, 0, 0)) := by decide +kernel
theorem s_X11_number_129 {ca : Nat → List Value → tM → tO} {M : tM} {L : tL} {x : Int32} {S : List Value} : rn ca C_X11_number 129 L (.int x :: S) M = if ¬ x = iI 0 then rn ca C_X11_number 139 L S M else rn ca C_X11_number 132 L S M := (rn_at k_X11_number_129).trans rnx_ite
theorem k_X11_number_132 : lk 132 C_X11_number = some (.aload_n 0, (0, 0, 0, 0)) := by decide +kernel
theorem s_X11_number_132 {ca : Nat → List Value → tM → tO} {M : tM} {a1 a2 a3 a4 a5 a6 : Option Value} {x : Nat} {S : List Value} : rn ca C_X11_number 132 [some (.ref x), a1, a2, a3, a4, a5, a6] S M = rn ca C_X11_number 133 [some (.ref x), a1, a2, a3, a4, a5, a6] (.ref x :: S) M := (rn_at k_X11_number_132).trans rfl
theorem k_X11_number_133 : lk 133 C_X11_number = some (.iload 4, (0, 0, 0, 0)) := by decide +kernel
theorem s_X11_number_133 {ca : Nat → List Value → tM → tO} {M : tM} {a0 a1 a2 a3 a5 a6 : Option Value} {x : Int32} {S : List Value} : rn ca C_X11_number 133 [a0, a1, a2, a3, some (.int x), a5, a6] S M = rn ca C_X11_number 135 [a0, a1, a2, a3, some (.int x), a5, a6] (.int x :: S) M := (rn_at k_X11_number_133).trans rfl
theorem k_X11_number_135 : lk 135 C_X11_number = some (.invokevirtual 159, (182, 1, 11, 637)) := by decide +kernel
theorem s_X11_number_135 {ca : Nat → List Value → tM → tO} {M : tM} {L : tL} {v1 : Value} {b : Nat} : rn ca C_X11_number 135 L [v1, .ref b] M = if clsO b = some 11 then rnk ca C_X11_number 138 L [] (ca m_X11_isFault [.ref b, v1] M) else none := (rn_at k_X11_number_135).trans rnx_ite
theorem k_X11_number_138 : lk 138 C_X11_number = some (.pop, (0, 0, 0, 0)) := by decide +kernel
theorem s_X11_number_138 {ca : Nat → List Value → tM → tO} {M : tM} {L : tL} {x : Int32} {S : List Value} : rn ca C_X11_number 138 L (.int x :: S) M = rn ca C_X11_number 139 L S M := (rn_at k_X11_number_138).trans rfl
theorem k_X11_number_139 : lk 139 C_X11_number = some (.iload 6, (0, 0, 0, 0)) := by decide +kernel
theorem s_X11_number_139 {ca : Nat → List Value → tM → tO} {M : tM} {a0 a1 a2 a3 a4 a5 : Option Value} {x : Int32} {S : List Value} : rn ca C_X11_number 139 [a0, a1, a2, a3, a4, a5, some (.int x)] S M = rn ca C_X11_number 141 [a0, a1, a2, a3, a4, a5, some (.int x)] (.int x :: S) M := (rn_at k_X11_number_139).trans rfl
theorem k_X11_number_141 : lk 141 C_X11_number = some (.ifCond .eq 8, (149, 0, 0, 0)) := by decide +kernel
theorem s_X11_number_141 {ca : Nat → List Value → tM → tO} {M : tM} {L : tL} {x : Int32} {S : List Value} : rn ca C_X11_number 141 L (.int x :: S) M = if x = iI 0 then rn ca C_X11_number 149 L S M else rn ca C_X11_number 144 L S M := (rn_at k_X11_number_141).trans rnx_ite
theorem k_X11_number_144 : lk 144 C_X11_number = some (.iload 5, (0, 0, 0, 0)) := by decide +kernel
theorem s_X11_number_144 {ca : Nat → List Value → tM → tO} {M : tM} {a0 a1 a2 a3 a4 a6 : Option Value} {x : Int32} {S : List Value} : rn ca C_X11_number 144 [a0, a1, a2, a3, a4, some (.int x), a6] S M = rn ca C_X11_number 146 [a0, a1, a2, a3, a4, some (.int x), a6] (.int x :: S) M := (rn_at k_X11_number_144).trans rfl
theorem k_X11_number_146 : lk 146 C_X11_number = some (.goto 4, (150, 0, 0, 0)) := by decide +kernel
theorem s_X11_number_146 {ca : Nat → List Value → tM → tO} {M : tM} {L : tL} {S : List Value} : rn ca C_X11_number 146 L S M = rn ca C_X11_number 150 L S M := (rn_at k_X11_number_146).trans rfl
theorem k_X11_number_149 : lk 149 C_X11_number = some (.iconst (-1), (0, 0, 0, 0)) := by decide +kernel
theorem s_X11_number_149 {ca : Nat → List Value → tM → tO} {M : tM} {L : tL} {S : List Value} : rn ca C_X11_number 149 L S M = rn ca C_X11_number 150 L (.int (iI (-1)) :: S) M := (rn_at k_X11_number_149).trans rfl
theorem k_X11_number_150 : lk 150 C_X11_number = some (.ireturn, (0, 0, 0, 0)) := by decide +kernel
theorem s_X11_number_150 {ca : Nat → List Value → tM → tO} {M : tM} {L : tL} {x : Int32} : rn ca C_X11_number 150 L [.int x] M = some (some (.int x), M) := (rn_at k_X11_number_150).trans rfl
theorem k_X11_isItem_0 : lk 0 C_X11_isItem = some (.aload_n 0, (0, 0, 0, 0)) := by decide +kernel
theorem s_X11_isItem_0 {ca : Nat → List Value → tM → tO} {M : tM} {a1 a2 a3 a4 a5 a6 : Option Value} {x : Nat} {S : List Value} : rn ca C_X11_isItem 0 [some (.ref x), a1, a2, a3, a4, a5, a6] S M = rn ca C_X11_isItem 1 [some (.ref x), a1, a2, a3, a4, a5, a6] (.ref x :: S) M := (rn_at k_X11_isItem_0).trans rfl
theorem k_X11_isItem_1 : lk 1 C_X11_isItem = some (.getfield 146, (11, 12, 0, 615)) := by decide +kernel
theorem s_X11_isItem_1 {ca : Nat → List Value → tM → tO} {M : tM} {L : tL} {b : Nat} {S : List Value} : rn ca C_X11_isItem 1 L (.ref b :: S) M = if clsO b = some 11 then rn ca C_X11_isItem 4 L (fv M b 12 :: S) M else none := (rn_at k_X11_isItem_1).trans rnx_ite
theorem k_X11_isItem_4 : lk 4 C_X11_isItem = some (.istore_n 1, (0, 0, 0, 0)) := by decide +kernel
theorem s_X11_isItem_4 {ca : Nat → List Value → tM → tO} {M : tM} {a0 a1 a2 a3 a4 a5 a6 : Option Value} {x : Int32} {S : List Value} : rn ca C_X11_isItem 4 [a0, a1, a2, a3, a4, a5, a6] (.int x :: S) M = rn ca C_X11_isItem 5 [a0, some (.int x), a2, a3, a4, a5, a6] S M := (rn_at k_X11_isItem_4).trans rfl
theorem k_X11_isItem_5 : lk 5 C_X11_isItem = some (.aload_n 0, (0, 0, 0, 0)) := by decide +kernel
theorem s_X11_isItem_5 {ca : Nat → List Value → tM → tO} {M : tM} {a1 a2 a3 a4 a5 a6 : Option Value} {x : Nat} {S : List Value} : rn ca C_X11_isItem 5 [some (.ref x), a1, a2, a3, a4, a5, a6] S M = rn ca C_X11_isItem 6 [some (.ref x), a1, a2, a3, a4, a5, a6] (.ref x :: S) M := (rn_at k_X11_isItem_5).trans rfl
theorem k_X11_isItem_6 : lk 6 C_X11_isItem = some (.invokevirtual 176, (184, 0, 11, 623)) := by decide +kernel
theorem s_X11_isItem_6 {ca : Nat → List Value → tM → tO} {M : tM} {L : tL} {b : Nat} : rn ca C_X11_isItem 6 L [.ref b] M = if clsO b = some 11 then rnk ca C_X11_isItem 9 L [] (ca m_X11_word [.ref b] M) else none := (rn_at k_X11_isItem_6).trans rnx_ite
theorem k_X11_isItem_9 : lk 9 C_X11_isItem = some (.istore_n 2, (0, 0, 0, 0)) := by decide +kernel
theorem s_X11_isItem_9 {ca : Nat → List Value → tM → tO} {M : tM} {a0 a1 a2 a3 a4 a5 a6 : Option Value} {x : Int32} {S : List Value} : rn ca C_X11_isItem 9 [a0, a1, a2, a3, a4, a5, a6] (.int x :: S) M = rn ca C_X11_isItem 10 [a0, a1, some (.int x), a3, a4, a5, a6] S M := (rn_at k_X11_isItem_9).trans rfl
theorem k_X11_isItem_10 : lk 10 C_X11_isItem = some (.iload_n 2, (0, 0, 0, 0)) := by decide +kernel
theorem s_X11_isItem_10 {ca : Nat → List Value → tM → tO} {M : tM} {a0 a1 a3 a4 a5 a6 : Option Value} {x : Int32} {S : List Value} : rn ca C_X11_isItem 10 [a0, a1, some (.int x), a3, a4, a5, a6] S M = rn ca C_X11_isItem 11 [a0, a1, some (.int x), a3, a4, a5, a6] (.int x :: S) M := (rn_at k_X11_isItem_10).trans rfl
theorem k_X11_isItem_11 : lk 11 C_X11_isItem = some (.iconst (-1), (0, 0, 0, 0)) := by decide +kernel
theorem s_X11_isItem_11 {ca : Nat → List Value → tM → tO} {M : tM} {L : tL} {S : List Value} : rn ca C_X11_isItem 11 L S M = rn ca C_X11_isItem 12 L (.int (iI (-1)) :: S) M := (rn_at k_X11_isItem_11).trans rfl
theorem k_X11_isItem_12 : lk 12 C_X11_isItem = some (.if_icmp .ne 5, (17, 0, 0, 0)) := by decide +kernel
theorem s_X11_isItem_12 {ca : Nat → List Value → tM → tO} {M : tM} {L : tL} {x y : Int32} {S : List Value} : rn ca C_X11_isItem 12 L (.int y :: .int x :: S) M = if ¬ x = y then rn ca C_X11_isItem 17 L S M else rn ca C_X11_isItem 15 L S M := (rn_at k_X11_isItem_12).trans rnx_ite
theorem k_X11_isItem_15 : lk 15 C_X11_isItem = some (.iconst 0, (0, 0, 0, 0)) := by decide +kernel
theorem s_X11_isItem_15 {ca : Nat → List Value → tM → tO} {M : tM} {L : tL} {S : List Value} : rn ca C_X11_isItem 15 L S M = rn ca C_X11_isItem 16 L (.int (iI 0) :: S) M := (rn_at k_X11_isItem_15).trans rfl
theorem k_X11_isItem_16 : lk 16 C_X11_isItem = some (.ireturn, (1, 0, 0, 0)) := by decide +kernel
theorem s_X11_isItem_16 {ca : Nat → List Value → tM → tO} {M : tM} {L : tL} {x : Int32} : rn ca C_X11_isItem 16 L [.int x] M = if x = iI 0 ∨ x = iI 1 then some (some (.int x), M) else none := (rn_at k_X11_isItem_16).trans rnx_ite
theorem k_X11_isItem_17 : lk 17 C_X11_isItem = some (.iload_n 2, (0, 0, 0, 0)) := by decide +kernel
theorem s_X11_isItem_17 {ca : Nat → List Value → tM → tO} {M : tM} {a0 a1 a3 a4 a5 a6 : Option Value} {x : Int32} {S : List Value} : rn ca C_X11_isItem 17 [a0, a1, some (.int x), a3, a4, a5, a6] S M = rn ca C_X11_isItem 18 [a0, a1, some (.int x), a3, a4, a5, a6] (.int x :: S) M := (rn_at k_X11_isItem_17).trans rfl
theorem k_X11_isItem_18 : lk 18 C_X11_isItem = some (.ifCond .ne 15, (33, 0, 0, 0)) := by decide +kernel
theorem s_X11_isItem_18 {ca : Nat → List Value → tM → tO} {M : tM} {L : tL} {x : Int32} {S : List Value} : rn ca C_X11_isItem 18 L (.int x :: S) M = if ¬ x = iI 0 then rn ca C_X11_isItem 33 L S M else rn ca C_X11_isItem 21 L S M := (rn_at k_X11_isItem_18).trans rnx_ite
theorem k_X11_isItem_21 : lk 21 C_X11_isItem = some (.aload_n 0, (0, 0, 0, 0)) := by decide +kernel
theorem s_X11_isItem_21 {ca : Nat → List Value → tM → tO} {M : tM} {a1 a2 a3 a4 a5 a6 : Option Value} {x : Nat} {S : List Value} : rn ca C_X11_isItem 21 [some (.ref x), a1, a2, a3, a4, a5, a6] S M = rn ca C_X11_isItem 22 [some (.ref x), a1, a2, a3, a4, a5, a6] (.ref x :: S) M := (rn_at k_X11_isItem_21).trans rfl
theorem k_X11_isItem_22 : lk 22 C_X11_isItem = some (.getfield 17, (11, 1, 0, 147)) := by decide +kernel
theorem s_X11_isItem_22 {ca : Nat → List Value → tM → tO} {M : tM} {L : tL} {b : Nat} {S : List Value} : rn ca C_X11_isItem 22 L (.ref b :: S) M = if clsO b = some 11 then rn ca C_X11_isItem 25 L (fv M b 1 :: S) M else none := (rn_at k_X11_isItem_22).trans rnx_ite
theorem k_X11_isItem_25 : lk 25 C_X11_isItem = some (.bipush 108, (0, 0, 0, 0)) := by decide +kernel
theorem s_X11_isItem_25 {ca : Nat → List Value → tM → tO} {M : tM} {L : tL} {S : List Value} : rn ca C_X11_isItem 25 L S M = rn ca C_X11_isItem 27 L (.int (iI 108) :: S) M := (rn_at k_X11_isItem_25).trans rfl
theorem k_X11_isItem_27 : lk 27 C_X11_isItem = some (.iaload, (0, 0, 0, 0)) := by decide +kernel
theorem s_X11_isItem_27 {ca : Nat → List Value → tM → tO} {M : tM} {L : tL} {a : Nat} {i : Int32} {S : List Value} : rn ca C_X11_isItem 27 L (.int i :: .ref a :: S) M = if (akind a = 0 ∨ akind a = 6 ∨ akind a = 7) ∧ inb i (alen M a) then rn ca C_X11_isItem 28 L (.int (M.1 a i.toInt.toNat) :: S) M else none := (rn_at k_X11_isItem_27).trans rnx_ite
theorem k_X11_isItem_28 : lk 28 C_X11_isItem = some (.bipush 8, (0, 0, 0, 0)) := by decide +kernel
theorem s_X11_isItem_28 {ca : Nat → List Value → tM → tO} {M : tM} {L : tL} {S : List Value} : rn ca C_X11_isItem 28 L S M = rn ca C_X11_isItem 30 L (.int (iI 8) :: S) M := (rn_at k_X11_isItem_28).trans rfl
theorem k_X11_isItem_30 : lk 30 C_X11_isItem = some (.if_icmp .eq 36, (66, 0, 0, 0)) := by decide +kernel
theorem s_X11_isItem_30 {ca : Nat → List Value → tM → tO} {M : tM} {L : tL} {x y : Int32} {S : List Value} : rn ca C_X11_isItem 30 L (.int y :: .int x :: S) M = if x = y then rn ca C_X11_isItem 66 L S M else rn ca C_X11_isItem 33 L S M := (rn_at k_X11_isItem_30).trans rnx_ite
theorem k_X11_isItem_33 : lk 33 C_X11_isItem = some (.iload_n 2, (0, 0, 0, 0)) := by decide +kernel
theorem s_X11_isItem_33 {ca : Nat → List Value → tM → tO} {M : tM} {a0 a1 a3 a4 a5 a6 : Option Value} {x : Int32} {S : List Value} : rn ca C_X11_isItem 33 [a0, a1, some (.int x), a3, a4, a5, a6] S M = rn ca C_X11_isItem 34 [a0, a1, some (.int x), a3, a4, a5, a6] (.int x :: S) M := (rn_at k_X11_isItem_33).trans rfl
theorem k_X11_isItem_34 : lk 34 C_X11_isItem = some (.iconst 1, (0, 0, 0, 0)) := by decide +kernel
theorem s_X11_isItem_34 {ca : Nat → List Value → tM → tO} {M : tM} {L : tL} {S : List Value} : rn ca C_X11_isItem 34 L S M = rn ca C_X11_isItem 35 L (.int (iI 1) :: S) M := (rn_at k_X11_isItem_34).trans rfl
theorem k_X11_isItem_35 : lk 35 C_X11_isItem = some (.if_icmp .ne 15, (50, 0, 0, 0)) := by decide +kernel
theorem s_X11_isItem_35 {ca : Nat → List Value → tM → tO} {M : tM} {L : tL} {x y : Int32} {S : List Value} : rn ca C_X11_isItem 35 L (.int y :: .int x :: S) M = if ¬ x = y then rn ca C_X11_isItem 50 L S M else rn ca C_X11_isItem 38 L S M := (rn_at k_X11_isItem_35).trans rnx_ite
theorem k_X11_isItem_38 : lk 38 C_X11_isItem = some (.aload_n 0, (0, 0, 0, 0)) := by decide +kernel
theorem s_X11_isItem_38 {ca : Nat → List Value → tM → tO} {M : tM} {a1 a2 a3 a4 a5 a6 : Option Value} {x : Nat} {S : List Value} : rn ca C_X11_isItem 38 [some (.ref x), a1, a2, a3, a4, a5, a6] S M = rn ca C_X11_isItem 39 [some (.ref x), a1, a2, a3, a4, a5, a6] (.ref x :: S) M := (rn_at k_X11_isItem_38).trans rfl
theorem k_X11_isItem_39 : lk 39 C_X11_isItem = some (.getfield 17, (11, 1, 0, 147)) := by decide +kernel
theorem s_X11_isItem_39 {ca : Nat → List Value → tM → tO} {M : tM} {L : tL} {b : Nat} {S : List Value} : rn ca C_X11_isItem 39 L (.ref b :: S) M = if clsO b = some 11 then rn ca C_X11_isItem 42 L (fv M b 1 :: S) M else none := (rn_at k_X11_isItem_39).trans rnx_ite
theorem k_X11_isItem_42 : lk 42 C_X11_isItem = some (.bipush 109, (0, 0, 0, 0)) := by decide +kernel
theorem s_X11_isItem_42 {ca : Nat → List Value → tM → tO} {M : tM} {L : tL} {S : List Value} : rn ca C_X11_isItem 42 L S M = rn ca C_X11_isItem 44 L (.int (iI 109) :: S) M := (rn_at k_X11_isItem_42).trans rfl
theorem k_X11_isItem_44 : lk 44 C_X11_isItem = some (.iaload, (0, 0, 0, 0)) := by decide +kernel
theorem s_X11_isItem_44 {ca : Nat → List Value → tM → tO} {M : tM} {L : tL} {a : Nat} {i : Int32} {S : List Value} : rn ca C_X11_isItem 44 L (.int i :: .ref a :: S) M = if (akind a = 0 ∨ akind a = 6 ∨ akind a = 7) ∧ inb i (alen M a) then rn ca C_X11_isItem 45 L (.int (M.1 a i.toInt.toNat) :: S) M else none := (rn_at k_X11_isItem_44).trans rnx_ite
theorem k_X11_isItem_45 : lk 45 C_X11_isItem = some (.bipush 16, (0, 0, 0, 0)) := by decide +kernel
theorem s_X11_isItem_45 {ca : Nat → List Value → tM → tO} {M : tM} {L : tL} {S : List Value} : rn ca C_X11_isItem 45 L S M = rn ca C_X11_isItem 47 L (.int (iI 16) :: S) M := (rn_at k_X11_isItem_45).trans rfl
theorem k_X11_isItem_47 : lk 47 C_X11_isItem = some (.if_icmp .eq 19, (66, 0, 0, 0)) := by decide +kernel
theorem s_X11_isItem_47 {ca : Nat → List Value → tM → tO} {M : tM} {L : tL} {x y : Int32} {S : List Value} : rn ca C_X11_isItem 47 L (.int y :: .int x :: S) M = if x = y then rn ca C_X11_isItem 66 L S M else rn ca C_X11_isItem 50 L S M := (rn_at k_X11_isItem_47).trans rnx_ite
theorem k_X11_isItem_50 : lk 50 C_X11_isItem = some (.iload_n 2, (0, 0, 0, 0)) := by decide +kernel
theorem s_X11_isItem_50 {ca : Nat → List Value → tM → tO} {M : tM} {a0 a1 a3 a4 a5 a6 : Option Value} {x : Int32} {S : List Value} : rn ca C_X11_isItem 50 [a0, a1, some (.int x), a3, a4, a5, a6] S M = rn ca C_X11_isItem 51 [a0, a1, some (.int x), a3, a4, a5, a6] (.int x :: S) M := (rn_at k_X11_isItem_50).trans rfl
theorem k_X11_isItem_51 : lk 51 C_X11_isItem = some (.iconst 2, (0, 0, 0, 0)) := by decide +kernel
theorem s_X11_isItem_51 {ca : Nat → List Value → tM → tO} {M : tM} {L : tL} {S : List Value} : rn ca C_X11_isItem 51 L S M = rn ca C_X11_isItem 52 L (.int (iI 2) :: S) M := (rn_at k_X11_isItem_51).trans rfl
theorem k_X11_isItem_52 : lk 52 C_X11_isItem = some (.if_icmp .ne 20, (72, 0, 0, 0)) := by decide +kernel
theorem s_X11_isItem_52 {ca : Nat → List Value → tM → tO} {M : tM} {L : tL} {x y : Int32} {S : List Value} : rn ca C_X11_isItem 52 L (.int y :: .int x :: S) M = if ¬ x = y then rn ca C_X11_isItem 72 L S M else rn ca C_X11_isItem 55 L S M := (rn_at k_X11_isItem_52).trans rnx_ite
theorem k_X11_isItem_55 : lk 55 C_X11_isItem = some (.aload_n 0, (0, 0, 0, 0)) := by decide +kernel
theorem s_X11_isItem_55 {ca : Nat → List Value → tM → tO} {M : tM} {a1 a2 a3 a4 a5 a6 : Option Value} {x : Nat} {S : List Value} : rn ca C_X11_isItem 55 [some (.ref x), a1, a2, a3, a4, a5, a6] S M = rn ca C_X11_isItem 56 [some (.ref x), a1, a2, a3, a4, a5, a6] (.ref x :: S) M := (rn_at k_X11_isItem_55).trans rfl
theorem k_X11_isItem_56 : lk 56 C_X11_isItem = some (.getfield 17, (11, 1, 0, 147)) := by decide +kernel
theorem s_X11_isItem_56 {ca : Nat → List Value → tM → tO} {M : tM} {L : tL} {b : Nat} {S : List Value} : rn ca C_X11_isItem 56 L (.ref b :: S) M = if clsO b = some 11 then rn ca C_X11_isItem 59 L (fv M b 1 :: S) M else none := (rn_at k_X11_isItem_56).trans rnx_ite
theorem k_X11_isItem_59 : lk 59 C_X11_isItem = some (.bipush 110, (0, 0, 0, 0)) := by decide +kernel
theorem s_X11_isItem_59 {ca : Nat → List Value → tM → tO} {M : tM} {L : tL} {S : List Value} : rn ca C_X11_isItem 59 L S M = rn ca C_X11_isItem 61 L (.int (iI 110) :: S) M := (rn_at k_X11_isItem_59).trans rfl
theorem k_X11_isItem_61 : lk 61 C_X11_isItem = some (.iaload, (0, 0, 0, 0)) := by decide +kernel
theorem s_X11_isItem_61 {ca : Nat → List Value → tM → tO} {M : tM} {L : tL} {a : Nat} {i : Int32} {S : List Value} : rn ca C_X11_isItem 61 L (.int i :: .ref a :: S) M = if (akind a = 0 ∨ akind a = 6 ∨ akind a = 7) ∧ inb i (alen M a) then rn ca C_X11_isItem 62 L (.int (M.1 a i.toInt.toNat) :: S) M else none := (rn_at k_X11_isItem_61).trans rnx_ite
theorem k_X11_isItem_62 : lk 62 C_X11_isItem = some (.iconst 5, (0, 0, 0, 0)) := by decide +kernel
theorem s_X11_isItem_62 {ca : Nat → List Value → tM → tO} {M : tM} {L : tL} {S : List Value} : rn ca C_X11_isItem 62 L S M = rn ca C_X11_isItem 63 L (.int (iI 5) :: S) M := (rn_at k_X11_isItem_62).trans rfl
theorem k_X11_isItem_63 : lk 63 C_X11_isItem = some (.if_icmp .ne 9, (72, 0, 0, 0)) := by decide +kernel
theorem s_X11_isItem_63 {ca : Nat → List Value → tM → tO} {M : tM} {L : tL} {x y : Int32} {S : List Value} : rn ca C_X11_isItem 63 L (.int y :: .int x :: S) M = if ¬ x = y then rn ca C_X11_isItem 72 L S M else rn ca C_X11_isItem 66 L S M := (rn_at k_X11_isItem_63).trans rnx_ite
theorem k_X11_isItem_66 : lk 66 C_X11_isItem = some (.aload_n 0, (0, 0, 0, 0)) := by decide +kernel
theorem s_X11_isItem_66 {ca : Nat → List Value → tM → tO} {M : tM} {a1 a2 a3 a4 a5 a6 : Option Value} {x : Nat} {S : List Value} : rn ca C_X11_isItem 66 [some (.ref x), a1, a2, a3, a4, a5, a6] S M = rn ca C_X11_isItem 67 [some (.ref x), a1, a2, a3, a4, a5, a6] (.ref x :: S) M := (rn_at k_X11_isItem_66).trans rfl
theorem k_X11_isItem_67 : lk 67 C_X11_isItem = some (.iload_n 1, (0, 0, 0, 0)) := by decide +kernel
theorem s_X11_isItem_67 {ca : Nat → List Value → tM → tO} {M : tM} {a0 a2 a3 a4 a5 a6 : Option Value} {x : Int32} {S : List Value} : rn ca C_X11_isItem 67 [a0, some (.int x), a2, a3, a4, a5, a6] S M = rn ca C_X11_isItem 68 [a0, some (.int x), a2, a3, a4, a5, a6] (.int x :: S) M := (rn_at k_X11_isItem_67).trans rfl
theorem k_X11_isItem_68 : lk 68 C_X11_isItem = some (.invokevirtual 159, (182, 1, 11, 637)) := by decide +kernel
theorem s_X11_isItem_68 {ca : Nat → List Value → tM → tO} {M : tM} {L : tL} {v1 : Value} {b : Nat} : rn ca C_X11_isItem 68 L [v1, .ref b] M = if clsO b = some 11 then rnk ca C_X11_isItem 71 L [] (ca m_X11_isFault [.ref b, v1] M) else none := (rn_at k_X11_isItem_68).trans rnx_ite
theorem k_X11_isItem_71 : lk 71 C_X11_isItem = some (.ireturn, (1, 0, 0, 0)) := by decide +kernel
theorem s_X11_isItem_71 {ca : Nat → List Value → tM → tO} {M : tM} {L : tL} {x : Int32} : rn ca C_X11_isItem 71 L [.int x] M = if x = iI 0 ∨ x = iI 1 then some (some (.int x), M) else none := (rn_at k_X11_isItem_71).trans rnx_ite
theorem k_X11_isItem_72 : lk 72 C_X11_isItem = some (.iload_n 2, (0, 0, 0, 0)) := by decide +kernel
theorem s_X11_isItem_72 {ca : Nat → List Value → tM → tO} {M : tM} {a0 a1 a3 a4 a5 a6 : Option Value} {x : Int32} {S : List Value} : rn ca C_X11_isItem 72 [a0, a1, some (.int x), a3, a4, a5, a6] S M = rn ca C_X11_isItem 73 [a0, a1, some (.int x), a3, a4, a5, a6] (.int x :: S) M := (rn_at k_X11_isItem_72).trans rfl
theorem k_X11_isItem_73 : lk 73 C_X11_isItem = some (.ifCond .ne 10, (83, 0, 0, 0)) := by decide +kernel
theorem s_X11_isItem_73 {ca : Nat → List Value → tM → tO} {M : tM} {L : tL} {x : Int32} {S : List Value} : rn ca C_X11_isItem 73 L (.int x :: S) M = if ¬ x = iI 0 then rn ca C_X11_isItem 83 L S M else rn ca C_X11_isItem 76 L S M := (rn_at k_X11_isItem_73).trans rnx_ite
theorem k_X11_isItem_76 : lk 76 C_X11_isItem = some (.aload_n 0, (0, 0, 0, 0)) := by decide +kernel
theorem s_X11_isItem_76 {ca : Nat → List Value → tM → tO} {M : tM} {a1 a2 a3 a4 a5 a6 : Option Value} {x : Nat} {S : List Value} : rn ca C_X11_isItem 76 [some (.ref x), a1, a2, a3, a4, a5, a6] S M = rn ca C_X11_isItem 77 [some (.ref x), a1, a2, a3, a4, a5, a6] (.ref x :: S) M := (rn_at k_X11_isItem_76).trans rfl
theorem k_X11_isItem_77 : lk 77 C_X11_isItem = some (.invokevirtual 91, (159, 0, 11, 360)) := by decide +kernel
theorem s_X11_isItem_77 {ca : Nat → List Value → tM → tO} {M : tM} {L : tL} {b : Nat} : rn ca C_X11_isItem 77 L [.ref b] M = if clsO b = some 11 then rnk ca C_X11_isItem 80 L [] (ca m_X11_addDesk [.ref b] M) else none := (rn_at k_X11_isItem_77).trans rnx_ite
theorem k_X11_isItem_80 : lk 80 C_X11_isItem = some (.pop, (0, 0, 0, 0)) := by decide +kernel
theorem s_X11_isItem_80 {ca : Nat → List Value → tM → tO} {M : tM} {L : tL} {x : Int32} {S : List Value} : rn ca C_X11_isItem 80 L (.int x :: S) M = rn ca C_X11_isItem 81 L S M := (rn_at k_X11_isItem_80).trans rfl
theorem k_X11_isItem_81 : lk 81 C_X11_isItem = some (.iconst 1, (0, 0, 0, 0)) := by decide +kernel
theorem s_X11_isItem_81 {ca : Nat → List Value → tM → tO} {M : tM} {L : tL} {S : List Value} : rn ca C_X11_isItem 81 L S M = rn ca C_X11_isItem 82 L (.int (iI 1) :: S) M := (rn_at k_X11_isItem_81).trans rfl
theorem k_X11_isItem_82 : lk 82 C_X11_isItem = some (.ireturn, (1, 0, 0, 0)) := by decide +kernel
theorem s_X11_isItem_82 {ca : Nat → List Value → tM → tO} {M : tM} {L : tL} {x : Int32} : rn ca C_X11_isItem 82 L [.int x] M = if x = iI 0 ∨ x = iI 1 then some (some (.int x), M) else none := (rn_at k_X11_isItem_82).trans rnx_ite
theorem k_X11_isItem_83 : lk 83 C_X11_isItem = some (.iload_n 2, (0, 0, 0, 0)) := by decide +kernel
theorem s_X11_isItem_83 {ca : Nat → List Value → tM → tO} {M : tM} {a0 a1 a3 a4 a5 a6 : Option Value} {x : Int32} {S : List Value} : rn ca C_X11_isItem 83 [a0, a1, some (.int x), a3, a4, a5, a6] S M = rn ca C_X11_isItem 84 [a0, a1, some (.int x), a3, a4, a5, a6] (.int x :: S) M := (rn_at k_X11_isItem_83).trans rfl
theorem k_X11_isItem_84 : lk 84 C_X11_isItem = some (.iconst 1, (0, 0, 0, 0)) := by decide +kernel
theorem s_X11_isItem_84 {ca : Nat → List Value → tM → tO} {M : tM} {L : tL} {S : List Value} : rn ca C_X11_isItem 84 L S M = rn ca C_X11_isItem 85 L (.int (iI 1) :: S) M := (rn_at k_X11_isItem_84).trans rfl
theorem k_X11_isItem_85 : lk 85 C_X11_isItem = some (.if_icmp .ne 115, (200, 0, 0, 0)) := by decide +kernel
theorem s_X11_isItem_85 {ca : Nat → List Value → tM → tO} {M : tM} {L : tL} {x y : Int32} {S : List Value} : rn ca C_X11_isItem 85 L (.int y :: .int x :: S) M = if ¬ x = y then rn ca C_X11_isItem 200 L S M else rn ca C_X11_isItem 88 L S M := (rn_at k_X11_isItem_85).trans rnx_ite
theorem k_X11_isItem_88 : lk 88 C_X11_isItem = some (.aload_n 0, (0, 0, 0, 0)) := by decide +kernel
theorem s_X11_isItem_88 {ca : Nat → List Value → tM → tO} {M : tM} {a1 a2 a3 a4 a5 a6 : Option Value} {x : Nat} {S : List Value} : rn ca C_X11_isItem 88 [some (.ref x), a1, a2, a3, a4, a5, a6] S M = rn ca C_X11_isItem 89 [some (.ref x), a1, a2, a3, a4, a5, a6] (.ref x :: S) M := (rn_at k_X11_isItem_88).trans rfl
theorem k_X11_isItem_89 : lk 89 C_X11_isItem = some (.iconst 0, (0, 0, 0, 0)) := by decide +kernel
theorem s_X11_isItem_89 {ca : Nat → List Value → tM → tO} {M : tM} {L : tL} {S : List Value} : rn ca C_X11_isItem 89 L S M = rn ca C_X11_isItem 90 L (.int (iI 0) :: S) M := (rn_at k_X11_isItem_89).trans rfl
theorem k_X11_isItem_90 : lk 90 C_X11_isItem = some (.aload_n 0, (0, 0, 0, 0)) := by decide +kernel
theorem s_X11_isItem_90 {ca : Nat → List Value → tM → tO} {M : tM} {a1 a2 a3 a4 a5 a6 : Option Value} {x : Nat} {S : List Value} : rn ca C_X11_isItem 90 [some (.ref x), a1, a2, a3, a4, a5, a6] S M = rn ca C_X11_isItem 91 [some (.ref x), a1, a2, a3, a4, a5, a6] (.ref x :: S) M := (rn_at k_X11_isItem_90).trans rfl
theorem k_X11_isItem_91 : lk 91 C_X11_isItem = some (.getfield 17, (11, 1, 0, 147)) := by decide +kernel
theorem s_X11_isItem_91 {ca : Nat → List Value → tM → tO} {M : tM} {L : tL} {b : Nat} {S : List Value} : rn ca C_X11_isItem 91 L (.ref b :: S) M = if clsO b = some 11 then rn ca C_X11_isItem 94 L (fv M b 1 :: S) M else none := (rn_at k_X11_isItem_91).trans rnx_ite
theorem k_X11_isItem_94 : lk 94 C_X11_isItem = some (.bipush 108, (0, 0, 0, 0)) := by decide +kernel
theorem s_X11_isItem_94 {ca : Nat → List Value → tM → tO} {M : tM} {L : tL} {S : List Value} : rn ca C_X11_isItem 94 L S M = rn ca C_X11_isItem 96 L (.int (iI 108) :: S) M := (rn_at k_X11_isItem_94).trans rfl
theorem k_X11_isItem_96 : lk 96 C_X11_isItem = some (.iaload, (0, 0, 0, 0)) := by decide +kernel
theorem s_X11_isItem_96 {ca : Nat → List Value → tM → tO} {M : tM} {L : tL} {a : Nat} {i : Int32} {S : List Value} : rn ca C_X11_isItem 96 L (.int i :: .ref a :: S) M = if (akind a = 0 ∨ akind a = 6 ∨ akind a = 7) ∧ inb i (alen M a) then rn ca C_X11_isItem 97 L (.int (M.1 a i.toInt.toNat) :: S) M else none := (rn_at k_X11_isItem_96).trans rnx_ite
theorem k_X11_isItem_97 : lk 97 C_X11_isItem = some (.iconst 1, (0, 0, 0, 0)) := by decide +kernel
theorem s_X11_isItem_97 {ca : Nat → List Value → tM → tO} {M : tM} {L : tL} {S : List Value} : rn ca C_X11_isItem 97 L S M = rn ca C_X11_isItem 98 L (.int (iI 1) :: S) M := (rn_at k_X11_isItem_97).trans rfl
theorem k_X11_isItem_98 : lk 98 C_X11_isItem = some (.isub, (0, 0, 0, 0)) := by decide +kernel
theorem s_X11_isItem_98 {ca : Nat → List Value → tM → tO} {M : tM} {L : tL} {x y : Int32} {S : List Value} : rn ca C_X11_isItem 98 L (.int y :: .int x :: S) M = rn ca C_X11_isItem 99 L (.int (x - y) :: S) M := (rn_at k_X11_isItem_98).trans rfl
theorem k_X11_isItem_99 : lk 99 C_X11_isItem = some (.iconst (-1), (0, 0, 0, 0)) := by decide +kernel
theorem s_X11_isItem_99 {ca : Nat → List Value → tM → tO} {M : tM} {L : tL} {S : List Value} : rn ca C_X11_isItem 99 L S M = rn ca C_X11_isItem 100 L (.int (iI (-1)) :: S) M := (rn_at k_X11_isItem_99).trans rfl
theorem k_X11_isItem_100 : lk 100 C_X11_isItem = some (.invokevirtual 179, (185, 3, 11, 641)) := by decide +kernel
theorem s_X11_isItem_100 {ca : Nat → List Value → tM → tO} {M : tM} {L : tL} {v1 v2 v3 : Value} {b : Nat} : rn ca C_X11_isItem 100 L [v3, v2, v1, .ref b] M = if clsO b = some 11 then rnk ca C_X11_isItem 103 L [] (ca m_X11_number [.ref b, v1, v2, v3] M) else none := (rn_at k_X11_isItem_100).trans rnx_ite
theorem k_X11_isItem_103 : lk 103 C_X11_isItem = some (.istore_n 3, (0, 0, 0, 0)) := by decide +kernel
theorem s_X11_isItem_103 {ca : Nat → List Value → tM → tO} {M : tM} {a0 a1 a2 a3 a4 a5 a6 : Option Value} {x : Int32} {S : List Value} : rn ca C_X11_isItem 103 [a0, a1, a2, a3, a4, a5, a6] (.int x :: S) M = rn ca C_X11_isItem 104 [a0, a1, a2, some (.int x), a4, a5, a6] S M := (rn_at k_X11_isItem_103).trans rfl
theorem k_X11_isItem_104 : lk 104 C_X11_isItem = some (.iload_n 3, (0, 0, 0, 0)) := by decide +kernel
theorem s_X11_isItem_104 {ca : Nat → List Value → tM → tO} {M : tM} {a0 a1 a2 a4 a5 a6 : Option Value} {x : Int32} {S : List Value} : rn ca C_X11_isItem 104 [a0, a1, a2, some (.int x), a4, a5, a6] S M = rn ca C_X11_isItem 105 [a0, a1, a2, some (.int x), a4, a5, a6] (.int x :: S) M := (rn_at k_X11_isItem_104).trans rfl
theorem k_X11_isItem_105 : lk 105 C_X11_isItem = some (.iconst (-1), (0, 0, 0, 0)) := by decide +kernel
theorem s_X11_isItem_105 {ca : Nat → List Value → tM → tO} {M : tM} {L : tL} {S : List Value} : rn ca C_X11_isItem 105 L S M = rn ca C_X11_isItem 106 L (.int (iI (-1)) :: S) M := (rn_at k_X11_isItem_105).trans rfl
theorem k_X11_isItem_106 : lk 106 C_X11_isItem = some (.if_icmp .ne 7, (113, 0, 0, 0)) := by decide +kernel
theorem s_X11_isItem_106 {ca : Nat → List Value → tM → tO} {M : tM} {L : tL} {x y : Int32} {S : List Value} : rn ca C_X11_isItem 106 L (.int y :: .int x :: S) M = if ¬ x = y then rn ca C_X11_isItem 113 L S M else rn ca C_X11_isItem 109 L S M := (rn_at k_X11_isItem_106).trans rnx_ite
theorem k_X11_isItem_109 : lk 109 C_X11_isItem = some (.iconst (-1), (0, 0, 0, 0)) := by decide +kernel
theorem s_X11_isItem_109 {ca : Nat → List Value → tM → tO} {M : tM} {L : tL} {S : List Value} : rn ca C_X11_isItem 109 L S M = rn ca C_X11_isItem 110 L (.int (iI (-1)) :: S) M := (rn_at k_X11_isItem_109).trans rfl
theorem k_X11_isItem_110 : lk 110 C_X11_isItem = some (.goto 18, (128, 0, 0, 0)) := by decide +kernel
theorem s_X11_isItem_110 {ca : Nat → List Value → tM → tO} {M : tM} {L : tL} {S : List Value} : rn ca C_X11_isItem 110 L S M = rn ca C_X11_isItem 128 L S M := (rn_at k_X11_isItem_110).trans rfl
theorem k_X11_isItem_113 : lk 113 C_X11_isItem = some (.aload_n 0, (0, 0, 0, 0)) := by decide +kernel
theorem s_X11_isItem_113 {ca : Nat → List Value → tM → tO} {M : tM} {a1 a2 a3 a4 a5 a6 : Option Value} {x : Nat} {S : List Value} : rn ca C_X11_isItem 113 [some (.ref x), a1, a2, a3, a4, a5, a6] S M = rn ca C_X11_isItem 114 [some (.ref x), a1, a2, a3, a4, a5, a6] (.ref x :: S) M := (rn_at k_X11_isItem_113).trans rfl
theorem k_X11_isItem_114 : lk 114 C_X11_isItem = some (.iconst 0, (0, 0, 0, 0)) := by decide +kernel
theorem s_X11_isItem_114 {ca : Nat → List Value → tM → tO} {M : tM} {L : tL} {S : List Value} : rn ca C_X11_isItem 114 L S M = rn ca C_X11_isItem 115 L (.int (iI 0) :: S) M := (rn_at k_X11_isItem_114).trans rfl
theorem k_X11_isItem_115 : lk 115 C_X11_isItem = some (.aload_n 0, (0, 0, 0, 0)) := by decide +kernel
theorem s_X11_isItem_115 {ca : Nat → List Value → tM → tO} {M : tM} {a1 a2 a3 a4 a5 a6 : Option Value} {x : Nat} {S : List Value} : rn ca C_X11_isItem 115 [some (.ref x), a1, a2, a3, a4, a5, a6] S M = rn ca C_X11_isItem 116 [some (.ref x), a1, a2, a3, a4, a5, a6] (.ref x :: S) M := (rn_at k_X11_isItem_115).trans rfl
theorem k_X11_isItem_116 : lk 116 C_X11_isItem = some (.getfield 17, (11, 1, 0, 147)) := by decide +kernel
theorem s_X11_isItem_116 {ca : Nat → List Value → tM → tO} {M : tM} {L : tL} {b : Nat} {S : List Value} : rn ca C_X11_isItem 116 L (.ref b :: S) M = if clsO b = some 11 then rn ca C_X11_isItem 119 L (fv M b 1 :: S) M else none := (rn_at k_X11_isItem_116).trans rnx_ite
theorem k_X11_isItem_119 : lk 119 C_X11_isItem = some (.bipush 108, (0, 0, 0, 0)) := by decide +kernel
theorem s_X11_isItem_119 {ca : Nat → List Value → tM → tO} {M : tM} {L : tL} {S : List Value} : rn ca C_X11_isItem 119 L S M = rn ca C_X11_isItem 121 L (.int (iI 108) :: S) M := (rn_at k_X11_isItem_119).trans rfl
theorem k_X11_isItem_121 : lk 121 C_X11_isItem = some (.iaload, (0, 0, 0, 0)) := by decide +kernel
theorem s_X11_isItem_121 {ca : Nat → List Value → tM → tO} {M : tM} {L : tL} {a : Nat} {i : Int32} {S : List Value} : rn ca C_X11_isItem 121 L (.int i :: .ref a :: S) M = if (akind a = 0 ∨ akind a = 6 ∨ akind a = 7) ∧ inb i (alen M a) then rn ca C_X11_isItem 122 L (.int (M.1 a i.toInt.toNat) :: S) M else none := (rn_at k_X11_isItem_121).trans rnx_ite
theorem k_X11_isItem_122 : lk 122 C_X11_isItem = some (.iconst 1, (0, 0, 0, 0)) := by decide +kernel
theorem s_X11_isItem_122 {ca : Nat → List Value → tM → tO} {M : tM} {L : tL} {S : List Value} : rn ca C_X11_isItem 122 L S M = rn ca C_X11_isItem 123 L (.int (iI 1) :: S) M := (rn_at k_X11_isItem_122).trans rfl
theorem k_X11_isItem_123 : lk 123 C_X11_isItem = some (.isub, (0, 0, 0, 0)) := by decide +kernel
theorem s_X11_isItem_123 {ca : Nat → List Value → tM → tO} {M : tM} {L : tL} {x y : Int32} {S : List Value} : rn ca C_X11_isItem 123 L (.int y :: .int x :: S) M = rn ca C_X11_isItem 124 L (.int (x - y) :: S) M := (rn_at k_X11_isItem_123).trans rfl
theorem k_X11_isItem_124 : lk 124 C_X11_isItem = some (.iload_n 3, (0, 0, 0, 0)) := by decide +kernel
theorem s_X11_isItem_124 {ca : Nat → List Value → tM → tO} {M : tM} {a0 a1 a2 a4 a5 a6 : Option Value} {x : Int32} {S : List Value} : rn ca C_X11_isItem 124 [a0, a1, a2, some (.int x), a4, a5, a6] S M = rn ca C_X11_isItem 125 [a0, a1, a2, some (.int x), a4, a5, a6] (.int x :: S) M := (rn_at k_X11_isItem_124).trans rfl
theorem k_X11_isItem_125 : lk 125 C_X11_isItem = some (.invokevirtual 179, (185, 3, 11, 641)) := by decide +kernel
theorem s_X11_isItem_125 {ca : Nat → List Value → tM → tO} {M : tM} {L : tL} {v1 v2 v3 : Value} {b : Nat} : rn ca C_X11_isItem 125 L [v3, v2, v1, .ref b] M = if clsO b = some 11 then rnk ca C_X11_isItem 128 L [] (ca m_X11_number [.ref b, v1, v2, v3] M) else none := (rn_at k_X11_isItem_125).trans rnx_ite
theorem k_X11_isItem_128 : lk 128 C_X11_isItem = some (.istore 4, (0, 0, 0, 0)) := by decide +kernel
theorem s_X11_isItem_128 {ca : Nat → List Value → tM → tO} {M : tM} {a0 a1 a2 a3 a4 a5 a6 : Option Value} {x : Int32} {S : List Value} : rn ca C_X11_isItem 128 [a0, a1, a2, a3, a4, a5, a6] (.int x :: S) M = rn ca C_X11_isItem 130 [a0, a1, a2, a3, some (.int x), a5, a6] S M := (rn_at k_X11_isItem_128).trans rfl
theorem k_X11_isItem_130 : lk 130 C_X11_isItem = some (.iload 4, (0, 0, 0, 0)) := by decide +kernel
theorem s_X11_isItem_130 {ca : Nat → List Value → tM → tO} {M : tM} {a0 a1 a2 a3 a5 a6 : Option Value} {x : Int32} {S : List Value} : rn ca C_X11_isItem 130 [a0, a1, a2, a3, some (.int x), a5, a6] S M = rn ca C_X11_isItem 132 [a0, a1, a2, a3, some (.int x), a5, a6] (.int x :: S) M := (rn_at k_X11_isItem_130).trans rfl
theorem k_X11_isItem_132 : lk 132 C_X11_isItem = some (.iconst (-1), (0, 0, 0, 0)) := by decide +kernel
theorem s_X11_isItem_132 {ca : Nat → List Value → tM → tO} {M : tM} {L : tL} {S : List Value} : rn ca C_X11_isItem 132 L S M = rn ca C_X11_isItem 133 L (.int (iI (-1)) :: S) M := (rn_at k_X11_isItem_132).trans rfl
theorem k_X11_isItem_133 : lk 133 C_X11_isItem = some (.if_icmp .ne 7, (140, 0, 0, 0)) := by decide +kernel
theorem s_X11_isItem_133 {ca : Nat → List Value → tM → tO} {M : tM} {L : tL} {x y : Int32} {S : List Value} : rn ca C_X11_isItem 133 L (.int y :: .int x :: S) M = if ¬ x = y then rn ca C_X11_isItem 140 L S M else rn ca C_X11_isItem 136 L S M := (rn_at k_X11_isItem_133).trans rnx_ite
theorem k_X11_isItem_136 : lk 136 C_X11_isItem = some (.iconst (-1), (0, 0, 0, 0)) := by decide +kernel
theorem s_X11_isItem_136 {ca : Nat → List Value → tM → tO} {M : tM} {L : tL} {S : List Value} : rn ca C_X11_isItem 136 L S M = rn ca C_X11_isItem 137 L (.int (iI (-1)) :: S) M := (rn_at k_X11_isItem_136).trans rfl
theorem k_X11_isItem_137 : lk 137 C_X11_isItem = some (.goto 11, (148, 0, 0, 0)) := by decide +kernel
theorem s_X11_isItem_137 {ca : Nat → List Value → tM → tO} {M : tM} {L : tL} {S : List Value} : rn ca C_X11_isItem 137 L S M = rn ca C_X11_isItem 148 L S M := (rn_at k_X11_isItem_137).trans rfl
theorem k_X11_isItem_140 : lk 140 C_X11_isItem = some (.aload_n 0, (0, 0, 0, 0)) := by decide +kernel
theorem s_X11_isItem_140 {ca : Nat → List Value → tM → tO} {M : tM} {a1 a2 a3 a4 a5 a6 : Option Value} {x : Nat} {S : List Value} : rn ca C_X11_isItem 140 [some (.ref x), a1, a2, a3, a4, a5, a6] S M = rn ca C_X11_isItem 141 [some (.ref x), a1, a2, a3, a4, a5, a6] (.ref x :: S) M := (rn_at k_X11_isItem_140).trans rfl
theorem k_X11_isItem_141 : lk 141 C_X11_isItem = some (.iconst 1, (0, 0, 0, 0)) := by decide +kernel
theorem s_X11_isItem_141 {ca : Nat → List Value → tM → tO} {M : tM} {L : tL} {S : List Value} : rn ca C_X11_isItem 141 L S M = rn ca C_X11_isItem 142 L (.int (iI 1) :: S) M := (rn_at k_X11_isItem_141).trans rfl
theorem k_X11_isItem_142 : lk 142 C_X11_isItem = some (.bipush 9, (0, 0, 0, 0)) := by decide +kernel
theorem s_X11_isItem_142 {ca : Nat → List Value → tM → tO} {M : tM} {L : tL} {S : List Value} : rn ca C_X11_isItem 142 L S M = rn ca C_X11_isItem 144 L (.int (iI 9) :: S) M := (rn_at k_X11_isItem_142).trans rfl
theorem k_X11_isItem_144 : lk 144 C_X11_isItem = some (.iconst (-1), (0, 0, 0, 0)) := by decide +kernel
theorem s_X11_isItem_144 {ca : Nat → List Value → tM → tO} {M : tM} {L : tL} {S : List Value} : rn ca C_X11_isItem 144 L S M = rn ca C_X11_isItem 145 L (.int (iI (-1)) :: S) M := (rn_at k_X11_isItem_144).trans rfl
theorem k_X11_isItem_145 : lk 145 C_X11_isItem = some (.invokevirtual 179, (185, 3, 11, 641)) := by decide +kernel
theorem s_X11_isItem_145 {ca : Nat → List Value → tM → tO} {M : tM} {L : tL} {v1 v2 v3 : Value} {b : Nat} : rn ca C_X11_isItem 145 L [v3, v2, v1, .ref b] M = if clsO b = some 11 then rnk ca C_X11_isItem 148 L [] (ca m_X11_number [.ref b, v1, v2, v3] M) else none := (rn_at k_X11_isItem_145).trans rnx_ite
theorem k_X11_isItem_148 : lk 148 C_X11_isItem = some (.istore 5, (0, 0, 0, 0)) := by decide +kernel
theorem s_X11_isItem_148 {ca : Nat → List Value → tM → tO} {M : tM} {a0 a1 a2 a3 a4 a5 a6 : Option Value} {x : Int32} {S : List Value} : rn ca C_X11_isItem 148 [a0, a1, a2, a3, a4, a5, a6] (.int x :: S) M = rn ca C_X11_isItem 150 [a0, a1, a2, a3, a4, some (.int x), a6] S M := (rn_at k_X11_isItem_148).trans rfl
theorem k_X11_isItem_150 : lk 150 C_X11_isItem = some (.iload 5, (0, 0, 0, 0)) := by decide +kernel
theorem s_X11_isItem_150 {ca : Nat → List Value → tM → tO} {M : tM} {a0 a1 a2 a3 a4 a6 : Option Value} {x : Int32} {S : List Value} : rn ca C_X11_isItem 150 [a0, a1, a2, a3, a4, some (.int x), a6] S M = rn ca C_X11_isItem 152 [a0, a1, a2, a3, a4, some (.int x), a6] (.int x :: S) M := (rn_at k_X11_isItem_150).trans rfl
theorem k_X11_isItem_152 : lk 152 C_X11_isItem = some (.iconst (-1), (0, 0, 0, 0)) := by decide +kernel
theorem s_X11_isItem_152 {ca : Nat → List Value → tM → tO} {M : tM} {L : tL} {S : List Value} : rn ca C_X11_isItem 152 L S M = rn ca C_X11_isItem 153 L (.int (iI (-1)) :: S) M := (rn_at k_X11_isItem_152).trans rfl
theorem k_X11_isItem_153 : lk 153 C_X11_isItem = some (.if_icmp .ne 7, (160, 0, 0, 0)) := by decide +kernel
theorem s_X11_isItem_153 {ca : Nat → List Value → tM → tO} {M : tM} {L : tL} {x y : Int32} {S : List Value} : rn ca C_X11_isItem 153 L (.int y :: .int x :: S) M = if ¬ x = y then rn ca C_X11_isItem 160 L S M else rn ca C_X11_isItem 156 L S M := (rn_at k_X11_isItem_153).trans rnx_ite
theorem k_X11_isItem_156 : lk 156 C_X11_isItem = some (.iconst (-1), (0, 0, 0, 0)) := by decide +kernel
theorem s_X11_isItem_156 {ca : Nat → List Value → tM → tO} {M : tM} {L : tL} {S : List Value} : rn ca C_X11_isItem 156 L S M = rn ca C_X11_isItem 157 L (.int (iI (-1)) :: S) M := (rn_at k_X11_isItem_156).trans rfl
theorem k_X11_isItem_157 : lk 157 C_X11_isItem = some (.goto 11, (168, 0, 0, 0)) := by decide +kernel
theorem s_X11_isItem_157 {ca : Nat → List Value → tM → tO} {M : tM} {L : tL} {S : List Value} : rn ca C_X11_isItem 157 L S M = rn ca C_X11_isItem 168 L S M := (rn_at k_X11_isItem_157).trans rfl
theorem k_X11_isItem_160 : lk 160 C_X11_isItem = some (.aload_n 0, (0, 0, 0, 0)) := by decide +kernel
theorem s_X11_isItem_160 {ca : Nat → List Value → tM → tO} {M : tM} {a1 a2 a3 a4 a5 a6 : Option Value} {x : Nat} {S : List Value} : rn ca C_X11_isItem 160 [some (.ref x), a1, a2, a3, a4, a5, a6] S M = rn ca C_X11_isItem 161 [some (.ref x), a1, a2, a3, a4, a5, a6] (.ref x :: S) M := (rn_at k_X11_isItem_160).trans rfl
theorem k_X11_isItem_161 : lk 161 C_X11_isItem = some (.iconst 1, (0, 0, 0, 0)) := by decide +kernel
theorem s_X11_isItem_161 {ca : Nat → List Value → tM → tO} {M : tM} {L : tL} {S : List Value} : rn ca C_X11_isItem 161 L S M = rn ca C_X11_isItem 162 L (.int (iI 1) :: S) M := (rn_at k_X11_isItem_161).trans rfl
theorem k_X11_isItem_162 : lk 162 C_X11_isItem = some (.bipush 9, (0, 0, 0, 0)) := by decide +kernel
theorem s_X11_isItem_162 {ca : Nat → List Value → tM → tO} {M : tM} {L : tL} {S : List Value} : rn ca C_X11_isItem 162 L S M = rn ca C_X11_isItem 164 L (.int (iI 9) :: S) M := (rn_at k_X11_isItem_162).trans rfl
theorem k_X11_isItem_164 : lk 164 C_X11_isItem = some (.iconst (-1), (0, 0, 0, 0)) := by decide +kernel
theorem s_X11_isItem_164 {ca : Nat → List Value → tM → tO} {M : tM} {L : tL} {S : List Value} : rn ca C_X11_isItem 164 L S M = rn ca C_X11_isItem 165 L (.int (iI (-1)) :: S) M := (rn_at k_X11_isItem_164).trans rfl
theorem k_X11_isItem_165 : lk 165 C_X11_isItem = some (.invokevirtual 179, (185, 3, 11, 641)) := by decide +kernel
theorem s_X11_isItem_165 {ca : Nat → List Value → tM → tO} {M : tM} {L : tL} {v1 v2 v3 : Value} {b : Nat} : rn ca C_X11_isItem 165 L [v3, v2, v1, .ref b] M = if clsO b = some 11 then rnk ca C_X11_isItem 168 L [] (ca m_X11_number [.ref b, v1, v2, v3] M) else none := (rn_at k_X11_isItem_165).trans rnx_ite
theorem k_X11_isItem_168 : lk 168 C_X11_isItem = some (.istore 6, (0, 0, 0, 0)) := by decide +kernel
theorem s_X11_isItem_168 {ca : Nat → List Value → tM → tO} {M : tM} {a0 a1 a2 a3 a4 a5 a6 : Option Value} {x : Int32} {S : List Value} : rn ca C_X11_isItem 168 [a0, a1, a2, a3, a4, a5, a6] (.int x :: S) M = rn ca C_X11_isItem 170 [a0, a1, a2, a3, a4, a5, some (.int x)] S M := (rn_at k_X11_isItem_168).trans rfl
theorem k_X11_isItem_170 : lk 170 C_X11_isItem = some (.iload 6, (0, 0, 0, 0)) := by decide +kernel
theorem s_X11_isItem_170 {ca : Nat → List Value → tM → tO} {M : tM} {a0 a1 a2 a3 a4 a5 : Option Value} {x : Int32} {S : List Value} : rn ca C_X11_isItem 170 [a0, a1, a2, a3, a4, a5, some (.int x)] S M = rn ca C_X11_isItem 172 [a0, a1, a2, a3, a4, a5, some (.int x)] (.int x :: S) M := (rn_at k_X11_isItem_170).trans rfl
theorem k_X11_isItem_172 : lk 172 C_X11_isItem = some (.iconst (-1), (0, 0, 0, 0)) := by decide +kernel
theorem s_X11_isItem_172 {ca : Nat → List Value → tM → tO} {M : tM} {L : tL} {S : List Value} : rn ca C_X11_isItem 172 L S M = rn ca C_X11_isItem 173 L (.int (iI (-1)) :: S) M := (rn_at k_X11_isItem_172).trans rfl
theorem k_X11_isItem_173 : lk 173 C_X11_isItem = some (.if_icmp .eq 15, (188, 0, 0, 0)) := by decide +kernel
theorem s_X11_isItem_173 {ca : Nat → List Value → tM → tO} {M : tM} {L : tL} {x y : Int32} {S : List Value} : rn ca C_X11_isItem 173 L (.int y :: .int x :: S) M = if x = y then rn ca C_X11_isItem 188 L S M else rn ca C_X11_isItem 176 L S M := (rn_at k_X11_isItem_173).trans rnx_ite
theorem k_X11_isItem_176 : lk 176 C_X11_isItem = some (.aload_n 0, (0, 0, 0, 0)) := by decide +kernel
theorem s_X11_isItem_176 {ca : Nat → List Value → tM → tO} {M : tM} {a1 a2 a3 a4 a5 a6 : Option Value} {x : Nat} {S : List Value} : rn ca C_X11_isItem 176 [some (.ref x), a1, a2, a3, a4, a5, a6] S M = rn ca C_X11_isItem 177 [some (.ref x), a1, a2, a3, a4, a5, a6] (.ref x :: S) M := (rn_at k_X11_isItem_176).trans rfl
theorem k_X11_isItem_177 : lk 177 C_X11_isItem = some (.iload_n 3, (0, 0, 0, 0)) := by decide +kernel
theorem s_X11_isItem_177 {ca : Nat → List Value → tM → tO} {M : tM} {a0 a1 a2 a4 a5 a6 : Option Value} {x : Int32} {S : List Value} : rn ca C_X11_isItem 177 [a0, a1, a2, some (.int x), a4, a5, a6] S M = rn ca C_X11_isItem 178 [a0, a1, a2, some (.int x), a4, a5, a6] (.int x :: S) M := (rn_at k_X11_isItem_177).trans rfl
theorem k_X11_isItem_178 : lk 178 C_X11_isItem = some (.iload 4, (0, 0, 0, 0)) := by decide +kernel
theorem s_X11_isItem_178 {ca : Nat → List Value → tM → tO} {M : tM} {a0 a1 a2 a3 a5 a6 : Option Value} {x : Int32} {S : List Value} : rn ca C_X11_isItem 178 [a0, a1, a2, a3, some (.int x), a5, a6] S M = rn ca C_X11_isItem 180 [a0, a1, a2, a3, some (.int x), a5, a6] (.int x :: S) M := (rn_at k_X11_isItem_178).trans rfl
theorem k_X11_isItem_180 : lk 180 C_X11_isItem = some (.iload 5, (0, 0, 0, 0)) := by decide +kernel
theorem s_X11_isItem_180 {ca : Nat → List Value → tM → tO} {M : tM} {a0 a1 a2 a3 a4 a6 : Option Value} {x : Int32} {S : List Value} : rn ca C_X11_isItem 180 [a0, a1, a2, a3, a4, some (.int x), a6] S M = rn ca C_X11_isItem 182 [a0, a1, a2, a3, a4, some (.int x), a6] (.int x :: S) M := (rn_at k_X11_isItem_180).trans rfl
theorem k_X11_isItem_182 : lk 182 C_X11_isItem = some (.iload 6, (0, 0, 0, 0)) := by decide +kernel
theorem s_X11_isItem_182 {ca : Nat → List Value → tM → tO} {M : tM} {a0 a1 a2 a3 a4 a5 : Option Value} {x : Int32} {S : List Value} : rn ca C_X11_isItem 182 [a0, a1, a2, a3, a4, a5, some (.int x)] S M = rn ca C_X11_isItem 184 [a0, a1, a2, a3, a4, a5, some (.int x)] (.int x :: S) M := (rn_at k_X11_isItem_182).trans rfl
theorem k_X11_isItem_184 : lk 184 C_X11_isItem = some (.invokevirtual 101, (160, 4, 11, 401)) := by decide +kernel
theorem s_X11_isItem_184 {ca : Nat → List Value → tM → tO} {M : tM} {L : tL} {v1 v2 v3 v4 : Value} {b : Nat} : rn ca C_X11_isItem 184 L [v4, v3, v2, v1, .ref b] M = if clsO b = some 11 then rnk ca C_X11_isItem 187 L [] (ca m_X11_addTube [.ref b, v1, v2, v3, v4] M) else none := (rn_at k_X11_isItem_184).trans rnx_ite
theorem k_X11_isItem_187 : lk 187 C_X11_isItem = some (.pop, (0, 0, 0, 0)) := by decide +kernel
theorem s_X11_isItem_187 {ca : Nat → List Value → tM → tO} {M : tM} {L : tL} {x : Int32} {S : List Value} : rn ca C_X11_isItem 187 L (.int x :: S) M = rn ca C_X11_isItem 188 L S M := (rn_at k_X11_isItem_187).trans rfl
theorem k_X11_isItem_188 : lk 188 C_X11_isItem = some (.iload 6, (0, 0, 0, 0)) := by decide +kernel
theorem s_X11_isItem_188 {ca : Nat → List Value → tM → tO} {M : tM} {a0 a1 a2 a3 a4 a5 : Option Value} {x : Int32} {S : List Value} : rn ca C_X11_isItem 188 [a0, a1, a2, a3, a4, a5, some (.int x)] S M = rn ca C_X11_isItem 190 [a0, a1, a2, a3, a4, a5, some (.int x)] (.int x :: S) M := (rn_at k_X11_isItem_188).trans rfl
theorem k_X11_isItem_190 : lk 190 C_X11_isItem = some (.iconst (-1), (0, 0, 0, 0)) := by decide +kernel
theorem s_X11_isItem_190 {ca : Nat → List Value → tM → tO} {M : tM} {L : tL} {S : List Value} : rn ca C_X11_isItem 190 L S M = rn ca C_X11_isItem 191 L (.int (iI (-1)) :: S) M := (rn_at k_X11_isItem_190).trans rfl
theorem k_X11_isItem_191 : lk 191 C_X11_isItem = some (.if_icmp .eq 7, (198, 0, 0, 0)) := by decide +kernel
theorem s_X11_isItem_191 {ca : Nat → List Value → tM → tO} {M : tM} {L : tL} {x y : Int32} {S : List Value} : rn ca C_X11_isItem 191 L (.int y :: .int x :: S) M = if x = y then rn ca C_X11_isItem 198 L S M else rn ca C_X11_isItem 194 L S M := (rn_at k_X11_isItem_191).trans rnx_ite
theorem k_X11_isItem_194 : lk 194 C_X11_isItem = some (.iconst 1, (0, 0, 0, 0)) := by decide +kernel
theorem s_X11_isItem_194 {ca : Nat → List Value → tM → tO} {M : tM} {L : tL} {S : List Value} : rn ca C_X11_isItem 194 L S M = rn ca C_X11_isItem 195 L (.int (iI 1) :: S) M := (rn_at k_X11_isItem_194).trans rfl
theorem k_X11_isItem_195 : lk 195 C_X11_isItem = some (.goto 4, (199, 0, 0, 0)) := by decide +kernel
theorem s_X11_isItem_195 {ca : Nat → List Value → tM → tO} {M : tM} {L : tL} {S : List Value} : rn ca C_X11_isItem 195 L S M = rn ca C_X11_isItem 199 L S M := (rn_at k_X11_isItem_195).trans rfl
theorem k_X11_isItem_198 : lk 198 C_X11_isItem = some (.iconst 0, (0, 0, 0, 0)) := by decide +kernel
theorem s_X11_isItem_198 {ca : Nat → List Value → tM → tO} {M : tM} {L : tL} {S : List Value} : rn ca C_X11_isItem 198 L S M = rn ca C_X11_isItem 199 L (.int (iI 0) :: S) M := (rn_at k_X11_isItem_198).trans rfl
theorem k_X11_isItem_199 : lk 199 C_X11_isItem = some (.ireturn, (1, 0, 0, 0)) := by decide +kernel
theorem s_X11_isItem_199 {ca : Nat → List Value → tM → tO} {M : tM} {L : tL} {x : Int32} : rn ca C_X11_isItem 199 L [.int x] M = if x = iI 0 ∨ x = iI 1 then some (some (.int x), M) else none := (rn_at k_X11_isItem_199).trans rnx_ite
theorem k_X11_isItem_200 : lk 200 C_X11_isItem = some (.iload_n 2, (0, 0, 0, 0)) := by decide +kernel
theorem s_X11_isItem_200 {ca : Nat → List Value → tM → tO} {M : tM} {a0 a1 a3 a4 a5 a6 : Option Value} {x : Int32} {S : List Value} : rn ca C_X11_isItem 200 [a0, a1, some (.int x), a3, a4, a5, a6] S M = rn ca C_X11_isItem 201 [a0, a1, some (.int x), a3, a4, a5, a6] (.int x :: S) M := (rn_at k_X11_isItem_200).trans rfl
theorem k_X11_isItem_201 : lk 201 C_X11_isItem = some (.iconst 2, (0, 0, 0, 0)) := by decide +kernel
theorem s_X11_isItem_201 {ca : Nat → List Value → tM → tO} {M : tM} {L : tL} {S : List Value} : rn ca C_X11_isItem 201 L S M = rn ca C_X11_isItem 202 L (.int (iI 2) :: S) M := (rn_at k_X11_isItem_201).trans rfl
theorem k_X11_isItem_202 : lk 202 C_X11_isItem = some (.if_icmp .ne 108, (310, 0, 0, 0)) := by decide +kernel
theorem s_X11_isItem_202 {ca : Nat → List Value → tM → tO} {M : tM} {L : tL} {x y : Int32} {S : List Value} : rn ca C_X11_isItem 202 L (.int y :: .int x :: S) M = if ¬ x = y then rn ca C_X11_isItem 310 L S M else rn ca C_X11_isItem 205 L S M := (rn_at k_X11_isItem_202).trans rnx_ite
theorem k_X11_isItem_205 : lk 205 C_X11_isItem = some (.aload_n 0, (0, 0, 0, 0)) := by decide +kernel
theorem s_X11_isItem_205 {ca : Nat → List Value → tM → tO} {M : tM} {a1 a2 a3 a4 a5 a6 : Option Value} {x : Nat} {S : List Value} : rn ca C_X11_isItem 205 [some (.ref x), a1, a2, a3, a4, a5, a6] S M = rn ca C_X11_isItem 206 [some (.ref x), a1, a2, a3, a4, a5, a6] (.ref x :: S) M := (rn_at k_X11_isItem_205).trans rfl
theorem k_X11_isItem_206 : lk 206 C_X11_isItem = some (.iconst 0, (0, 0, 0, 0)) := by decide +kernel
theorem s_X11_isItem_206 {ca : Nat → List Value → tM → tO} {M : tM} {L : tL} {S : List Value} : rn ca C_X11_isItem 206 L S M = rn ca C_X11_isItem 207 L (.int (iI 0) :: S) M := (rn_at k_X11_isItem_206).trans rfl
theorem k_X11_isItem_207 : lk 207 C_X11_isItem = some (.bipush 6, (0, 0, 0, 0)) := by decide +kernel
theorem s_X11_isItem_207 {ca : Nat → List Value → tM → tO} {M : tM} {L : tL} {S : List Value} : rn ca C_X11_isItem 207 L S M = rn ca C_X11_isItem 209 L (.int (iI 6) :: S) M := (rn_at k_X11_isItem_207).trans rfl
theorem k_X11_isItem_209 : lk 209 C_X11_isItem = some (.iconst (-1), (0, 0, 0, 0)) := by decide +kernel
theorem s_X11_isItem_209 {ca : Nat → List Value → tM → tO} {M : tM} {L : tL} {S : List Value} : rn ca C_X11_isItem 209 L S M = rn ca C_X11_isItem 210 L (.int (iI (-1)) :: S) M := (rn_at k_X11_isItem_209).trans rfl
theorem k_X11_isItem_210 : lk 210 C_X11_isItem = some (.invokevirtual 179, (185, 3, 11, 641)) := by decide +kernel
theorem s_X11_isItem_210 {ca : Nat → List Value → tM → tO} {M : tM} {L : tL} {v1 v2 v3 : Value} {b : Nat} : rn ca C_X11_isItem 210 L [v3, v2, v1, .ref b] M = if clsO b = some 11 then rnk ca C_X11_isItem 213 L [] (ca m_X11_number [.ref b, v1, v2, v3] M) else none := (rn_at k_X11_isItem_210).trans rnx_ite
theorem k_X11_isItem_213 : lk 213 C_X11_isItem = some (.istore_n 3, (0, 0, 0, 0)) := by decide +kernel
theorem s_X11_isItem_213 {ca : Nat → List Value → tM → tO} {M : tM} {a0 a1 a2 a3 a4 a5 a6 : Option Value} {x : Int32} {S : List Value} : rn ca C_X11_isItem 213 [a0, a1, a2, a3, a4, a5, a6] (.int x :: S) M = rn ca C_X11_isItem 214 [a0, a1, a2, some (.int x), a4, a5, a6] S M := (rn_at k_X11_isItem_213).trans rfl
theorem k_X11_isItem_214 : lk 214 C_X11_isItem = some (.iload_n 3, (0, 0, 0, 0)) := by decide +kernel
theorem s_X11_isItem_214 {ca : Nat → List Value → tM → tO} {M : tM} {a0 a1 a2 a4 a5 a6 : Option Value} {x : Int32} {S : List Value} : rn ca C_X11_isItem 214 [a0, a1, a2, some (.int x), a4, a5, a6] S M = rn ca C_X11_isItem 215 [a0, a1, a2, some (.int x), a4, a5, a6] (.int x :: S) M := (rn_at k_X11_isItem_214).trans rfl
theorem k_X11_isItem_215 : lk 215 C_X11_isItem = some (.iconst (-1), (0, 0, 0, 0)) := by decide +kernel
theorem s_X11_isItem_215 {ca : Nat → List Value → tM → tO} {M : tM} {L : tL} {S : List Value} : rn ca C_X11_isItem 215 L S M = rn ca C_X11_isItem 216 L (.int (iI (-1)) :: S) M := (rn_at k_X11_isItem_215).trans rfl
theorem k_X11_isItem_216 : lk 216 C_X11_isItem = some (.if_icmp .ne 7, (223, 0, 0, 0)) := by decide +kernel
theorem s_X11_isItem_216 {ca : Nat → List Value → tM → tO} {M : tM} {L : tL} {x y : Int32} {S : List Value} : rn ca C_X11_isItem 216 L (.int y :: .int x :: S) M = if ¬ x = y then rn ca C_X11_isItem 223 L S M else rn ca C_X11_isItem 219 L S M := (rn_at k_X11_isItem_216).trans rnx_ite
theorem k_X11_isItem_219 : lk 219 C_X11_isItem = some (.iconst (-1), (0, 0, 0, 0)) := by decide +kernel
theorem s_X11_isItem_219 {ca : Nat → List Value → tM → tO} {M : tM} {L : tL} {S : List Value} : rn ca C_X11_isItem 219 L S M = rn ca C_X11_isItem 220 L (.int (iI (-1)) :: S) M := (rn_at k_X11_isItem_219).trans rfl
theorem k_X11_isItem_220 : lk 220 C_X11_isItem = some (.goto 11, (231, 0, 0, 0)) := by decide +kernel
theorem s_X11_isItem_220 {ca : Nat → List Value → tM → tO} {M : tM} {L : tL} {S : List Value} : rn ca C_X11_isItem 220 L S M = rn ca C_X11_isItem 231 L S M := (rn_at k_X11_isItem_220).trans rfl
theorem k_X11_isItem_223 : lk 223 C_X11_isItem = some (.aload_n 0, (0, 0, 0, 0)) := by decide +kernel
theorem s_X11_isItem_223 {ca : Nat → List Value → tM → tO} {M : tM} {a1 a2 a3 a4 a5 a6 : Option Value} {x : Nat} {S : List Value} : rn ca C_X11_isItem 223 [some (.ref x), a1, a2, a3, a4, a5, a6] S M = rn ca C_X11_isItem 224 [some (.ref x), a1, a2, a3, a4, a5, a6] (.ref x :: S) M := (rn_at k_X11_isItem_223).trans rfl
theorem k_X11_isItem_224 : lk 224 C_X11_isItem = some (.iconst 0, (0, 0, 0, 0)) := by decide +kernel
theorem s_X11_isItem_224 {ca : Nat → List Value → tM → tO} {M : tM} {L : tL} {S : List Value} : rn ca C_X11_isItem 224 L S M = rn ca C_X11_isItem 225 L (.int (iI 0) :: S) M := (rn_at k_X11_isItem_224).trans rfl
theorem k_X11_isItem_225 : lk 225 C_X11_isItem = some (.bipush 9, (0, 0, 0, 0)) := by decide +kernel
theorem s_X11_isItem_225 {ca : Nat → List Value → tM → tO} {M : tM} {L : tL} {S : List Value} : rn ca C_X11_isItem 225 L S M = rn ca C_X11_isItem 227 L (.int (iI 9) :: S) M := (rn_at k_X11_isItem_225).trans rfl
theorem k_X11_isItem_227 : lk 227 C_X11_isItem = some (.iconst (-1), (0, 0, 0, 0)) := by decide +kernel
theorem s_X11_isItem_227 {ca : Nat → List Value → tM → tO} {M : tM} {L : tL} {S : List Value} : rn ca C_X11_isItem 227 L S M = rn ca C_X11_isItem 228 L (.int (iI (-1)) :: S) M := (rn_at k_X11_isItem_227).trans rfl
theorem k_X11_isItem_228 : lk 228 C_X11_isItem = some (.invokevirtual 179, (185, 3, 11, 641)) := by decide +kernel
theorem s_X11_isItem_228 {ca : Nat → List Value → tM → tO} {M : tM} {L : tL} {v1 v2 v3 : Value} {b : Nat} : rn ca C_X11_isItem 228 L [v3, v2, v1, .ref b] M = if clsO b = some 11 then rnk ca C_X11_isItem 231 L [] (ca m_X11_number [.ref b, v1, v2, v3] M) else none := (rn_at k_X11_isItem_228).trans rnx_ite
theorem k_X11_isItem_231 : lk 231 C_X11_isItem = some (.istore 4, (0, 0, 0, 0)) := by decide +kernel
theorem s_X11_isItem_231 {ca : Nat → List Value → tM → tO} {M : tM} {a0 a1 a2 a3 a4 a5 a6 : Option Value} {x : Int32} {S : List Value} : rn ca C_X11_isItem 231 [a0, a1, a2, a3, a4, a5, a6] (.int x :: S) M = rn ca C_X11_isItem 233 [a0, a1, a2, a3, some (.int x), a5, a6] S M := (rn_at k_X11_isItem_231).trans rfl
theorem k_X11_isItem_233 : lk 233 C_X11_isItem = some (.iload 4, (0, 0, 0, 0)) := by decide +kernel
theorem s_X11_isItem_233 {ca : Nat → List Value → tM → tO} {M : tM} {a0 a1 a2 a3 a5 a6 : Option Value} {x : Int32} {S : List Value} : rn ca C_X11_isItem 233 [a0, a1, a2, a3, some (.int x), a5, a6] S M = rn ca C_X11_isItem 235 [a0, a1, a2, a3, some (.int x), a5, a6] (.int x :: S) M := (rn_at k_X11_isItem_233).trans rfl
theorem k_X11_isItem_235 : lk 235 C_X11_isItem = some (.iconst (-1), (0, 0, 0, 0)) := by decide +kernel
theorem s_X11_isItem_235 {ca : Nat → List Value → tM → tO} {M : tM} {L : tL} {S : List Value} : rn ca C_X11_isItem 235 L S M = rn ca C_X11_isItem 236 L (.int (iI (-1)) :: S) M := (rn_at k_X11_isItem_235).trans rfl
theorem k_X11_isItem_236 : lk 236 C_X11_isItem = some (.if_icmp .ne 7, (243, 0, 0, 0)) := by decide +kernel
theorem s_X11_isItem_236 {ca : Nat → List Value → tM → tO} {M : tM} {L : tL} {x y : Int32} {S : List Value} : rn ca C_X11_isItem 236 L (.int y :: .int x :: S) M = if ¬ x = y then rn ca C_X11_isItem 243 L S M else rn ca C_X11_isItem 239 L S M := (rn_at k_X11_isItem_236).trans rnx_ite
theorem k_X11_isItem_239 : lk 239 C_X11_isItem = some (.iconst (-1), (0, 0, 0, 0)) := by decide +kernel
theorem s_X11_isItem_239 {ca : Nat → List Value → tM → tO} {M : tM} {L : tL} {S : List Value} : rn ca C_X11_isItem 239 L S M = rn ca C_X11_isItem 240 L (.int (iI (-1)) :: S) M := (rn_at k_X11_isItem_239).trans rfl
theorem k_X11_isItem_240 : lk 240 C_X11_isItem = some (.goto 11, (251, 0, 0, 0)) := by decide +kernel
theorem s_X11_isItem_240 {ca : Nat → List Value → tM → tO} {M : tM} {L : tL} {S : List Value} : rn ca C_X11_isItem 240 L S M = rn ca C_X11_isItem 251 L S M := (rn_at k_X11_isItem_240).trans rfl
theorem k_X11_isItem_243 : lk 243 C_X11_isItem = some (.aload_n 0, (0, 0, 0, 0)) := by decide +kernel
theorem s_X11_isItem_243 {ca : Nat → List Value → tM → tO} {M : tM} {a1 a2 a3 a4 a5 a6 : Option Value} {x : Nat} {S : List Value} : rn ca C_X11_isItem 243 [some (.ref x), a1, a2, a3, a4, a5, a6] S M = rn ca C_X11_isItem 244 [some (.ref x), a1, a2, a3, a4, a5, a6] (.ref x :: S) M := (rn_at k_X11_isItem_243).trans rfl
theorem k_X11_isItem_244 : lk 244 C_X11_isItem = some (.iconst 1, (0, 0, 0, 0)) := by decide +kernel
theorem s_X11_isItem_244 {ca : Nat → List Value → tM → tO} {M : tM} {L : tL} {S : List Value} : rn ca C_X11_isItem 244 L S M = rn ca C_X11_isItem 245 L (.int (iI 1) :: S) M := (rn_at k_X11_isItem_244).trans rfl
theorem k_X11_isItem_245 : lk 245 C_X11_isItem = some (.bipush 9, (0, 0, 0, 0)) := by decide +kernel
theorem s_X11_isItem_245 {ca : Nat → List Value → tM → tO} {M : tM} {L : tL} {S : List Value} : rn ca C_X11_isItem 245 L S M = rn ca C_X11_isItem 247 L (.int (iI 9) :: S) M := (rn_at k_X11_isItem_245).trans rfl
theorem k_X11_isItem_247 : lk 247 C_X11_isItem = some (.iconst (-1), (0, 0, 0, 0)) := by decide +kernel
theorem s_X11_isItem_247 {ca : Nat → List Value → tM → tO} {M : tM} {L : tL} {S : List Value} : rn ca C_X11_isItem 247 L S M = rn ca C_X11_isItem 248 L (.int (iI (-1)) :: S) M := (rn_at k_X11_isItem_247).trans rfl
theorem k_X11_isItem_248 : lk 248 C_X11_isItem = some (.invokevirtual 179, (185, 3, 11, 641)) := by decide +kernel
theorem s_X11_isItem_248 {ca : Nat → List Value → tM → tO} {M : tM} {L : tL} {v1 v2 v3 : Value} {b : Nat} : rn ca C_X11_isItem 248 L [v3, v2, v1, .ref b] M = if clsO b = some 11 then rnk ca C_X11_isItem 251 L [] (ca m_X11_number [.ref b, v1, v2, v3] M) else none := (rn_at k_X11_isItem_248).trans rnx_ite
theorem k_X11_isItem_251 : lk 251 C_X11_isItem = some (.istore 5, (0, 0, 0, 0)) := by decide +kernel
theorem s_X11_isItem_251 {ca : Nat → List Value → tM → tO} {M : tM} {a0 a1 a2 a3 a4 a5 a6 : Option Value} {x : Int32} {S : List Value} : rn ca C_X11_isItem 251 [a0, a1, a2, a3, a4, a5, a6] (.int x :: S) M = rn ca C_X11_isItem 253 [a0, a1, a2, a3, a4, some (.int x), a6] S M := (rn_at k_X11_isItem_251).trans rfl
theorem k_X11_isItem_253 : lk 253 C_X11_isItem = some (.iload 5, (0, 0, 0, 0)) := by decide +kernel
theorem s_X11_isItem_253 {ca : Nat → List Value → tM → tO} {M : tM} {a0 a1 a2 a3 a4 a6 : Option Value} {x : Int32} {S : List Value} : rn ca C_X11_isItem 253 [a0, a1, a2, a3, a4, some (.int x), a6] S M = rn ca C_X11_isItem 255 [a0, a1, a2, a3, a4, some (.int x), a6] (.int x :: S) M := (rn_at k_X11_isItem_253).trans rfl
theorem k_X11_isItem_255 : lk 255 C_X11_isItem = some (.iconst (-1), (0, 0, 0, 0)) := by decide +kernel
theorem s_X11_isItem_255 {ca : Nat → List Value → tM → tO} {M : tM} {L : tL} {S : List Value} : rn ca C_X11_isItem 255 L S M = rn ca C_X11_isItem 256 L (.int (iI (-1)) :: S) M := (rn_at k_X11_isItem_255).trans rfl
theorem k_X11_isItem_256 : lk 256 C_X11_isItem = some (.if_icmp .ne 7, (263, 0, 0, 0)) := by decide +kernel
theorem s_X11_isItem_256 {ca : Nat → List Value → tM → tO} {M : tM} {L : tL} {x y : Int32} {S : List Value} : rn ca C_X11_isItem 256 L (.int y :: .int x :: S) M = if ¬ x = y then rn ca C_X11_isItem 263 L S M else rn ca C_X11_isItem 259 L S M := (rn_at k_X11_isItem_256).trans rnx_ite
theorem k_X11_isItem_259 : lk 259 C_X11_isItem = some (.iconst (-1), (0, 0, 0, 0)) := by decide +kernel
theorem s_X11_isItem_259 {ca : Nat → List Value → tM → tO} {M : tM} {L : tL} {S : List Value} : rn ca C_X11_isItem 259 L S M = rn ca C_X11_isItem 260 L (.int (iI (-1)) :: S) M := (rn_at k_X11_isItem_259).trans rfl
theorem k_X11_isItem_260 : lk 260 C_X11_isItem = some (.goto 18, (278, 0, 0, 0)) := by decide +kernel
theorem s_X11_isItem_260 {ca : Nat → List Value → tM → tO} {M : tM} {L : tL} {S : List Value} : rn ca C_X11_isItem 260 L S M = rn ca C_X11_isItem 278 L S M := (rn_at k_X11_isItem_260).trans rfl
theorem k_X11_isItem_263 : lk 263 C_X11_isItem = some (.aload_n 0, (0, 0, 0, 0)) := by decide +kernel
theorem s_X11_isItem_263 {ca : Nat → List Value → tM → tO} {M : tM} {a1 a2 a3 a4 a5 a6 : Option Value} {x : Nat} {S : List Value} : rn ca C_X11_isItem 263 [some (.ref x), a1, a2, a3, a4, a5, a6] S M = rn ca C_X11_isItem 264 [some (.ref x), a1, a2, a3, a4, a5, a6] (.ref x :: S) M := (rn_at k_X11_isItem_263).trans rfl
theorem k_X11_isItem_264 : lk 264 C_X11_isItem = some (.iconst 0, (0, 0, 0, 0)) := by decide +kernel
theorem s_X11_isItem_264 {ca : Nat → List Value → tM → tO} {M : tM} {L : tL} {S : List Value} : rn ca C_X11_isItem 264 L S M = rn ca C_X11_isItem 265 L (.int (iI 0) :: S) M := (rn_at k_X11_isItem_264).trans rfl
theorem k_X11_isItem_265 : lk 265 C_X11_isItem = some (.aload_n 0, (0, 0, 0, 0)) := by decide +kernel
theorem s_X11_isItem_265 {ca : Nat → List Value → tM → tO} {M : tM} {a1 a2 a3 a4 a5 a6 : Option Value} {x : Nat} {S : List Value} : rn ca C_X11_isItem 265 [some (.ref x), a1, a2, a3, a4, a5, a6] S M = rn ca C_X11_isItem 266 [some (.ref x), a1, a2, a3, a4, a5, a6] (.ref x :: S) M := (rn_at k_X11_isItem_265).trans rfl
theorem k_X11_isItem_266 : lk 266 C_X11_isItem = some (.getfield 17, (11, 1, 0, 147)) := by decide +kernel
theorem s_X11_isItem_266 {ca : Nat → List Value → tM → tO} {M : tM} {L : tL} {b : Nat} {S : List Value} : rn ca C_X11_isItem 266 L (.ref b :: S) M = if clsO b = some 11 then rn ca C_X11_isItem 269 L (fv M b 1 :: S) M else none := (rn_at k_X11_isItem_266).trans rnx_ite
theorem k_X11_isItem_269 : lk 269 C_X11_isItem = some (.bipush 108, (0, 0, 0, 0)) := by decide +kernel
theorem s_X11_isItem_269 {ca : Nat → List Value → tM → tO} {M : tM} {L : tL} {S : List Value} : rn ca C_X11_isItem 269 L S M = rn ca C_X11_isItem 271 L (.int (iI 108) :: S) M := (rn_at k_X11_isItem_269).trans rfl
theorem k_X11_isItem_271 : lk 271 C_X11_isItem = some (.iaload, (0, 0, 0, 0)) := by decide +kernel
theorem s_X11_isItem_271 {ca : Nat → List Value → tM → tO} {M : tM} {L : tL} {a : Nat} {i : Int32} {S : List Value} : rn ca C_X11_isItem 271 L (.int i :: .ref a :: S) M = if (akind a = 0 ∨ akind a = 6 ∨ akind a = 7) ∧ inb i (alen M a) then rn ca C_X11_isItem 272 L (.int (M.1 a i.toInt.toNat) :: S) M else none := (rn_at k_X11_isItem_271).trans rnx_ite
theorem k_X11_isItem_272 : lk 272 C_X11_isItem = some (.iconst 1, (0, 0, 0, 0)) := by decide +kernel
theorem s_X11_isItem_272 {ca : Nat → List Value → tM → tO} {M : tM} {L : tL} {S : List Value} : rn ca C_X11_isItem 272 L S M = rn ca C_X11_isItem 273 L (.int (iI 1) :: S) M := (rn_at k_X11_isItem_272).trans rfl
theorem k_X11_isItem_273 : lk 273 C_X11_isItem = some (.isub, (0, 0, 0, 0)) := by decide +kernel
theorem s_X11_isItem_273 {ca : Nat → List Value → tM → tO} {M : tM} {L : tL} {x y : Int32} {S : List Value} : rn ca C_X11_isItem 273 L (.int y :: .int x :: S) M = rn ca C_X11_isItem 274 L (.int (x - y) :: S) M := (rn_at k_X11_isItem_273).trans rfl
theorem k_X11_isItem_274 : lk 274 C_X11_isItem = some (.iconst (-1), (0, 0, 0, 0)) := by decide +kernel
theorem s_X11_isItem_274 {ca : Nat → List Value → tM → tO} {M : tM} {L : tL} {S : List Value} : rn ca C_X11_isItem 274 L S M = rn ca C_X11_isItem 275 L (.int (iI (-1)) :: S) M := (rn_at k_X11_isItem_274).trans rfl
theorem k_X11_isItem_275 : lk 275 C_X11_isItem = some (.invokevirtual 179, (185, 3, 11, 641)) := by decide +kernel
theorem s_X11_isItem_275 {ca : Nat → List Value → tM → tO} {M : tM} {L : tL} {v1 v2 v3 : Value} {b : Nat} : rn ca C_X11_isItem 275 L [v3, v2, v1, .ref b] M = if clsO b = some 11 then rnk ca C_X11_isItem 278 L [] (ca m_X11_number [.ref b, v1, v2, v3] M) else none := (rn_at k_X11_isItem_275).trans rnx_ite
theorem k_X11_isItem_278 : lk 278 C_X11_isItem = some (.istore 6, (0, 0, 0, 0)) := by decide +kernel
theorem s_X11_isItem_278 {ca : Nat → List Value → tM → tO} {M : tM} {a0 a1 a2 a3 a4 a5 a6 : Option Value} {x : Int32} {S : List Value} : rn ca C_X11_isItem 278 [a0, a1, a2, a3, a4, a5, a6] (.int x :: S) M = rn ca C_X11_isItem 280 [a0, a1, a2, a3, a4, a5, some (.int x)] S M := (rn_at k_X11_isItem_278).trans rfl
theorem k_X11_isItem_280 : lk 280 C_X11_isItem = some (.iload 6, (0, 0, 0, 0)) := by decide +kernel
theorem s_X11_isItem_280 {ca : Nat → List Value → tM → tO} {M : tM} {a0 a1 a2 a3 a4 a5 : Option Value} {x : Int32} {S : List Value} : rn ca C_X11_isItem 280 [a0, a1, a2, a3, a4, a5, some (.int x)] S M = rn ca C_X11_isItem 282 [a0, a1, a2, a3, a4, a5, some (.int x)] (.int x :: S) M := (rn_at k_X11_isItem_280).trans rfl
theorem k_X11_isItem_282 : lk 282 C_X11_isItem = some (.iconst (-1), (0, 0, 0, 0)) := by decide +kernel
theorem s_X11_isItem_282 {ca : Nat → List Value → tM → tO} {M : tM} {L : tL} {S : List Value} : rn ca C_X11_isItem 282 L S M = rn ca C_X11_isItem 283 L (.int (iI (-1)) :: S) M := (rn_at k_X11_isItem_282).trans rfl
theorem k_X11_isItem_283 : lk 283 C_X11_isItem = some (.if_icmp .eq 15, (298, 0, 0, 0)) := by decide +kernel
theorem s_X11_isItem_283 {ca : Nat → List Value → tM → tO} {M : tM} {L : tL} {x y : Int32} {S : List Value} : rn ca C_X11_isItem 283 L (.int y :: .int x :: S) M = if x = y then rn ca C_X11_isItem 298 L S M else rn ca C_X11_isItem 286 L S M := (rn_at k_X11_isItem_283).trans rnx_ite
theorem k_X11_isItem_286 : lk 286 C_X11_isItem = some (.aload_n 0, (0, 0, 0, 0)) := by decide +kernel
theorem s_X11_isItem_286 {ca : Nat → List Value → tM → tO} {M : tM} {a1 a2 a3 a4 a5 a6 : Option Value} {x : Nat} {S : List Value} : rn ca C_X11_isItem 286 [some (.ref x), a1, a2, a3, a4, a5, a6] S M = rn ca C_X11_isItem 287 [some (.ref x), a1, a2, a3, a4, a5, a6] (.ref x :: S) M := (rn_at k_X11_isItem_286).trans rfl
theorem k_X11_isItem_287 : lk 287 C_X11_isItem = some (.iload_n 3, (0, 0, 0, 0)) := by decide +kernel
theorem s_X11_isItem_287 {ca : Nat → List Value → tM → tO} {M : tM} {a0 a1 a2 a4 a5 a6 : Option Value} {x : Int32} {S : List Value} : rn ca C_X11_isItem 287 [a0, a1, a2, some (.int x), a4, a5, a6] S M = rn ca C_X11_isItem 288 [a0, a1, a2, some (.int x), a4, a5, a6] (.int x :: S) M := (rn_at k_X11_isItem_287).trans rfl
theorem k_X11_isItem_288 : lk 288 C_X11_isItem = some (.iload 4, (0, 0, 0, 0)) := by decide +kernel
theorem s_X11_isItem_288 {ca : Nat → List Value → tM → tO} {M : tM} {a0 a1 a2 a3 a5 a6 : Option Value} {x : Int32} {S : List Value} : rn ca C_X11_isItem 288 [a0, a1, a2, a3, some (.int x), a5, a6] S M = rn ca C_X11_isItem 290 [a0, a1, a2, a3, some (.int x), a5, a6] (.int x :: S) M := (rn_at k_X11_isItem_288).trans rfl
theorem k_X11_isItem_290 : lk 290 C_X11_isItem = some (.iload 5, (0, 0, 0, 0)) := by decide +kernel
theorem s_X11_isItem_290 {ca : Nat → List Value → tM → tO} {M : tM} {a0 a1 a2 a3 a4 a6 : Option Value} {x : Int32} {S : List Value} : rn ca C_X11_isItem 290 [a0, a1, a2, a3, a4, some (.int x), a6] S M = rn ca C_X11_isItem 292 [a0, a1, a2, a3, a4, some (.int x), a6] (.int x :: S) M := (rn_at k_X11_isItem_290).trans rfl
theorem k_X11_isItem_292 : lk 292 C_X11_isItem = some (.iload 6, (0, 0, 0, 0)) := by decide +kernel
theorem s_X11_isItem_292 {ca : Nat → List Value → tM → tO} {M : tM} {a0 a1 a2 a3 a4 a5 : Option Value} {x : Int32} {S : List Value} : rn ca C_X11_isItem 292 [a0, a1, a2, a3, a4, a5, some (.int x)] S M = rn ca C_X11_isItem 294 [a0, a1, a2, a3, a4, a5, some (.int x)] (.int x :: S) M := (rn_at k_X11_isItem_292).trans rfl
theorem k_X11_isItem_294 : lk 294 C_X11_isItem = some (.invokevirtual 107, (161, 4, 11, 422)) := by decide +kernel
theorem s_X11_isItem_294 {ca : Nat → List Value → tM → tO} {M : tM} {L : tL} {v1 v2 v3 v4 : Value} {b : Nat} : rn ca C_X11_isItem 294 L [v4, v3, v2, v1, .ref b] M = if clsO b = some 11 then rnk ca C_X11_isItem 297 L [] (ca m_X11_addCapsule [.ref b, v1, v2, v3, v4] M) else none := (rn_at k_X11_isItem_294).trans rnx_ite
theorem k_X11_isItem_297 : lk 297 C_X11_isItem = some (.pop, (0, 0, 0, 0)) := by decide +kernel
theorem s_X11_isItem_297 {ca : Nat → List Value → tM → tO} {M : tM} {L : tL} {x : Int32} {S : List Value} : rn ca C_X11_isItem 297 L (.int x :: S) M = rn ca C_X11_isItem 298 L S M := (rn_at k_X11_isItem_297).trans rfl
theorem k_X11_isItem_298 : lk 298 C_X11_isItem = some (.iload 6, (0, 0, 0, 0)) := by decide +kernel
theorem s_X11_isItem_298 {ca : Nat → List Value → tM → tO} {M : tM} {a0 a1 a2 a3 a4 a5 : Option Value} {x : Int32} {S : List Value} : rn ca C_X11_isItem 298 [a0, a1, a2, a3, a4, a5, some (.int x)] S M = rn ca C_X11_isItem 300 [a0, a1, a2, a3, a4, a5, some (.int x)] (.int x :: S) M := (rn_at k_X11_isItem_298).trans rfl
theorem k_X11_isItem_300 : lk 300 C_X11_isItem = some (.iconst (-1), (0, 0, 0, 0)) := by decide +kernel
theorem s_X11_isItem_300 {ca : Nat → List Value → tM → tO} {M : tM} {L : tL} {S : List Value} : rn ca C_X11_isItem 300 L S M = rn ca C_X11_isItem 301 L (.int (iI (-1)) :: S) M := (rn_at k_X11_isItem_300).trans rfl
theorem k_X11_isItem_301 : lk 301 C_X11_isItem = some (.if_icmp .eq 7, (308, 0, 0, 0)) := by decide +kernel
theorem s_X11_isItem_301 {ca : Nat → List Value → tM → tO} {M : tM} {L : tL} {x y : Int32} {S : List Value} : rn ca C_X11_isItem 301 L (.int y :: .int x :: S) M = if x = y then rn ca C_X11_isItem 308 L S M else rn ca C_X11_isItem 304 L S M := (rn_at k_X11_isItem_301).trans rnx_ite
theorem k_X11_isItem_304 : lk 304 C_X11_isItem = some (.iconst 1, (0, 0, 0, 0)) := by decide +kernel
theorem s_X11_isItem_304 {ca : Nat → List Value → tM → tO} {M : tM} {L : tL} {S : List Value} : rn ca C_X11_isItem 304 L S M = rn ca C_X11_isItem 305 L (.int (iI 1) :: S) M := (rn_at k_X11_isItem_304).trans rfl
theorem k_X11_isItem_305 : lk 305 C_X11_isItem = some (.goto 4, (309, 0, 0, 0)) := by decide +kernel
theorem s_X11_isItem_305 {ca : Nat → List Value → tM → tO} {M : tM} {L : tL} {S : List Value} : rn ca C_X11_isItem 305 L S M = rn ca C_X11_isItem 309 L S M := (rn_at k_X11_isItem_305).trans rfl
theorem k_X11_isItem_308 : lk 308 C_X11_isItem = some (.iconst 0, (0, 0, 0, 0)) := by decide +kernel
theorem s_X11_isItem_308 {ca : Nat → List Value → tM → tO} {M : tM} {L : tL} {S : List Value} : rn ca C_X11_isItem 308 L S M = rn ca C_X11_isItem 309 L (.int (iI 0) :: S) M := (rn_at k_X11_isItem_308).trans rfl
theorem k_X11_isItem_309 : lk 309 C_X11_isItem = some (.ireturn, (1, 0, 0, 0)) := by decide +kernel
theorem s_X11_isItem_309 {ca : Nat → List Value → tM → tO} {M : tM} {L : tL} {x : Int32} : rn ca C_X11_isItem 309 L [.int x] M = if x = iI 0 ∨ x = iI 1 then some (some (.int x), M) else none := (rn_at k_X11_isItem_309).trans rnx_ite
theorem k_X11_isItem_310 : lk 310 C_X11_isItem = some (.iload_n 2, (0, 0, 0, 0)) := by decide +kernel
theorem s_X11_isItem_310 {ca : Nat → List Value → tM → tO} {M : tM} {a0 a1 a3 a4 a5 a6 : Option Value} {x : Int32} {S : List Value} : rn ca C_X11_isItem 310 [a0, a1, some (.int x), a3, a4, a5, a6] S M = rn ca C_X11_isItem 311 [a0, a1, some (.int x), a3, a4, a5, a6] (.int x :: S) M := (rn_at k_X11_isItem_310).trans rfl
theorem k_X11_isItem_311 : lk 311 C_X11_isItem = some (.iconst 5, (0, 0, 0, 0)) := by decide +kernel
theorem s_X11_isItem_311 {ca : Nat → List Value → tM → tO} {M : tM} {L : tL} {S : List Value} : rn ca C_X11_isItem 311 L S M = rn ca C_X11_isItem 312 L (.int (iI 5) :: S) M := (rn_at k_X11_isItem_311).trans rfl
theorem k_X11_isItem_312 : lk 312 C_X11_isItem = some (.if_icmp .ne 14, (326, 0, 0, 0)) := by decide +kernel
theorem s_X11_isItem_312 {ca : Nat → List Value → tM → tO} {M : tM} {L : tL} {x y : Int32} {S : List Value} : rn ca C_X11_isItem 312 L (.int y :: .int x :: S) M = if ¬ x = y then rn ca C_X11_isItem 326 L S M else rn ca C_X11_isItem 315 L S M := (rn_at k_X11_isItem_312).trans rnx_ite
theorem k_X11_isItem_315 : lk 315 C_X11_isItem = some (.aload_n 0, (0, 0, 0, 0)) := by decide +kernel
theorem s_X11_isItem_315 {ca : Nat → List Value → tM → tO} {M : tM} {a1 a2 a3 a4 a5 a6 : Option Value} {x : Nat} {S : List Value} : rn ca C_X11_isItem 315 [some (.ref x), a1, a2, a3, a4, a5, a6] S M = rn ca C_X11_isItem 316 [some (.ref x), a1, a2, a3, a4, a5, a6] (.ref x :: S) M := (rn_at k_X11_isItem_315).trans rfl
theorem k_X11_isItem_316 : lk 316 C_X11_isItem = some (.iconst 1, (0, 0, 0, 0)) := by decide +kernel
theorem s_X11_isItem_316 {ca : Nat → List Value → tM → tO} {M : tM} {L : tL} {S : List Value} : rn ca C_X11_isItem 316 L S M = rn ca C_X11_isItem 317 L (.int (iI 1) :: S) M := (rn_at k_X11_isItem_316).trans rfl
theorem k_X11_isItem_317 : lk 317 C_X11_isItem = some (.bipush 9, (0, 0, 0, 0)) := by decide +kernel
theorem s_X11_isItem_317 {ca : Nat → List Value → tM → tO} {M : tM} {L : tL} {S : List Value} : rn ca C_X11_isItem 317 L S M = rn ca C_X11_isItem 319 L (.int (iI 9) :: S) M := (rn_at k_X11_isItem_317).trans rfl
theorem k_X11_isItem_319 : lk 319 C_X11_isItem = some (.iconst (-1), (0, 0, 0, 0)) := by decide +kernel
theorem s_X11_isItem_319 {ca : Nat → List Value → tM → tO} {M : tM} {L : tL} {S : List Value} : rn ca C_X11_isItem 319 L S M = rn ca C_X11_isItem 320 L (.int (iI (-1)) :: S) M := (rn_at k_X11_isItem_319).trans rfl
theorem k_X11_isItem_320 : lk 320 C_X11_isItem = some (.invokevirtual 179, (185, 3, 11, 641)) := by decide +kernel
theorem s_X11_isItem_320 {ca : Nat → List Value → tM → tO} {M : tM} {L : tL} {v1 v2 v3 : Value} {b : Nat} : rn ca C_X11_isItem 320 L [v3, v2, v1, .ref b] M = if clsO b = some 11 then rnk ca C_X11_isItem 323 L [] (ca m_X11_number [.ref b, v1, v2, v3] M) else none := (rn_at k_X11_isItem_320).trans rnx_ite
theorem k_X11_isItem_323 : lk 323 C_X11_isItem = some (.goto 18, (341, 0, 0, 0)) := by decide +kernel
theorem s_X11_isItem_323 {ca : Nat → List Value → tM → tO} {M : tM} {L : tL} {S : List Value} : rn ca C_X11_isItem 323 L S M = rn ca C_X11_isItem 341 L S M := (rn_at k_X11_isItem_323).trans rfl
theorem k_X11_isItem_326 : lk 326 C_X11_isItem = some (.aload_n 0, (0, 0, 0, 0)) := by decide +kernel
theorem s_X11_isItem_326 {ca : Nat → List Value → tM → tO} {M : tM} {a1 a2 a3 a4 a5 a6 : Option Value} {x : Nat} {S : List Value} : rn ca C_X11_isItem 326 [some (.ref x), a1, a2, a3, a4, a5, a6] S M = rn ca C_X11_isItem 327 [some (.ref x), a1, a2, a3, a4, a5, a6] (.ref x :: S) M := (rn_at k_X11_isItem_326).trans rfl
theorem k_X11_isItem_327 : lk 327 C_X11_isItem = some (.iconst 0, (0, 0, 0, 0)) := by decide +kernel
theorem s_X11_isItem_327 {ca : Nat → List Value → tM → tO} {M : tM} {L : tL} {S : List Value} : rn ca C_X11_isItem 327 L S M = rn ca C_X11_isItem 328 L (.int (iI 0) :: S) M := (rn_at k_X11_isItem_327).trans rfl
theorem k_X11_isItem_328 : lk 328 C_X11_isItem = some (.aload_n 0, (0, 0, 0, 0)) := by decide +kernel
theorem s_X11_isItem_328 {ca : Nat → List Value → tM → tO} {M : tM} {a1 a2 a3 a4 a5 a6 : Option Value} {x : Nat} {S : List Value} : rn ca C_X11_isItem 328 [some (.ref x), a1, a2, a3, a4, a5, a6] S M = rn ca C_X11_isItem 329 [some (.ref x), a1, a2, a3, a4, a5, a6] (.ref x :: S) M := (rn_at k_X11_isItem_328).trans rfl
theorem k_X11_isItem_329 : lk 329 C_X11_isItem = some (.getfield 17, (11, 1, 0, 147)) := by decide +kernel
theorem s_X11_isItem_329 {ca : Nat → List Value → tM → tO} {M : tM} {L : tL} {b : Nat} {S : List Value} : rn ca C_X11_isItem 329 L (.ref b :: S) M = if clsO b = some 11 then rn ca C_X11_isItem 332 L (fv M b 1 :: S) M else none := (rn_at k_X11_isItem_329).trans rnx_ite
theorem k_X11_isItem_332 : lk 332 C_X11_isItem = some (.bipush 109, (0, 0, 0, 0)) := by decide +kernel
theorem s_X11_isItem_332 {ca : Nat → List Value → tM → tO} {M : tM} {L : tL} {S : List Value} : rn ca C_X11_isItem 332 L S M = rn ca C_X11_isItem 334 L (.int (iI 109) :: S) M := (rn_at k_X11_isItem_332).trans rfl
theorem k_X11_isItem_334 : lk 334 C_X11_isItem = some (.iaload, (0, 0, 0, 0)) := by decide +kernel
theorem s_X11_isItem_334 {ca : Nat → List Value → tM → tO} {M : tM} {L : tL} {a : Nat} {i : Int32} {S : List Value} : rn ca C_X11_isItem 334 L (.int i :: .ref a :: S) M = if (akind a = 0 ∨ akind a = 6 ∨ akind a = 7) ∧ inb i (alen M a) then rn ca C_X11_isItem 335 L (.int (M.1 a i.toInt.toNat) :: S) M else none := (rn_at k_X11_isItem_334).trans rnx_ite
theorem k_X11_isItem_335 : lk 335 C_X11_isItem = some (.iconst 1, (0, 0, 0, 0)) := by decide +kernel
theorem s_X11_isItem_335 {ca : Nat → List Value → tM → tO} {M : tM} {L : tL} {S : List Value} : rn ca C_X11_isItem 335 L S M = rn ca C_X11_isItem 336 L (.int (iI 1) :: S) M := (rn_at k_X11_isItem_335).trans rfl
theorem k_X11_isItem_336 : lk 336 C_X11_isItem = some (.isub, (0, 0, 0, 0)) := by decide +kernel
theorem s_X11_isItem_336 {ca : Nat → List Value → tM → tO} {M : tM} {L : tL} {x y : Int32} {S : List Value} : rn ca C_X11_isItem 336 L (.int y :: .int x :: S) M = rn ca C_X11_isItem 337 L (.int (x - y) :: S) M := (rn_at k_X11_isItem_336).trans rfl
theorem k_X11_isItem_337 : lk 337 C_X11_isItem = some (.iconst (-1), (0, 0, 0, 0)) := by decide +kernel
theorem s_X11_isItem_337 {ca : Nat → List Value → tM → tO} {M : tM} {L : tL} {S : List Value} : rn ca C_X11_isItem 337 L S M = rn ca C_X11_isItem 338 L (.int (iI (-1)) :: S) M := (rn_at k_X11_isItem_337).trans rfl
theorem k_X11_isItem_338 : lk 338 C_X11_isItem = some (.invokevirtual 179, (185, 3, 11, 641)) := by decide +kernel
theorem s_X11_isItem_338 {ca : Nat → List Value → tM → tO} {M : tM} {L : tL} {v1 v2 v3 : Value} {b : Nat} : rn ca C_X11_isItem 338 L [v3, v2, v1, .ref b] M = if clsO b = some 11 then rnk ca C_X11_isItem 341 L [] (ca m_X11_number [.ref b, v1, v2, v3] M) else none := (rn_at k_X11_isItem_338).trans rnx_ite
theorem k_X11_isItem_341 : lk 341 C_X11_isItem = some (.istore_n 3, (0, 0, 0, 0)) := by decide +kernel
theorem s_X11_isItem_341 {ca : Nat → List Value → tM → tO} {M : tM} {a0 a1 a2 a3 a4 a5 a6 : Option Value} {x : Int32} {S : List Value} : rn ca C_X11_isItem 341 [a0, a1, a2, a3, a4, a5, a6] (.int x :: S) M = rn ca C_X11_isItem 342 [a0, a1, a2, some (.int x), a4, a5, a6] S M := (rn_at k_X11_isItem_341).trans rfl
theorem k_X11_isItem_342 : lk 342 C_X11_isItem = some (.iload_n 3, (0, 0, 0, 0)) := by decide +kernel
theorem s_X11_isItem_342 {ca : Nat → List Value → tM → tO} {M : tM} {a0 a1 a2 a4 a5 a6 : Option Value} {x : Int32} {S : List Value} : rn ca C_X11_isItem 342 [a0, a1, a2, some (.int x), a4, a5, a6] S M = rn ca C_X11_isItem 343 [a0, a1, a2, some (.int x), a4, a5, a6] (.int x :: S) M := (rn_at k_X11_isItem_342).trans rfl
theorem k_X11_isItem_343 : lk 343 C_X11_isItem = some (.iconst (-1), (0, 0, 0, 0)) := by decide +kernel
theorem s_X11_isItem_343 {ca : Nat → List Value → tM → tO} {M : tM} {L : tL} {S : List Value} : rn ca C_X11_isItem 343 L S M = rn ca C_X11_isItem 344 L (.int (iI (-1)) :: S) M := (rn_at k_X11_isItem_343).trans rfl
theorem k_X11_isItem_344 : lk 344 C_X11_isItem = some (.if_icmp .eq 42, (386, 0, 0, 0)) := by decide +kernel
theorem s_X11_isItem_344 {ca : Nat → List Value → tM → tO} {M : tM} {L : tL} {x y : Int32} {S : List Value} : rn ca C_X11_isItem 344 L (.int y :: .int x :: S) M = if x = y then rn ca C_X11_isItem 386 L S M else rn ca C_X11_isItem 347 L S M := (rn_at k_X11_isItem_344).trans rnx_ite
theorem k_X11_isItem_347 : lk 347 C_X11_isItem = some (.aload_n 0, (0, 0, 0, 0)) := by decide +kernel
theorem s_X11_isItem_347 {ca : Nat → List Value → tM → tO} {M : tM} {a1 a2 a3 a4 a5 a6 : Option Value} {x : Nat} {S : List Value} : rn ca C_X11_isItem 347 [some (.ref x), a1, a2, a3, a4, a5, a6] S M = rn ca C_X11_isItem 348 [some (.ref x), a1, a2, a3, a4, a5, a6] (.ref x :: S) M := (rn_at k_X11_isItem_347).trans rfl
theorem k_X11_isItem_348 : lk 348 C_X11_isItem = some (.getfield 17, (11, 1, 0, 147)) := by decide +kernel
theorem s_X11_isItem_348 {ca : Nat → List Value → tM → tO} {M : tM} {L : tL} {b : Nat} {S : List Value} : rn ca C_X11_isItem 348 L (.ref b :: S) M = if clsO b = some 11 then rn ca C_X11_isItem 351 L (fv M b 1 :: S) M else none := (rn_at k_X11_isItem_348).trans rnx_ite
theorem k_X11_isItem_351 : lk 351 C_X11_isItem = some (.iload_n 2, (0, 0, 0, 0)) := by decide +kernel
theorem s_X11_isItem_351 {ca : Nat → List Value → tM → tO} {M : tM} {a0 a1 a3 a4 a5 a6 : Option Value} {x : Int32} {S : List Value} : rn ca C_X11_isItem 351 [a0, a1, some (.int x), a3, a4, a5, a6] S M = rn ca C_X11_isItem 352 [a0, a1, some (.int x), a3, a4, a5, a6] (.int x :: S) M := (rn_at k_X11_isItem_351).trans rfl
theorem k_X11_isItem_352 : lk 352 C_X11_isItem = some (.iconst 5, (0, 0, 0, 0)) := by decide +kernel
theorem s_X11_isItem_352 {ca : Nat → List Value → tM → tO} {M : tM} {L : tL} {S : List Value} : rn ca C_X11_isItem 352 L S M = rn ca C_X11_isItem 353 L (.int (iI 5) :: S) M := (rn_at k_X11_isItem_352).trans rfl
theorem k_X11_isItem_353 : lk 353 C_X11_isItem = some (.if_icmp .ne 8, (361, 0, 0, 0)) := by decide +kernel
theorem s_X11_isItem_353 {ca : Nat → List Value → tM → tO} {M : tM} {L : tL} {x y : Int32} {S : List Value} : rn ca C_X11_isItem 353 L (.int y :: .int x :: S) M = if ¬ x = y then rn ca C_X11_isItem 361 L S M else rn ca C_X11_isItem 356 L S M := (rn_at k_X11_isItem_353).trans rnx_ite
theorem k_X11_isItem_356 : lk 356 C_X11_isItem = some (.bipush 111, (0, 0, 0, 0)) := by decide +kernel
theorem s_X11_isItem_356 {ca : Nat → List Value → tM → tO} {M : tM} {L : tL} {S : List Value} : rn ca C_X11_isItem 356 L S M = rn ca C_X11_isItem 358 L (.int (iI 111) :: S) M := (rn_at k_X11_isItem_356).trans rfl
theorem k_X11_isItem_358 : lk 358 C_X11_isItem = some (.goto 8, (366, 0, 0, 0)) := by decide +kernel
theorem s_X11_isItem_358 {ca : Nat → List Value → tM → tO} {M : tM} {L : tL} {S : List Value} : rn ca C_X11_isItem 358 L S M = rn ca C_X11_isItem 366 L S M := (rn_at k_X11_isItem_358).trans rfl
theorem k_X11_isItem_361 : lk 361 C_X11_isItem = some (.iconst 5, (0, 0, 0, 0)) := by decide +kernel
theorem s_X11_isItem_361 {ca : Nat → List Value → tM → tO} {M : tM} {L : tL} {S : List Value} : rn ca C_X11_isItem 361 L S M = rn ca C_X11_isItem 362 L (.int (iI 5) :: S) M := (rn_at k_X11_isItem_361).trans rfl
theorem k_X11_isItem_362 : lk 362 C_X11_isItem = some (.iload_n 3, (0, 0, 0, 0)) := by decide +kernel
theorem s_X11_isItem_362 {ca : Nat → List Value → tM → tO} {M : tM} {a0 a1 a2 a4 a5 a6 : Option Value} {x : Int32} {S : List Value} : rn ca C_X11_isItem 362 [a0, a1, a2, some (.int x), a4, a5, a6] S M = rn ca C_X11_isItem 363 [a0, a1, a2, some (.int x), a4, a5, a6] (.int x :: S) M := (rn_at k_X11_isItem_362).trans rfl
theorem k_X11_isItem_363 : lk 363 C_X11_isItem = some (.imul, (0, 0, 0, 0)) := by decide +kernel
theorem s_X11_isItem_363 {ca : Nat → List Value → tM → tO} {M : tM} {L : tL} {x y : Int32} {S : List Value} : rn ca C_X11_isItem 363 L (.int y :: .int x :: S) M = rn ca C_X11_isItem 364 L (.int (x * y) :: S) M := (rn_at k_X11_isItem_363).trans rfl
theorem k_X11_isItem_364 : lk 364 C_X11_isItem = some (.iconst 4, (0, 0, 0, 0)) := by decide +kernel
theorem s_X11_isItem_364 {ca : Nat → List Value → tM → tO} {M : tM} {L : tL} {S : List Value} : rn ca C_X11_isItem 364 L S M = rn ca C_X11_isItem 365 L (.int (iI 4) :: S) M := (rn_at k_X11_isItem_364).trans rfl
theorem k_X11_isItem_365 : lk 365 C_X11_isItem = some (.iadd, (0, 0, 0, 0)) := by decide +kernel
theorem s_X11_isItem_365 {ca : Nat → List Value → tM → tO} {M : tM} {L : tL} {x y : Int32} {S : List Value} : rn ca C_X11_isItem 365 L (.int y :: .int x :: S) M = rn ca C_X11_isItem 366 L (.int (x + y) :: S) M := (rn_at k_X11_isItem_365).trans rfl
theorem k_X11_isItem_366 : lk 366 C_X11_isItem = some (.iload_n 2, (0, 0, 0, 0)) := by decide +kernel
theorem s_X11_isItem_366 {ca : Nat → List Value → tM → tO} {M : tM} {a0 a1 a3 a4 a5 a6 : Option Value} {x : Int32} {S : List Value} : rn ca C_X11_isItem 366 [a0, a1, some (.int x), a3, a4, a5, a6] S M = rn ca C_X11_isItem 367 [a0, a1, some (.int x), a3, a4, a5, a6] (.int x :: S) M := (rn_at k_X11_isItem_366).trans rfl
theorem k_X11_isItem_367 : lk 367 C_X11_isItem = some (.iconst 5, (0, 0, 0, 0)) := by decide +kernel
theorem s_X11_isItem_367 {ca : Nat → List Value → tM → tO} {M : tM} {L : tL} {S : List Value} : rn ca C_X11_isItem 367 L S M = rn ca C_X11_isItem 368 L (.int (iI 5) :: S) M := (rn_at k_X11_isItem_367).trans rfl
theorem k_X11_isItem_368 : lk 368 C_X11_isItem = some (.if_icmp .ne 7, (375, 0, 0, 0)) := by decide +kernel
theorem s_X11_isItem_368 {ca : Nat → List Value → tM → tO} {M : tM} {L : tL} {x y : Int32} {S : List Value} : rn ca C_X11_isItem 368 L (.int y :: .int x :: S) M = if ¬ x = y then rn ca C_X11_isItem 375 L S M else rn ca C_X11_isItem 371 L S M := (rn_at k_X11_isItem_368).trans rnx_ite
theorem k_X11_isItem_371 : lk 371 C_X11_isItem = some (.iload_n 3, (0, 0, 0, 0)) := by decide +kernel
theorem s_X11_isItem_371 {ca : Nat → List Value → tM → tO} {M : tM} {a0 a1 a2 a4 a5 a6 : Option Value} {x : Int32} {S : List Value} : rn ca C_X11_isItem 371 [a0, a1, a2, some (.int x), a4, a5, a6] S M = rn ca C_X11_isItem 372 [a0, a1, a2, some (.int x), a4, a5, a6] (.int x :: S) M := (rn_at k_X11_isItem_371).trans rfl
theorem k_X11_isItem_372 : lk 372 C_X11_isItem = some (.goto 13, (385, 0, 0, 0)) := by decide +kernel
theorem s_X11_isItem_372 {ca : Nat → List Value → tM → tO} {M : tM} {L : tL} {S : List Value} : rn ca C_X11_isItem 372 L S M = rn ca C_X11_isItem 385 L S M := (rn_at k_X11_isItem_372).trans rfl
theorem k_X11_isItem_375 : lk 375 C_X11_isItem = some (.iload_n 2, (0, 0, 0, 0)) := by decide +kernel
theorem s_X11_isItem_375 {ca : Nat → List Value → tM → tO} {M : tM} {a0 a1 a3 a4 a5 a6 : Option Value} {x : Int32} {S : List Value} : rn ca C_X11_isItem 375 [a0, a1, some (.int x), a3, a4, a5, a6] S M = rn ca C_X11_isItem 376 [a0, a1, some (.int x), a3, a4, a5, a6] (.int x :: S) M := (rn_at k_X11_isItem_375).trans rfl
theorem k_X11_isItem_376 : lk 376 C_X11_isItem = some (.iconst 3, (0, 0, 0, 0)) := by decide +kernel
theorem s_X11_isItem_376 {ca : Nat → List Value → tM → tO} {M : tM} {L : tL} {S : List Value} : rn ca C_X11_isItem 376 L S M = rn ca C_X11_isItem 377 L (.int (iI 3) :: S) M := (rn_at k_X11_isItem_376).trans rfl
theorem k_X11_isItem_377 : lk 377 C_X11_isItem = some (.if_icmp .ne 7, (384, 0, 0, 0)) := by decide +kernel
theorem s_X11_isItem_377 {ca : Nat → List Value → tM → tO} {M : tM} {L : tL} {x y : Int32} {S : List Value} : rn ca C_X11_isItem 377 L (.int y :: .int x :: S) M = if ¬ x = y then rn ca C_X11_isItem 384 L S M else rn ca C_X11_isItem 380 L S M := (rn_at k_X11_isItem_377).trans rnx_ite
theorem k_X11_isItem_380 : lk 380 C_X11_isItem = some (.iconst 1, (0, 0, 0, 0)) := by decide +kernel
theorem s_X11_isItem_380 {ca : Nat → List Value → tM → tO} {M : tM} {L : tL} {S : List Value} : rn ca C_X11_isItem 380 L S M = rn ca C_X11_isItem 381 L (.int (iI 1) :: S) M := (rn_at k_X11_isItem_380).trans rfl
theorem k_X11_isItem_381 : lk 381 C_X11_isItem = some (.goto 4, (385, 0, 0, 0)) := by decide +kernel
theorem s_X11_isItem_381 {ca : Nat → List Value → tM → tO} {M : tM} {L : tL} {S : List Value} : rn ca C_X11_isItem 381 L S M = rn ca C_X11_isItem 385 L S M := (rn_at k_X11_isItem_381).trans rfl
theorem k_X11_isItem_384 : lk 384 C_X11_isItem = some (.iconst 0, (0, 0, 0, 0)) := by decide +kernel
theorem s_X11_isItem_384 {ca : Nat → List Value → tM → tO} {M : tM} {L : tL} {S : List Value} : rn ca C_X11_isItem 384 L S M = rn ca C_X11_isItem 385 L (.int (iI 0) :: S) M := (rn_at k_X11_isItem_384).trans rfl
theorem k_X11_isItem_385 : lk 385 C_X11_isItem = some (.iastore, (0, 0, 0, 0)) := by decide +kernel
theorem s_X11_isItem_385 {ca : Nat → List Value → tM → tO} {M : tM} {L : tL} {a : Nat} {i x : Int32} {S : List Value} : rn ca C_X11_isItem 385 L (.int x :: .int i :: .ref a :: S) M = if akind a = 0 ∧ inb i (alen M a) then rn ca C_X11_isItem 386 L S (sI M a i.toInt.toNat x) else none := (rn_at k_X11_isItem_385).trans rnx_ite
theorem k_X11_isItem_386 : lk 386 C_X11_isItem = some (.iload_n 3, (0, 0, 0, 0)) := by decide +kernel
theorem s_X11_isItem_386 {ca : Nat → List Value → tM → tO} {M : tM} {a0 a1 a2 a4 a5 a6 : Option Value} {x : Int32} {S : List Value} : rn ca C_X11_isItem 386 [a0, a1, a2, some (.int x), a4, a5, a6] S M = rn ca C_X11_isItem 387 [a0, a1, a2, some (.int x), a4, a5, a6] (.int x :: S) M := (rn_at k_X11_isItem_386).trans rfl
theorem k_X11_isItem_387 : lk 387 C_X11_isItem = some (.iconst (-1), (0, 0, 0, 0)) := by decide +kernel
theorem s_X11_isItem_387 {ca : Nat → List Value → tM → tO} {M : tM} {L : tL} {S : List Value} : rn ca C_X11_isItem 387 L S M = rn ca C_X11_isItem 388 L (.int (iI (-1)) :: S) M := (rn_at k_X11_isItem_387).trans rfl
theorem k_X11_isItem_388 : lk 388 C_X11_isItem = some (.if_icmp .eq 7, (395, 0, 0, 0)) := by decide +kernel
theorem s_X11_isItem_388 {ca : Nat → List Value → tM → tO} {M : tM} {L : tL} {x y : Int32} {S : List Value} : rn ca C_X11_isItem 388 L (.int y :: .int x :: S) M = if x = y then rn ca C_X11_isItem 395 L S M else rn ca C_X11_isItem 391 L S M := (rn_at k_X11_isItem_388).trans rnx_ite
theorem k_X11_isItem_391 : lk 391 C_X11_isItem = some (.iconst 1, (0, 0, 0, 0)) := by decide +kernel
theorem s_X11_isItem_391 {ca : Nat → List Value → tM → tO} {M : tM} {L : tL} {S : List Value} : rn ca C_X11_isItem 391 L S M = rn ca C_X11_isItem 392 L (.int (iI 1) :: S) M := (rn_at k_X11_isItem_391).trans rfl
theorem k_X11_isItem_392 : lk 392 C_X11_isItem = some (.goto 4, (396, 0, 0, 0)) := by decide +kernel
theorem s_X11_isItem_392 {ca : Nat → List Value → tM → tO} {M : tM} {L : tL} {S : List Value} : rn ca C_X11_isItem 392 L S M = rn ca C_X11_isItem 396 L S M := (rn_at k_X11_isItem_392).trans rfl
theorem k_X11_isItem_395 : lk 395 C_X11_isItem = some (.iconst 0, (0, 0, 0, 0)) := by decide +kernel
theorem s_X11_isItem_395 {ca : Nat → List Value → tM → tO} {M : tM} {L : tL} {S : List Value} : rn ca C_X11_isItem 395 L S M = rn ca C_X11_isItem 396 L (.int (iI 0) :: S) M := (rn_at k_X11_isItem_395).trans rfl
theorem k_X11_isItem_396 : lk 396 C_X11_isItem = some (.ireturn, (1, 0, 0, 0)) := by decide +kernel
theorem s_X11_isItem_396 {ca : Nat → List Value → tM → tO} {M : tM} {L : tL} {x : Int32} : rn ca C_X11_isItem 396 L [.int x] M = if x = iI 0 ∨ x = iI 1 then some (some (.int x), M) else none := (rn_at k_X11_isItem_396).trans rnx_ite
theorem k_X11_plan_0 : lk 0 C_X11_plan = some (.aload_n 0, (0, 0, 0, 0)) := by decide +kernel
theorem s_X11_plan_0 {ca : Nat → List Value → tM → tO} {M : tM} {a1 a2 a3 : Option Value} {x : Nat} {S : List Value} : rn ca C_X11_plan 0 [some (.ref x), a1, a2, a3] S M = rn ca C_X11_plan 1 [some (.ref x), a1, a2, a3] (.ref x :: S) M := (rn_at k_X11_plan_0).trans rfl
theorem k_X11_plan_1 : lk 1 C_X11_plan = some (.iload_n 1, (0, 0, 0, 0)) := by decide +kernel
theorem s_X11_plan_1 {ca : Nat → List Value → tM → tO} {M : tM} {a0 a2 a3 : Option Value} {x : Int32} {S : List Value} : rn ca C_X11_plan 1 [a0, some (.int x), a2, a3] S M = rn ca C_X11_plan 2 [a0, some (.int x), a2, a3] (.int x :: S) M := (rn_at k_X11_plan_1).trans rfl
theorem k_X11_plan_2 : lk 2 C_X11_plan = some (.invokevirtual 126, (172, 1, 11, 236)) := by decide +kernel
theorem s_X11_plan_2 {ca : Nat → List Value → tM → tO} {M : tM} {L : tL} {v1 : Value} {b : Nat} : rn ca C_X11_plan 2 L [v1, .ref b] M = if clsO b = some 11 then rnk ca C_X11_plan 5 L [] (ca m_X11_rowIn [.ref b, v1] M) else none := (rn_at k_X11_plan_2).trans rnx_ite
theorem k_X11_plan_5 : lk 5 C_X11_plan = some (.ifCond .ge 13, (18, 0, 0, 0)) := by decide +kernel
theorem s_X11_plan_5 {ca : Nat → List Value → tM → tO} {M : tM} {L : tL} {x : Int32} {S : List Value} : rn ca C_X11_plan 5 L (.int x :: S) M = if iI 0 ≤ x then rn ca C_X11_plan 18 L S M else rn ca C_X11_plan 8 L S M := (rn_at k_X11_plan_5).trans rnx_ite
theorem k_X11_plan_8 : lk 8 C_X11_plan = some (.aload_n 0, (0, 0, 0, 0)) := by decide +kernel
theorem s_X11_plan_8 {ca : Nat → List Value → tM → tO} {M : tM} {a1 a2 a3 : Option Value} {x : Nat} {S : List Value} : rn ca C_X11_plan 8 [some (.ref x), a1, a2, a3] S M = rn ca C_X11_plan 9 [some (.ref x), a1, a2, a3] (.ref x :: S) M := (rn_at k_X11_plan_8).trans rfl
theorem k_X11_plan_9 : lk 9 C_X11_plan = some (.aload_n 0, (0, 0, 0, 0)) := by decide +kernel
theorem s_X11_plan_9 {ca : Nat → List Value → tM → tO} {M : tM} {a1 a2 a3 : Option Value} {x : Nat} {S : List Value} : rn ca C_X11_plan 9 [some (.ref x), a1, a2, a3] S M = rn ca C_X11_plan 10 [some (.ref x), a1, a2, a3] (.ref x :: S) M := (rn_at k_X11_plan_9).trans rfl
theorem k_X11_plan_10 : lk 10 C_X11_plan = some (.iload_n 1, (0, 0, 0, 0)) := by decide +kernel
theorem s_X11_plan_10 {ca : Nat → List Value → tM → tO} {M : tM} {a0 a2 a3 : Option Value} {x : Int32} {S : List Value} : rn ca C_X11_plan 10 [a0, some (.int x), a2, a3] S M = rn ca C_X11_plan 11 [a0, some (.int x), a2, a3] (.int x :: S) M := (rn_at k_X11_plan_10).trans rfl
theorem k_X11_plan_11 : lk 11 C_X11_plan = some (.invokevirtual 126, (172, 1, 11, 236)) := by decide +kernel
theorem s_X11_plan_11 {ca : Nat → List Value → tM → tO} {M : tM} {L : tL} {v1 : Value} {r0 : Nat} {b : Nat} : rn ca C_X11_plan 11 L [v1, .ref b, .ref r0] M = if clsO b = some 11 then rnk ca C_X11_plan 14 L [.ref r0] (ca m_X11_rowIn [.ref b, v1] M) else none := (rn_at k_X11_plan_11).trans rnx_ite
theorem k_X11_plan_14 : lk 14 C_X11_plan = some (.invokevirtual 83, (144, 1, 11, 200)) := by decide +kernel
theorem s_X11_plan_14 {ca : Nat → List Value → tM → tO} {M : tM} {L : tL} {v1 : Value} {b : Nat} : rn ca C_X11_plan 14 L [v1, .ref b] M = if clsO b = some 11 then rnk ca C_X11_plan 17 L [] (ca m_X11_refuse [.ref b, v1] M) else none := (rn_at k_X11_plan_14).trans rnx_ite
theorem k_X11_plan_17 : lk 17 C_X11_plan = some (.ireturn, (0, 0, 0, 0)) := by decide +kernel
theorem s_X11_plan_17 {ca : Nat → List Value → tM → tO} {M : tM} {L : tL} {x : Int32} : rn ca C_X11_plan 17 L [.int x] M = some (some (.int x), M) := (rn_at k_X11_plan_17).trans rfl
theorem k_X11_plan_18 : lk 18 C_X11_plan = some (.aload_n 0, (0, 0, 0, 0)) := by decide +kernel
theorem s_X11_plan_18 {ca : Nat → List Value → tM → tO} {M : tM} {a1 a2 a3 : Option Value} {x : Nat} {S : List Value} : rn ca C_X11_plan 18 [some (.ref x), a1, a2, a3] S M = rn ca C_X11_plan 19 [some (.ref x), a1, a2, a3] (.ref x :: S) M := (rn_at k_X11_plan_18).trans rfl
theorem k_X11_plan_19 : lk 19 C_X11_plan = some (.getfield 17, (11, 1, 0, 147)) := by decide +kernel
theorem s_X11_plan_19 {ca : Nat → List Value → tM → tO} {M : tM} {L : tL} {b : Nat} {S : List Value} : rn ca C_X11_plan 19 L (.ref b :: S) M = if clsO b = some 11 then rn ca C_X11_plan 22 L (fv M b 1 :: S) M else none := (rn_at k_X11_plan_19).trans rnx_ite
theorem k_X11_plan_22 : lk 22 C_X11_plan = some (.aload_n 0, (0, 0, 0, 0)) := by decide +kernel
theorem s_X11_plan_22 {ca : Nat → List Value → tM → tO} {M : tM} {a1 a2 a3 : Option Value} {x : Nat} {S : List Value} : rn ca C_X11_plan 22 [some (.ref x), a1, a2, a3] S M = rn ca C_X11_plan 23 [some (.ref x), a1, a2, a3] (.ref x :: S) M := (rn_at k_X11_plan_22).trans rfl
theorem k_X11_plan_23 : lk 23 C_X11_plan = some (.getfield 23, (11, 3, 0, 149)) := by decide +kernel
theorem s_X11_plan_23 {ca : Nat → List Value → tM → tO} {M : tM} {L : tL} {b : Nat} {S : List Value} : rn ca C_X11_plan 23 L (.ref b :: S) M = if clsO b = some 11 then rn ca C_X11_plan 26 L (fv M b 3 :: S) M else none := (rn_at k_X11_plan_23).trans rnx_ite
theorem k_X11_plan_26 : lk 26 C_X11_plan = some (.invokestatic 183, (146, 2, 0, 616)) := by decide +kernel
theorem s_X11_plan_26 {ca : Nat → List Value → tM → tO} {M : tM} {L : tL} {v1 v2 : Value} : rn ca C_X11_plan 26 L [v2, v1] M = rnk ca C_X11_plan 29 L [] (ca m_X11_move [v1, v2] M) := (rn_at k_X11_plan_26).trans rfl
theorem k_X11_plan_29 : lk 29 C_X11_plan = some (.aload_n 0, (0, 0, 0, 0)) := by decide +kernel
theorem s_X11_plan_29 {ca : Nat → List Value → tM → tO} {M : tM} {a1 a2 a3 : Option Value} {x : Nat} {S : List Value} : rn ca C_X11_plan 29 [some (.ref x), a1, a2, a3] S M = rn ca C_X11_plan 30 [some (.ref x), a1, a2, a3] (.ref x :: S) M := (rn_at k_X11_plan_29).trans rfl
theorem k_X11_plan_30 : lk 30 C_X11_plan = some (.iload_n 1, (0, 0, 0, 0)) := by decide +kernel
theorem s_X11_plan_30 {ca : Nat → List Value → tM → tO} {M : tM} {a0 a2 a3 : Option Value} {x : Int32} {S : List Value} : rn ca C_X11_plan 30 [a0, some (.int x), a2, a3] S M = rn ca C_X11_plan 31 [a0, some (.int x), a2, a3] (.int x :: S) M := (rn_at k_X11_plan_30).trans rfl
theorem k_X11_plan_31 : lk 31 C_X11_plan = some (.putfield 149, (11, 11, 0, 614)) := by decide +kernel
theorem s_X11_plan_31 {ca : Nat → List Value → tM → tO} {M : tM} {L : tL} {b : Nat} {v : Int32} {S : List Value} : rn ca C_X11_plan 31 L (.int v :: .ref b :: S) M = if clsO b = some 11 then rn ca C_X11_plan 34 L S (sI M b 11 v) else none := (rn_at k_X11_plan_31).trans rnx_ite
theorem k_X11_plan_34 : lk 34 C_X11_plan = some (.aload_n 0, (0, 0, 0, 0)) := by decide +kernel
theorem s_X11_plan_34 {ca : Nat → List Value → tM → tO} {M : tM} {a1 a2 a3 : Option Value} {x : Nat} {S : List Value} : rn ca C_X11_plan 34 [some (.ref x), a1, a2, a3] S M = rn ca C_X11_plan 35 [some (.ref x), a1, a2, a3] (.ref x :: S) M := (rn_at k_X11_plan_34).trans rfl
theorem k_X11_plan_35 : lk 35 C_X11_plan = some (.iconst 0, (0, 0, 0, 0)) := by decide +kernel
theorem s_X11_plan_35 {ca : Nat → List Value → tM → tO} {M : tM} {L : tL} {S : List Value} : rn ca C_X11_plan 35 L S M = rn ca C_X11_plan 36 L (.int (iI 0) :: S) M := (rn_at k_X11_plan_35).trans rfl
theorem k_X11_plan_36 : lk 36 C_X11_plan = some (.putfield 146, (11, 12, 0, 615)) := by decide +kernel
theorem s_X11_plan_36 {ca : Nat → List Value → tM → tO} {M : tM} {L : tL} {b : Nat} {v : Int32} {S : List Value} : rn ca C_X11_plan 36 L (.int v :: .ref b :: S) M = if clsO b = some 11 then rn ca C_X11_plan 39 L S (sI M b 12 v) else none := (rn_at k_X11_plan_36).trans rnx_ite
theorem k_X11_plan_39 : lk 39 C_X11_plan = some (.aload_n 0, (0, 0, 0, 0)) := by decide +kernel
theorem s_X11_plan_39 {ca : Nat → List Value → tM → tO} {M : tM} {a1 a2 a3 : Option Value} {x : Nat} {S : List Value} : rn ca C_X11_plan 39 [some (.ref x), a1, a2, a3] S M = rn ca C_X11_plan 40 [some (.ref x), a1, a2, a3] (.ref x :: S) M := (rn_at k_X11_plan_39).trans rfl
theorem k_X11_plan_40 : lk 40 C_X11_plan = some (.iconst (-1), (0, 0, 0, 0)) := by decide +kernel
theorem s_X11_plan_40 {ca : Nat → List Value → tM → tO} {M : tM} {L : tL} {S : List Value} : rn ca C_X11_plan 40 L S M = rn ca C_X11_plan 41 L (.int (iI (-1)) :: S) M := (rn_at k_X11_plan_40).trans rfl
theorem k_X11_plan_41 : lk 41 C_X11_plan = some (.putfield 60, (11, 13, 0, 157)) := by decide +kernel
theorem s_X11_plan_41 {ca : Nat → List Value → tM → tO} {M : tM} {L : tL} {b : Nat} {v : Int32} {S : List Value} : rn ca C_X11_plan 41 L (.int v :: .ref b :: S) M = if clsO b = some 11 then rn ca C_X11_plan 44 L S (sI M b 13 v) else none := (rn_at k_X11_plan_41).trans rnx_ite
theorem k_X11_plan_44 : lk 44 C_X11_plan = some (.iconst 0, (0, 0, 0, 0)) := by decide +kernel
theorem s_X11_plan_44 {ca : Nat → List Value → tM → tO} {M : tM} {L : tL} {S : List Value} : rn ca C_X11_plan 44 L S M = rn ca C_X11_plan 45 L (.int (iI 0) :: S) M := (rn_at k_X11_plan_44).trans rfl
theorem k_X11_plan_45 : lk 45 C_X11_plan = some (.istore_n 2, (0, 0, 0, 0)) := by decide +kernel
theorem s_X11_plan_45 {ca : Nat → List Value → tM → tO} {M : tM} {a0 a1 a2 a3 : Option Value} {x : Int32} {S : List Value} : rn ca C_X11_plan 45 [a0, a1, a2, a3] (.int x :: S) M = rn ca C_X11_plan 46 [a0, a1, some (.int x), a3] S M := (rn_at k_X11_plan_45).trans rfl
theorem k_X11_plan_46 : lk 46 C_X11_plan = some (.aload_n 0, (0, 0, 0, 0)) := by decide +kernel
theorem s_X11_plan_46 {ca : Nat → List Value → tM → tO} {M : tM} {a1 a2 a3 : Option Value} {x : Nat} {S : List Value} : rn ca C_X11_plan 46 [some (.ref x), a1, a2, a3] S M = rn ca C_X11_plan 47 [some (.ref x), a1, a2, a3] (.ref x :: S) M := (rn_at k_X11_plan_46).trans rfl
theorem k_X11_plan_47 : lk 47 C_X11_plan = some (.invokevirtual 187, (186, 0, 11, 619)) := by decide +kernel
theorem s_X11_plan_47 {ca : Nat → List Value → tM → tO} {M : tM} {L : tL} {b : Nat} : rn ca C_X11_plan 47 L [.ref b] M = if clsO b = some 11 then rnk ca C_X11_plan 50 L [] (ca m_X11_isItem [.ref b] M) else none := (rn_at k_X11_plan_47).trans rnx_ite
theorem k_X11_plan_50 : lk 50 C_X11_plan = some (.istore_n 3, (0, 0, 0, 0)) := by decide +kernel
theorem s_X11_plan_50 {ca : Nat → List Value → tM → tO} {M : tM} {a0 a1 a2 a3 : Option Value} {x : Int32} {S : List Value} : rn ca C_X11_plan 50 [a0, a1, a2, a3] (.int x :: S) M = rn ca C_X11_plan 51 [a0, a1, a2, some (.int x)] S M := (rn_at k_X11_plan_50).trans rfl
theorem k_X11_plan_51 : lk 51 C_X11_plan = some (.iload_n 3, (0, 0, 0, 0)) := by decide +kernel
theorem s_X11_plan_51 {ca : Nat → List Value → tM → tO} {M : tM} {a0 a1 a2 : Option Value} {x : Int32} {S : List Value} : rn ca C_X11_plan 51 [a0, a1, a2, some (.int x)] S M = rn ca C_X11_plan 52 [a0, a1, a2, some (.int x)] (.int x :: S) M := (rn_at k_X11_plan_51).trans rfl
theorem k_X11_plan_52 : lk 52 C_X11_plan = some (.ifCond .eq 46, (98, 0, 0, 0)) := by decide +kernel
theorem s_X11_plan_52 {ca : Nat → List Value → tM → tO} {M : tM} {L : tL} {x : Int32} {S : List Value} : rn ca C_X11_plan 52 L (.int x :: S) M = if x = iI 0 then rn ca C_X11_plan 98 L S M else rn ca C_X11_plan 55 L S M := (rn_at k_X11_plan_52).trans rnx_ite
theorem k_X11_plan_55 : lk 55 C_X11_plan = some (.iinc 2 1, (0, 0, 0, 0)) := by decide +kernel
theorem s_X11_plan_55 {ca : Nat → List Value → tM → tO} {M : tM} {a0 a1 a3 : Option Value} {x : Int32} {S : List Value} : rn ca C_X11_plan 55 [a0, a1, some (.int x), a3] S M = rn ca C_X11_plan 58 [a0, a1, some (.int (x + iI 1)), a3] S M := (rn_at k_X11_plan_55).trans rfl
theorem k_X11_plan_58 : lk 58 C_X11_plan = some (.aload_n 0, (0, 0, 0, 0)) := by decide +kernel
theorem s_X11_plan_58 {ca : Nat → List Value → tM → tO} {M : tM} {a1 a2 a3 : Option Value} {x : Nat} {S : List Value} : rn ca C_X11_plan 58 [some (.ref x), a1, a2, a3] S M = rn ca C_X11_plan 59 [some (.ref x), a1, a2, a3] (.ref x :: S) M := (rn_at k_X11_plan_58).trans rfl
theorem k_X11_plan_59 : lk 59 C_X11_plan = some (.getfield 146, (11, 12, 0, 615)) := by decide +kernel
theorem s_X11_plan_59 {ca : Nat → List Value → tM → tO} {M : tM} {L : tL} {b : Nat} {S : List Value} : rn ca C_X11_plan 59 L (.ref b :: S) M = if clsO b = some 11 then rn ca C_X11_plan 62 L (fv M b 12 :: S) M else none := (rn_at k_X11_plan_59).trans rnx_ite
theorem k_X11_plan_62 : lk 62 C_X11_plan = some (.aload_n 0, (0, 0, 0, 0)) := by decide +kernel
theorem s_X11_plan_62 {ca : Nat → List Value → tM → tO} {M : tM} {a1 a2 a3 : Option Value} {x : Nat} {S : List Value} : rn ca C_X11_plan 62 [some (.ref x), a1, a2, a3] S M = rn ca C_X11_plan 63 [some (.ref x), a1, a2, a3] (.ref x :: S) M := (rn_at k_X11_plan_62).trans rfl
theorem k_X11_plan_63 : lk 63 C_X11_plan = some (.getfield 29, (11, 6, 0, 151)) := by decide +kernel
theorem s_X11_plan_63 {ca : Nat → List Value → tM → tO} {M : tM} {L : tL} {b : Nat} {S : List Value} : rn ca C_X11_plan 63 L (.ref b :: S) M = if clsO b = some 11 then rn ca C_X11_plan 66 L (fv M b 6 :: S) M else none := (rn_at k_X11_plan_63).trans rnx_ite
theorem k_X11_plan_66 : lk 66 C_X11_plan = some (.iload_n 1, (0, 0, 0, 0)) := by decide +kernel
theorem s_X11_plan_66 {ca : Nat → List Value → tM → tO} {M : tM} {a0 a2 a3 : Option Value} {x : Int32} {S : List Value} : rn ca C_X11_plan 66 [a0, some (.int x), a2, a3] S M = rn ca C_X11_plan 67 [a0, some (.int x), a2, a3] (.int x :: S) M := (rn_at k_X11_plan_66).trans rfl
theorem k_X11_plan_67 : lk 67 C_X11_plan = some (.iaload, (0, 0, 0, 0)) := by decide +kernel
theorem s_X11_plan_67 {ca : Nat → List Value → tM → tO} {M : tM} {L : tL} {a : Nat} {i : Int32} {S : List Value} : rn ca C_X11_plan 67 L (.int i :: .ref a :: S) M = if (akind a = 0 ∨ akind a = 6 ∨ akind a = 7) ∧ inb i (alen M a) then rn ca C_X11_plan 68 L (.int (M.1 a i.toInt.toNat) :: S) M else none := (rn_at k_X11_plan_67).trans rnx_ite
theorem k_X11_plan_68 : lk 68 C_X11_plan = some (.if_icmp .ne 5, (73, 0, 0, 0)) := by decide +kernel
theorem s_X11_plan_68 {ca : Nat → List Value → tM → tO} {M : tM} {L : tL} {x y : Int32} {S : List Value} : rn ca C_X11_plan 68 L (.int y :: .int x :: S) M = if ¬ x = y then rn ca C_X11_plan 73 L S M else rn ca C_X11_plan 71 L S M := (rn_at k_X11_plan_68).trans rnx_ite
theorem k_X11_plan_71 : lk 71 C_X11_plan = some (.iload_n 2, (0, 0, 0, 0)) := by decide +kernel
theorem s_X11_plan_71 {ca : Nat → List Value → tM → tO} {M : tM} {a0 a1 a3 : Option Value} {x : Int32} {S : List Value} : rn ca C_X11_plan 71 [a0, a1, some (.int x), a3] S M = rn ca C_X11_plan 72 [a0, a1, some (.int x), a3] (.int x :: S) M := (rn_at k_X11_plan_71).trans rfl
theorem k_X11_plan_72 : lk 72 C_X11_plan = some (.ireturn, (0, 0, 0, 0)) := by decide +kernel
theorem s_X11_plan_72 {ca : Nat → List Value → tM → tO} {M : tM} {L : tL} {x : Int32} : rn ca C_X11_plan 72 L [.int x] M = some (some (.int x), M) := (rn_at k_X11_plan_72).trans rfl
theorem k_X11_plan_73 : lk 73 C_X11_plan = some (.aload_n 0, (0, 0, 0, 0)) := by decide +kernel
theorem s_X11_plan_73 {ca : Nat → List Value → tM → tO} {M : tM} {a1 a2 a3 : Option Value} {x : Nat} {S : List Value} : rn ca C_X11_plan 73 [some (.ref x), a1, a2, a3] S M = rn ca C_X11_plan 74 [some (.ref x), a1, a2, a3] (.ref x :: S) M := (rn_at k_X11_plan_73).trans rfl
theorem k_X11_plan_74 : lk 74 C_X11_plan = some (.bipush 59, (0, 0, 0, 0)) := by decide +kernel
theorem s_X11_plan_74 {ca : Nat → List Value → tM → tO} {M : tM} {L : tL} {S : List Value} : rn ca C_X11_plan 74 L S M = rn ca C_X11_plan 76 L (.int (iI 59) :: S) M := (rn_at k_X11_plan_74).trans rfl
theorem k_X11_plan_76 : lk 76 C_X11_plan = some (.invokevirtual 169, (183, 1, 11, 647)) := by decide +kernel
theorem s_X11_plan_76 {ca : Nat → List Value → tM → tO} {M : tM} {L : tL} {v1 : Value} {b : Nat} : rn ca C_X11_plan 76 L [v1, .ref b] M = if clsO b = some 11 then rnk ca C_X11_plan 79 L [] (ca m_X11_isLetter [.ref b, v1] M) else none := (rn_at k_X11_plan_76).trans rnx_ite
theorem k_X11_plan_79 : lk 79 C_X11_plan = some (.ifCond .eq 14, (93, 0, 0, 0)) := by decide +kernel
theorem s_X11_plan_79 {ca : Nat → List Value → tM → tO} {M : tM} {L : tL} {x : Int32} {S : List Value} : rn ca C_X11_plan 79 L (.int x :: S) M = if x = iI 0 then rn ca C_X11_plan 93 L S M else rn ca C_X11_plan 82 L S M := (rn_at k_X11_plan_79).trans rnx_ite
theorem k_X11_plan_82 : lk 82 C_X11_plan = some (.aload_n 0, (0, 0, 0, 0)) := by decide +kernel
theorem s_X11_plan_82 {ca : Nat → List Value → tM → tO} {M : tM} {a1 a2 a3 : Option Value} {x : Nat} {S : List Value} : rn ca C_X11_plan 82 [some (.ref x), a1, a2, a3] S M = rn ca C_X11_plan 83 [some (.ref x), a1, a2, a3] (.ref x :: S) M := (rn_at k_X11_plan_82).trans rfl
theorem k_X11_plan_83 : lk 83 C_X11_plan = some (.invokevirtual 187, (186, 0, 11, 619)) := by decide +kernel
theorem s_X11_plan_83 {ca : Nat → List Value → tM → tO} {M : tM} {L : tL} {b : Nat} : rn ca C_X11_plan 83 L [.ref b] M = if clsO b = some 11 then rnk ca C_X11_plan 86 L [] (ca m_X11_isItem [.ref b] M) else none := (rn_at k_X11_plan_83).trans rnx_ite
theorem k_X11_plan_86 : lk 86 C_X11_plan = some (.ifCond .eq 7, (93, 0, 0, 0)) := by decide +kernel
theorem s_X11_plan_86 {ca : Nat → List Value → tM → tO} {M : tM} {L : tL} {x : Int32} {S : List Value} : rn ca C_X11_plan 86 L (.int x :: S) M = if x = iI 0 then rn ca C_X11_plan 93 L S M else rn ca C_X11_plan 89 L S M := (rn_at k_X11_plan_86).trans rnx_ite
theorem k_X11_plan_89 : lk 89 C_X11_plan = some (.iconst 1, (0, 0, 0, 0)) := by decide +kernel
theorem s_X11_plan_89 {ca : Nat → List Value → tM → tO} {M : tM} {L : tL} {S : List Value} : rn ca C_X11_plan 89 L S M = rn ca C_X11_plan 90 L (.int (iI 1) :: S) M := (rn_at k_X11_plan_89).trans rfl
theorem k_X11_plan_90 : lk 90 C_X11_plan = some (.goto 4, (94, 0, 0, 0)) := by decide +kernel
theorem s_X11_plan_90 {ca : Nat → List Value → tM → tO} {M : tM} {L : tL} {S : List Value} : rn ca C_X11_plan 90 L S M = rn ca C_X11_plan 94 L S M := (rn_at k_X11_plan_90).trans rfl
theorem k_X11_plan_93 : lk 93 C_X11_plan = some (.iconst 0, (0, 0, 0, 0)) := by decide +kernel
theorem s_X11_plan_93 {ca : Nat → List Value → tM → tO} {M : tM} {L : tL} {S : List Value} : rn ca C_X11_plan 93 L S M = rn ca C_X11_plan 94 L (.int (iI 0) :: S) M := (rn_at k_X11_plan_93).trans rfl
theorem k_X11_plan_94 : lk 94 C_X11_plan = some (.istore_n 3, (0, 0, 0, 0)) := by decide +kernel
theorem s_X11_plan_94 {ca : Nat → List Value → tM → tO} {M : tM} {a0 a1 a2 a3 : Option Value} {x : Int32} {S : List Value} : rn ca C_X11_plan 94 [a0, a1, a2, a3] (.int x :: S) M = rn ca C_X11_plan 95 [a0, a1, a2, some (.int x)] S M := (rn_at k_X11_plan_94).trans rfl
theorem k_X11_plan_95 : lk 95 C_X11_plan = some (.goto (-44), (51, 0, 0, 0)) := by decide +kernel
theorem s_X11_plan_95 {ca : Nat → List Value → tM → tO} {M : tM} {L : tL} {S : List Value} : rn ca C_X11_plan 95 L S M = rn ca C_X11_plan 51 L S M := (rn_at k_X11_plan_95).trans rfl
theorem k_X11_plan_98 : lk 98 C_X11_plan = some (.aload_n 0, (0, 0, 0, 0)) := by decide +kernel
theorem s_X11_plan_98 {ca : Nat → List Value → tM → tO} {M : tM} {a1 a2 a3 : Option Value} {x : Nat} {S : List Value} : rn ca C_X11_plan 98 [some (.ref x), a1, a2, a3] S M = rn ca C_X11_plan 99 [some (.ref x), a1, a2, a3] (.ref x :: S) M := (rn_at k_X11_plan_98).trans rfl
theorem k_X11_plan_99 : lk 99 C_X11_plan = some (.getfield 23, (11, 3, 0, 149)) := by decide +kernel
theorem s_X11_plan_99 {ca : Nat → List Value → tM → tO} {M : tM} {L : tL} {b : Nat} {S : List Value} : rn ca C_X11_plan 99 L (.ref b :: S) M = if clsO b = some 11 then rn ca C_X11_plan 102 L (fv M b 3 :: S) M else none := (rn_at k_X11_plan_99).trans rnx_ite
theorem k_X11_plan_102 : lk 102 C_X11_plan = some (.aload_n 0, (0, 0, 0, 0)) := by decide +kernel
theorem s_X11_plan_102 {ca : Nat → List Value → tM → tO} {M : tM} {a1 a2 a3 : Option Value} {x : Nat} {S : List Value} : rn ca C_X11_plan 102 [some (.ref x), a1, a2, a3] S M = rn ca C_X11_plan 103 [some (.ref x), a1, a2, a3] (.ref x :: S) M := (rn_at k_X11_plan_102).trans rfl
theorem k_X11_plan_103 : lk 103 C_X11_plan = some (.getfield 17, (11, 1, 0, 147)) := by decide +kernel
theorem s_X11_plan_103 {ca : Nat → List Value → tM → tO} {M : tM} {L : tL} {b : Nat} {S : List Value} : rn ca C_X11_plan 103 L (.ref b :: S) M = if clsO b = some 11 then rn ca C_X11_plan 106 L (fv M b 1 :: S) M else none := (rn_at k_X11_plan_103).trans rnx_ite
theorem k_X11_plan_106 : lk 106 C_X11_plan = some (.invokestatic 183, (146, 2, 0, 616)) := by decide +kernel
theorem s_X11_plan_106 {ca : Nat → List Value → tM → tO} {M : tM} {L : tL} {v1 v2 : Value} : rn ca C_X11_plan 106 L [v2, v1] M = rnk ca C_X11_plan 109 L [] (ca m_X11_move [v1, v2] M) := (rn_at k_X11_plan_106).trans rfl
theorem k_X11_plan_109 : lk 109 C_X11_plan = some (.aload_n 0, (0, 0, 0, 0)) := by decide +kernel
theorem s_X11_plan_109 {ca : Nat → List Value → tM → tO} {M : tM} {a1 a2 a3 : Option Value} {x : Nat} {S : List Value} : rn ca C_X11_plan 109 [some (.ref x), a1, a2, a3] S M = rn ca C_X11_plan 110 [some (.ref x), a1, a2, a3] (.ref x :: S) M := (rn_at k_X11_plan_109).trans rfl
theorem k_X11_plan_110 : lk 110 C_X11_plan = some (.bipush (-6), (0, 0, 0, 0)) := by decide +kernel
theorem s_X11_plan_110 {ca : Nat → List Value → tM → tO} {M : tM} {L : tL} {S : List Value} : rn ca C_X11_plan 110 L S M = rn ca C_X11_plan 112 L (.int (iI (-6)) :: S) M := (rn_at k_X11_plan_110).trans rfl
theorem k_X11_plan_112 : lk 112 C_X11_plan = some (.invokevirtual 83, (144, 1, 11, 200)) := by decide +kernel
theorem s_X11_plan_112 {ca : Nat → List Value → tM → tO} {M : tM} {L : tL} {v1 : Value} {b : Nat} : rn ca C_X11_plan 112 L [v1, .ref b] M = if clsO b = some 11 then rnk ca C_X11_plan 115 L [] (ca m_X11_refuse [.ref b, v1] M) else none := (rn_at k_X11_plan_112).trans rnx_ite
theorem k_X11_plan_115 : lk 115 C_X11_plan = some (.ireturn, (0, 0, 0, 0)) := by decide +kernel
theorem s_X11_plan_115 {ca : Nat → List Value → tM → tO} {M : tM} {L : tL} {x : Int32} : rn ca C_X11_plan 115 L [.int x] M = some (some (.int x), M) := (rn_at k_X11_plan_115).trans rfl
theorem k_X11_fault_0 : lk 0 C_X11_fault = some (.aload_n 0, (0, 0, 0, 0)) := by decide +kernel
theorem s_X11_fault_0 {ca : Nat → List Value → tM → tO} {M : tM} {x : Nat} {S : List Value} : rn ca C_X11_fault 0 [some (.ref x)] S M = rn ca C_X11_fault 1 [some (.ref x)] (.ref x :: S) M := (rn_at k_X11_fault_0).trans rfl
theorem k_X11_fault_1 : lk 1 C_X11_fault = some (.getfield 60, (11, 13, 0, 157)) := by decide +kernel
theorem s_X11_fault_1 {ca : Nat → List Value → tM → tO} {M : tM} {L : tL} {b : Nat} {S : List Value} : rn ca C_X11_fault 1 L (.ref b :: S) M = if clsO b = some 11 then rn ca C_X11_fault 4 L (fv M b 13 :: S) M else none := (rn_at k_X11_fault_1).trans rnx_ite
theorem k_X11_fault_4 : lk 4 C_X11_fault = some (.ireturn, (0, 0, 0, 0)) := by decide +kernel
theorem s_X11_fault_4 {ca : Nat → List Value → tM → tO} {M : tM} {L : tL} {x : Int32} : rn ca C_X11_fault 4 L [.int x] M = some (some (.int x), M) := (rn_at k_X11_fault_4).trans rfl
theorem k_X11_may_0 : lk 0 C_X11_may = some (.aload_n 0, (0, 0, 0, 0)) := by decide +kernel
theorem s_X11_may_0 {ca : Nat → List Value → tM → tO} {M : tM} {a1 a2 a3 a4 : Option Value} {x : Nat} {S : List Value} : rn ca C_X11_may 0 [some (.ref x), a1, a2, a3, a4] S M = rn ca C_X11_may 1 [some (.ref x), a1, a2, a3, a4] (.ref x :: S) M := (rn_at k_X11_may_0).trans rfl
theorem k_X11_may_1 : lk 1 C_X11_may = some (.iload_n 1, (0, 0, 0, 0)) := by decide +kernel
theorem s_X11_may_1 {ca : Nat → List Value → tM → tO} {M : tM} {a0 a2 a3 a4 : Option Value} {x : Int32} {S : List Value} : rn ca C_X11_may 1 [a0, some (.int x), a2, a3, a4] S M = rn ca C_X11_may 2 [a0, some (.int x), a2, a3, a4] (.int x :: S) M := (rn_at k_X11_may_1).trans rfl
theorem k_X11_may_2 : lk 2 C_X11_may = some (.invokevirtual 134, (155, 1, 11, 327)) := by decide +kernel
theorem s_X11_may_2 {ca : Nat → List Value → tM → tO} {M : tM} {L : tL} {v1 : Value} {b : Nat} : rn ca C_X11_may 2 L [v1, .ref b] M = if clsO b = some 11 then rnk ca C_X11_may 5 L [] (ca m_X11_kind [.ref b, v1] M) else none := (rn_at k_X11_may_2).trans rnx_ite
theorem k_X11_may_5 : lk 5 C_X11_may = some (.istore 4, (0, 0, 0, 0)) := by decide +kernel
theorem s_X11_may_5 {ca : Nat → List Value → tM → tO} {M : tM} {a0 a1 a2 a3 a4 : Option Value} {x : Int32} {S : List Value} : rn ca C_X11_may 5 [a0, a1, a2, a3, a4] (.int x :: S) M = rn ca C_X11_may 7 [a0, a1, a2, a3, some (.int x)] S M := (rn_at k_X11_may_5).trans rfl
theorem k_X11_may_7 : lk 7 C_X11_may = some (.iload 4, (0, 0, 0, 0)) := by decide +kernel
theorem s_X11_may_7 {ca : Nat → List Value → tM → tO} {M : tM} {a0 a1 a2 a3 : Option Value} {x : Int32} {S : List Value} : rn ca C_X11_may 7 [a0, a1, a2, a3, some (.int x)] S M = rn ca C_X11_may 9 [a0, a1, a2, a3, some (.int x)] (.int x :: S) M := (rn_at k_X11_may_7).trans rfl
theorem k_X11_may_9 : lk 9 C_X11_may = some (.iconst 5, (0, 0, 0, 0)) := by decide +kernel
theorem s_X11_may_9 {ca : Nat → List Value → tM → tO} {M : tM} {L : tL} {S : List Value} : rn ca C_X11_may 9 L S M = rn ca C_X11_may 10 L (.int (iI 5) :: S) M := (rn_at k_X11_may_9).trans rfl
theorem k_X11_may_10 : lk 10 C_X11_may = some (.if_icmp .eq 34, (44, 0, 0, 0)) := by decide +kernel
theorem s_X11_may_10 {ca : Nat → List Value → tM → tO} {M : tM} {L : tL} {x y : Int32} {S : List Value} : rn ca C_X11_may 10 L (.int y :: .int x :: S) M = if x = y then rn ca C_X11_may 44 L S M else rn ca C_X11_may 13 L S M := (rn_at k_X11_may_10).trans rnx_ite
theorem k_X11_may_13 : lk 13 C_X11_may = some (.aload_n 0, (0, 0, 0, 0)) := by decide +kernel
theorem s_X11_may_13 {ca : Nat → List Value → tM → tO} {M : tM} {a1 a2 a3 a4 : Option Value} {x : Nat} {S : List Value} : rn ca C_X11_may 13 [some (.ref x), a1, a2, a3, a4] S M = rn ca C_X11_may 14 [some (.ref x), a1, a2, a3, a4] (.ref x :: S) M := (rn_at k_X11_may_13).trans rfl
theorem k_X11_may_14 : lk 14 C_X11_may = some (.iload_n 2, (0, 0, 0, 0)) := by decide +kernel
theorem s_X11_may_14 {ca : Nat → List Value → tM → tO} {M : tM} {a0 a1 a3 a4 : Option Value} {x : Int32} {S : List Value} : rn ca C_X11_may 14 [a0, a1, some (.int x), a3, a4] S M = rn ca C_X11_may 15 [a0, a1, some (.int x), a3, a4] (.int x :: S) M := (rn_at k_X11_may_14).trans rfl
theorem k_X11_may_15 : lk 15 C_X11_may = some (.invokevirtual 191, (154, 1, 11, 765)) := by decide +kernel
theorem s_X11_may_15 {ca : Nat → List Value → tM → tO} {M : tM} {L : tL} {v1 : Value} {b : Nat} : rn ca C_X11_may 15 L [v1, .ref b] M = if clsO b = some 11 then rnk ca C_X11_may 18 L [] (ca m_X11_isShut [.ref b, v1] M) else none := (rn_at k_X11_may_15).trans rnx_ite
theorem k_X11_may_18 : lk 18 C_X11_may = some (.ifCond .ne 30, (48, 0, 0, 0)) := by decide +kernel
theorem s_X11_may_18 {ca : Nat → List Value → tM → tO} {M : tM} {L : tL} {x : Int32} {S : List Value} : rn ca C_X11_may 18 L (.int x :: S) M = if ¬ x = iI 0 then rn ca C_X11_may 48 L S M else rn ca C_X11_may 21 L S M := (rn_at k_X11_may_18).trans rnx_ite
theorem k_X11_may_21 : lk 21 C_X11_may = some (.aload_n 0, (0, 0, 0, 0)) := by decide +kernel
theorem s_X11_may_21 {ca : Nat → List Value → tM → tO} {M : tM} {a1 a2 a3 a4 : Option Value} {x : Nat} {S : List Value} : rn ca C_X11_may 21 [some (.ref x), a1, a2, a3, a4] S M = rn ca C_X11_may 22 [some (.ref x), a1, a2, a3, a4] (.ref x :: S) M := (rn_at k_X11_may_21).trans rfl
theorem k_X11_may_22 : lk 22 C_X11_may = some (.iload_n 2, (0, 0, 0, 0)) := by decide +kernel
theorem s_X11_may_22 {ca : Nat → List Value → tM → tO} {M : tM} {a0 a1 a3 a4 : Option Value} {x : Int32} {S : List Value} : rn ca C_X11_may 22 [a0, a1, some (.int x), a3, a4] S M = rn ca C_X11_may 23 [a0, a1, some (.int x), a3, a4] (.int x :: S) M := (rn_at k_X11_may_22).trans rfl
theorem k_X11_may_23 : lk 23 C_X11_may = some (.invokevirtual 194, (153, 1, 11, 687)) := by decide +kernel
theorem s_X11_may_23 {ca : Nat → List Value → tM → tO} {M : tM} {L : tL} {v1 : Value} {b : Nat} : rn ca C_X11_may 23 L [v1, .ref b] M = if clsO b = some 11 then rnk ca C_X11_may 26 L [] (ca m_X11_bore [.ref b, v1] M) else none := (rn_at k_X11_may_23).trans rnx_ite
theorem k_X11_may_26 : lk 26 C_X11_may = some (.aload_n 0, (0, 0, 0, 0)) := by decide +kernel
theorem s_X11_may_26 {ca : Nat → List Value → tM → tO} {M : tM} {a1 a2 a3 a4 : Option Value} {x : Nat} {S : List Value} : rn ca C_X11_may 26 [some (.ref x), a1, a2, a3, a4] S M = rn ca C_X11_may 27 [some (.ref x), a1, a2, a3, a4] (.ref x :: S) M := (rn_at k_X11_may_26).trans rfl
theorem k_X11_may_27 : lk 27 C_X11_may = some (.iload_n 1, (0, 0, 0, 0)) := by decide +kernel
theorem s_X11_may_27 {ca : Nat → List Value → tM → tO} {M : tM} {a0 a2 a3 a4 : Option Value} {x : Int32} {S : List Value} : rn ca C_X11_may 27 [a0, some (.int x), a2, a3, a4] S M = rn ca C_X11_may 28 [a0, some (.int x), a2, a3, a4] (.int x :: S) M := (rn_at k_X11_may_27).trans rfl
theorem k_X11_may_28 : lk 28 C_X11_may = some (.invokevirtual 143, (157, 1, 11, 339)) := by decide +kernel
theorem s_X11_may_28 {ca : Nat → List Value → tM → tO} {M : tM} {L : tL} {v1 : Value} {r0 : Int32} {b : Nat} : rn ca C_X11_may 28 L [v1, .ref b, .int r0] M = if clsO b = some 11 then rnk ca C_X11_may 31 L [.int r0] (ca m_X11_weight [.ref b, v1] M) else none := (rn_at k_X11_may_28).trans rnx_ite
theorem k_X11_may_31 : lk 31 C_X11_may = some (.if_icmp .lt 17, (48, 0, 0, 0)) := by decide +kernel
theorem s_X11_may_31 {ca : Nat → List Value → tM → tO} {M : tM} {L : tL} {x y : Int32} {S : List Value} : rn ca C_X11_may 31 L (.int y :: .int x :: S) M = if x < y then rn ca C_X11_may 48 L S M else rn ca C_X11_may 34 L S M := (rn_at k_X11_may_31).trans rnx_ite
theorem k_X11_may_34 : lk 34 C_X11_may = some (.iload_n 3, (0, 0, 0, 0)) := by decide +kernel
theorem s_X11_may_34 {ca : Nat → List Value → tM → tO} {M : tM} {a0 a1 a2 a4 : Option Value} {x : Int32} {S : List Value} : rn ca C_X11_may 34 [a0, a1, a2, some (.int x), a4] S M = rn ca C_X11_may 35 [a0, a1, a2, some (.int x), a4] (.int x :: S) M := (rn_at k_X11_may_34).trans rfl
theorem k_X11_may_35 : lk 35 C_X11_may = some (.ifCond .eq 9, (44, 0, 0, 0)) := by decide +kernel
theorem s_X11_may_35 {ca : Nat → List Value → tM → tO} {M : tM} {L : tL} {x : Int32} {S : List Value} : rn ca C_X11_may 35 L (.int x :: S) M = if x = iI 0 then rn ca C_X11_may 44 L S M else rn ca C_X11_may 38 L S M := (rn_at k_X11_may_35).trans rnx_ite
theorem k_X11_may_38 : lk 38 C_X11_may = some (.iload 4, (0, 0, 0, 0)) := by decide +kernel
theorem s_X11_may_38 {ca : Nat → List Value → tM → tO} {M : tM} {a0 a1 a2 a3 : Option Value} {x : Int32} {S : List Value} : rn ca C_X11_may 38 [a0, a1, a2, a3, some (.int x)] S M = rn ca C_X11_may 40 [a0, a1, a2, a3, some (.int x)] (.int x :: S) M := (rn_at k_X11_may_38).trans rfl
theorem k_X11_may_40 : lk 40 C_X11_may = some (.iconst 4, (0, 0, 0, 0)) := by decide +kernel
theorem s_X11_may_40 {ca : Nat → List Value → tM → tO} {M : tM} {L : tL} {S : List Value} : rn ca C_X11_may 40 L S M = rn ca C_X11_may 41 L (.int (iI 4) :: S) M := (rn_at k_X11_may_40).trans rfl
theorem k_X11_may_41 : lk 41 C_X11_may = some (.if_icmp .eq 7, (48, 0, 0, 0)) := by decide +kernel
theorem s_X11_may_41 {ca : Nat → List Value → tM → tO} {M : tM} {L : tL} {x y : Int32} {S : List Value} : rn ca C_X11_may 41 L (.int y :: .int x :: S) M = if x = y then rn ca C_X11_may 48 L S M else rn ca C_X11_may 44 L S M := (rn_at k_X11_may_41).trans rnx_ite
theorem k_X11_may_44 : lk 44 C_X11_may = some (.iconst 1, (0, 0, 0, 0)) := by decide +kernel
theorem s_X11_may_44 {ca : Nat → List Value → tM → tO} {M : tM} {L : tL} {S : List Value} : rn ca C_X11_may 44 L S M = rn ca C_X11_may 45 L (.int (iI 1) :: S) M := (rn_at k_X11_may_44).trans rfl
theorem k_X11_may_45 : lk 45 C_X11_may = some (.goto 4, (49, 0, 0, 0)) := by decide +kernel
theorem s_X11_may_45 {ca : Nat → List Value → tM → tO} {M : tM} {L : tL} {S : List Value} : rn ca C_X11_may 45 L S M = rn ca C_X11_may 49 L S M := (rn_at k_X11_may_45).trans rfl
theorem k_X11_may_48 : lk 48 C_X11_may = some (.iconst 0, (0, 0, 0, 0)) := by decide +kernel
theorem s_X11_may_48 {ca : Nat → List Value → tM → tO} {M : tM} {L : tL} {S : List Value} : rn ca C_X11_may 48 L S M = rn ca C_X11_may 49 L (.int (iI 0) :: S) M := (rn_at k_X11_may_48).trans rfl
theorem k_X11_may_49 : lk 49 C_X11_may = some (.ireturn, (1, 0, 0, 0)) := by decide +kernel
theorem s_X11_may_49 {ca : Nat → List Value → tM → tO} {M : tM} {L : tL} {x : Int32} : rn ca C_X11_may 49 L [.int x] M = if x = iI 0 ∨ x = iI 1 then some (some (.int x), M) else none := (rn_at k_X11_may_49).trans rnx_ite
theorem k_X11_timeOf_0 : lk 0 C_X11_timeOf = some (.aload_n 0, (0, 0, 0, 0)) := by decide +kernel
theorem s_X11_timeOf_0 {ca : Nat → List Value → tM → tO} {M : tM} {a1 a2 a3 a4 a5 a6 : Option Value} {x : Nat} {S : List Value} : rn ca C_X11_timeOf 0 [some (.ref x), a1, a2, a3, a4, a5, a6] S M = rn ca C_X11_timeOf 1 [some (.ref x), a1, a2, a3, a4, a5, a6] (.ref x :: S) M := (rn_at k_X11_timeOf_0).trans rfl
theorem k_X11_timeOf_1 : lk 1 C_X11_timeOf = some (.iload_n 1, (0, 0, 0, 0)) := by decide +kernel
theorem s_X11_timeOf_1 {ca : Nat → List Value → tM → tO} {M : tM} {a0 a2 a3 a4 a5 a6 : Option Value} {x : Int32} {S : List Value} : rn ca C_X11_timeOf 1 [a0, some (.int x), a2, a3, a4, a5, a6] S M = rn ca C_X11_timeOf 2 [a0, some (.int x), a2, a3, a4, a5, a6] (.int x :: S) M := (rn_at k_X11_timeOf_1).trans rfl
theorem k_X11_timeOf_2 : lk 2 C_X11_timeOf = some (.invokevirtual 134, (155, 1, 11, 327)) := by decide +kernel
theorem s_X11_timeOf_2 {ca : Nat → List Value → tM → tO} {M : tM} {L : tL} {v1 : Value} {b : Nat} : rn ca C_X11_timeOf 2 L [v1, .ref b] M = if clsO b = some 11 then rnk ca C_X11_timeOf 5 L [] (ca m_X11_kind [.ref b, v1] M) else none := (rn_at k_X11_timeOf_2).trans rnx_ite
theorem k_X11_timeOf_5 : lk 5 C_X11_timeOf = some (.istore_n 3, (0, 0, 0, 0)) := by decide +kernel
theorem s_X11_timeOf_5 {ca : Nat → List Value → tM → tO} {M : tM} {a0 a1 a2 a3 a4 a5 a6 : Option Value} {x : Int32} {S : List Value} : rn ca C_X11_timeOf 5 [a0, a1, a2, a3, a4, a5, a6] (.int x :: S) M = rn ca C_X11_timeOf 6 [a0, a1, a2, some (.int x), a4, a5, a6] S M := (rn_at k_X11_timeOf_5).trans rfl
theorem k_X11_timeOf_6 : lk 6 C_X11_timeOf = some (.iload_n 3, (0, 0, 0, 0)) := by decide +kernel
theorem s_X11_timeOf_6 {ca : Nat → List Value → tM → tO} {M : tM} {a0 a1 a2 a4 a5 a6 : Option Value} {x : Int32} {S : List Value} : rn ca C_X11_timeOf 6 [a0, a1, a2, some (.int x), a4, a5, a6] S M = rn ca C_X11_timeOf 7 [a0, a1, a2, some (.int x), a4, a5, a6] (.int x :: S) M := (rn_at k_X11_timeOf_6).trans rfl
theorem k_X11_timeOf_7 : lk 7 C_X11_timeOf = some (.iconst 5, (0, 0, 0, 0)) := by decide +kernel
theorem s_X11_timeOf_7 {ca : Nat → List Value → tM → tO} {M : tM} {L : tL} {S : List Value} : rn ca C_X11_timeOf 7 L S M = rn ca C_X11_timeOf 8 L (.int (iI 5) :: S) M := (rn_at k_X11_timeOf_7).trans rfl
theorem k_X11_timeOf_8 : lk 8 C_X11_timeOf = some (.if_icmp .ne 9, (17, 0, 0, 0)) := by decide +kernel
theorem s_X11_timeOf_8 {ca : Nat → List Value → tM → tO} {M : tM} {L : tL} {x y : Int32} {S : List Value} : rn ca C_X11_timeOf 8 L (.int y :: .int x :: S) M = if ¬ x = y then rn ca C_X11_timeOf 17 L S M else rn ca C_X11_timeOf 11 L S M := (rn_at k_X11_timeOf_8).trans rnx_ite
theorem k_X11_timeOf_11 : lk 11 C_X11_timeOf = some (.aload_n 0, (0, 0, 0, 0)) := by decide +kernel
theorem s_X11_timeOf_11 {ca : Nat → List Value → tM → tO} {M : tM} {a1 a2 a3 a4 a5 a6 : Option Value} {x : Nat} {S : List Value} : rn ca C_X11_timeOf 11 [some (.ref x), a1, a2, a3, a4, a5, a6] S M = rn ca C_X11_timeOf 12 [some (.ref x), a1, a2, a3, a4, a5, a6] (.ref x :: S) M := (rn_at k_X11_timeOf_11).trans rfl
theorem k_X11_timeOf_12 : lk 12 C_X11_timeOf = some (.iload_n 2, (0, 0, 0, 0)) := by decide +kernel
theorem s_X11_timeOf_12 {ca : Nat → List Value → tM → tO} {M : tM} {a0 a1 a3 a4 a5 a6 : Option Value} {x : Int32} {S : List Value} : rn ca C_X11_timeOf 12 [a0, a1, some (.int x), a3, a4, a5, a6] S M = rn ca C_X11_timeOf 13 [a0, a1, some (.int x), a3, a4, a5, a6] (.int x :: S) M := (rn_at k_X11_timeOf_12).trans rfl
theorem k_X11_timeOf_13 : lk 13 C_X11_timeOf = some (.invokevirtual 197, (152, 1, 11, 683)) := by decide +kernel
theorem s_X11_timeOf_13 {ca : Nat → List Value → tM → tO} {M : tM} {L : tL} {v1 : Value} {b : Nat} : rn ca C_X11_timeOf 13 L [v1, .ref b] M = if clsO b = some 11 then rnk ca C_X11_timeOf 16 L [] (ca m_X11_length [.ref b, v1] M) else none := (rn_at k_X11_timeOf_13).trans rnx_ite
theorem k_X11_timeOf_16 : lk 16 C_X11_timeOf = some (.ireturn, (0, 0, 0, 0)) := by decide +kernel
theorem s_X11_timeOf_16 {ca : Nat → List Value → tM → tO} {M : tM} {L : tL} {x : Int32} : rn ca C_X11_timeOf 16 L [.int x] M = some (some (.int x), M) := (rn_at k_X11_timeOf_16).trans rfl
theorem k_X11_timeOf_17 : lk 17 C_X11_timeOf = some (.iload_n 3, (0, 0, 0, 0)) := by decide +kernel
theorem s_X11_timeOf_17 {ca : Nat → List Value → tM → tO} {M : tM} {a0 a1 a2 a4 a5 a6 : Option Value} {x : Int32} {S : List Value} : rn ca C_X11_timeOf 17 [a0, a1, a2, some (.int x), a4, a5, a6] S M = rn ca C_X11_timeOf 18 [a0, a1, a2, some (.int x), a4, a5, a6] (.int x :: S) M := (rn_at k_X11_timeOf_17).trans rfl
theorem k_X11_timeOf_18 : lk 18 C_X11_timeOf = some (.iconst 2, (0, 0, 0, 0)) := by decide +kernel
theorem s_X11_timeOf_18 {ca : Nat → List Value → tM → tO} {M : tM} {L : tL} {S : List Value} : rn ca C_X11_timeOf 18 L S M = rn ca C_X11_timeOf 19 L (.int (iI 2) :: S) M := (rn_at k_X11_timeOf_18).trans rfl
theorem k_X11_timeOf_19 : lk 19 C_X11_timeOf = some (.if_icmp .eq 9, (28, 0, 0, 0)) := by decide +kernel
theorem s_X11_timeOf_19 {ca : Nat → List Value → tM → tO} {M : tM} {L : tL} {x y : Int32} {S : List Value} : rn ca C_X11_timeOf 19 L (.int y :: .int x :: S) M = if x = y then rn ca C_X11_timeOf 28 L S M else rn ca C_X11_timeOf 22 L S M := (rn_at k_X11_timeOf_19).trans rnx_ite
theorem k_X11_timeOf_22 : lk 22 C_X11_timeOf = some (.iload_n 3, (0, 0, 0, 0)) := by decide +kernel
theorem s_X11_timeOf_22 {ca : Nat → List Value → tM → tO} {M : tM} {a0 a1 a2 a4 a5 a6 : Option Value} {x : Int32} {S : List Value} : rn ca C_X11_timeOf 22 [a0, a1, a2, some (.int x), a4, a5, a6] S M = rn ca C_X11_timeOf 23 [a0, a1, a2, some (.int x), a4, a5, a6] (.int x :: S) M := (rn_at k_X11_timeOf_22).trans rfl
theorem k_X11_timeOf_23 : lk 23 C_X11_timeOf = some (.bipush 6, (0, 0, 0, 0)) := by decide +kernel
theorem s_X11_timeOf_23 {ca : Nat → List Value → tM → tO} {M : tM} {L : tL} {S : List Value} : rn ca C_X11_timeOf 23 L S M = rn ca C_X11_timeOf 25 L (.int (iI 6) :: S) M := (rn_at k_X11_timeOf_23).trans rfl
theorem k_X11_timeOf_25 : lk 25 C_X11_timeOf = some (.if_icmp .ne 7, (32, 0, 0, 0)) := by decide +kernel
theorem s_X11_timeOf_25 {ca : Nat → List Value → tM → tO} {M : tM} {L : tL} {x y : Int32} {S : List Value} : rn ca C_X11_timeOf 25 L (.int y :: .int x :: S) M = if ¬ x = y then rn ca C_X11_timeOf 32 L S M else rn ca C_X11_timeOf 28 L S M := (rn_at k_X11_timeOf_25).trans rnx_ite
theorem k_X11_timeOf_28 : lk 28 C_X11_timeOf = some (.iconst 1, (0, 0, 0, 0)) := by decide +kernel
theorem s_X11_timeOf_28 {ca : Nat → List Value → tM → tO} {M : tM} {L : tL} {S : List Value} : rn ca C_X11_timeOf 28 L S M = rn ca C_X11_timeOf 29 L (.int (iI 1) :: S) M := (rn_at k_X11_timeOf_28).trans rfl
theorem k_X11_timeOf_29 : lk 29 C_X11_timeOf = some (.goto 4, (33, 0, 0, 0)) := by decide +kernel
theorem s_X11_timeOf_29 {ca : Nat → List Value → tM → tO} {M : tM} {L : tL} {S : List Value} : rn ca C_X11_timeOf 29 L S M = rn ca C_X11_timeOf 33 L S M := (rn_at k_X11_timeOf_29).trans rfl
theorem k_X11_timeOf_32 : lk 32 C_X11_timeOf = some (.iconst 0, (0, 0, 0, 0)) := by decide +kernel
theorem s_X11_timeOf_32 {ca : Nat → List Value → tM → tO} {M : tM} {L : tL} {S : List Value} : rn ca C_X11_timeOf 32 L S M = rn ca C_X11_timeOf 33 L (.int (iI 0) :: S) M := (rn_at k_X11_timeOf_32).trans rfl
theorem k_X11_timeOf_33 : lk 33 C_X11_timeOf = some (.istore 4, (0, 0, 0, 0)) := by decide +kernel
theorem s_X11_timeOf_33 {ca : Nat → List Value → tM → tO} {M : tM} {a0 a1 a2 a3 a4 a5 a6 : Option Value} {x : Int32} {S : List Value} : rn ca C_X11_timeOf 33 [a0, a1, a2, a3, a4, a5, a6] (.int x :: S) M = rn ca C_X11_timeOf 35 [a0, a1, a2, a3, some (.int x), a5, a6] S M := (rn_at k_X11_timeOf_33).trans rfl
theorem k_X11_timeOf_35 : lk 35 C_X11_timeOf = some (.iload 4, (0, 0, 0, 0)) := by decide +kernel
theorem s_X11_timeOf_35 {ca : Nat → List Value → tM → tO} {M : tM} {a0 a1 a2 a3 a5 a6 : Option Value} {x : Int32} {S : List Value} : rn ca C_X11_timeOf 35 [a0, a1, a2, a3, some (.int x), a5, a6] S M = rn ca C_X11_timeOf 37 [a0, a1, a2, a3, some (.int x), a5, a6] (.int x :: S) M := (rn_at k_X11_timeOf_35).trans rfl
theorem k_X11_timeOf_37 : lk 37 C_X11_timeOf = some (.ifCond .eq 16, (53, 0, 0, 0)) := by decide +kernel
theorem s_X11_timeOf_37 {ca : Nat → List Value → tM → tO} {M : tM} {L : tL} {x : Int32} {S : List Value} : rn ca C_X11_timeOf 37 L (.int x :: S) M = if x = iI 0 then rn ca C_X11_timeOf 53 L S M else rn ca C_X11_timeOf 40 L S M := (rn_at k_X11_timeOf_37).trans rnx_ite
theorem k_X11_timeOf_40 : lk 40 C_X11_timeOf = some (.bipush 10, (0, 0, 0, 0)) := by decide +kernel
theorem s_X11_timeOf_40 {ca : Nat → List Value → tM → tO} {M : tM} {L : tL} {S : List Value} : rn ca C_X11_timeOf 40 L S M = rn ca C_X11_timeOf 42 L (.int (iI 10) :: S) M := (rn_at k_X11_timeOf_40).trans rfl
theorem k_X11_timeOf_42 : lk 42 C_X11_timeOf = some (.aload_n 0, (0, 0, 0, 0)) := by decide +kernel
theorem s_X11_timeOf_42 {ca : Nat → List Value → tM → tO} {M : tM} {a1 a2 a3 a4 a5 a6 : Option Value} {x : Nat} {S : List Value} : rn ca C_X11_timeOf 42 [some (.ref x), a1, a2, a3, a4, a5, a6] S M = rn ca C_X11_timeOf 43 [some (.ref x), a1, a2, a3, a4, a5, a6] (.ref x :: S) M := (rn_at k_X11_timeOf_42).trans rfl
theorem k_X11_timeOf_43 : lk 43 C_X11_timeOf = some (.getfield 17, (11, 1, 0, 147)) := by decide +kernel
theorem s_X11_timeOf_43 {ca : Nat → List Value → tM → tO} {M : tM} {L : tL} {b : Nat} {S : List Value} : rn ca C_X11_timeOf 43 L (.ref b :: S) M = if clsO b = some 11 then rn ca C_X11_timeOf 46 L (fv M b 1 :: S) M else none := (rn_at k_X11_timeOf_43).trans rnx_ite
theorem k_X11_timeOf_46 : lk 46 C_X11_timeOf = some (.bipush 111, (0, 0, 0, 0)) := by decide +kernel
theorem s_X11_timeOf_46 {ca : Nat → List Value → tM → tO} {M : tM} {L : tL} {S : List Value} : rn ca C_X11_timeOf 46 L S M = rn ca C_X11_timeOf 48 L (.int (iI 111) :: S) M := (rn_at k_X11_timeOf_46).trans rfl
theorem k_X11_timeOf_48 : lk 48 C_X11_timeOf = some (.iaload, (0, 0, 0, 0)) := by decide +kernel
theorem s_X11_timeOf_48 {ca : Nat → List Value → tM → tO} {M : tM} {L : tL} {a : Nat} {i : Int32} {S : List Value} : rn ca C_X11_timeOf 48 L (.int i :: .ref a :: S) M = if (akind a = 0 ∨ akind a = 6 ∨ akind a = 7) ∧ inb i (alen M a) then rn ca C_X11_timeOf 49 L (.int (M.1 a i.toInt.toNat) :: S) M else none := (rn_at k_X11_timeOf_48).trans rnx_ite
theorem k_X11_timeOf_49 : lk 49 C_X11_timeOf = some (.isub, (0, 0, 0, 0)) := by decide +kernel
theorem s_X11_timeOf_49 {ca : Nat → List Value → tM → tO} {M : tM} {L : tL} {x y : Int32} {S : List Value} : rn ca C_X11_timeOf 49 L (.int y :: .int x :: S) M = rn ca C_X11_timeOf 50 L (.int (x - y) :: S) M := (rn_at k_X11_timeOf_49).trans rfl
theorem k_X11_timeOf_50 : lk 50 C_X11_timeOf = some (.goto 10, (60, 0, 0, 0)) := by decide +kernel
theorem s_X11_timeOf_50 {ca : Nat → List Value → tM → tO} {M : tM} {L : tL} {S : List Value} : rn ca C_X11_timeOf 50 L S M = rn ca C_X11_timeOf 60 L S M := (rn_at k_X11_timeOf_50).trans rfl
theorem k_X11_timeOf_53 : lk 53 C_X11_timeOf = some (.aload_n 0, (0, 0, 0, 0)) := by decide +kernel
theorem s_X11_timeOf_53 {ca : Nat → List Value → tM → tO} {M : tM} {a1 a2 a3 a4 a5 a6 : Option Value} {x : Nat} {S : List Value} : rn ca C_X11_timeOf 53 [some (.ref x), a1, a2, a3, a4, a5, a6] S M = rn ca C_X11_timeOf 54 [some (.ref x), a1, a2, a3, a4, a5, a6] (.ref x :: S) M := (rn_at k_X11_timeOf_53).trans rfl
theorem k_X11_timeOf_54 : lk 54 C_X11_timeOf = some (.getfield 17, (11, 1, 0, 147)) := by decide +kernel
theorem s_X11_timeOf_54 {ca : Nat → List Value → tM → tO} {M : tM} {L : tL} {b : Nat} {S : List Value} : rn ca C_X11_timeOf 54 L (.ref b :: S) M = if clsO b = some 11 then rn ca C_X11_timeOf 57 L (fv M b 1 :: S) M else none := (rn_at k_X11_timeOf_54).trans rnx_ite
theorem k_X11_timeOf_57 : lk 57 C_X11_timeOf = some (.bipush 111, (0, 0, 0, 0)) := by decide +kernel
theorem s_X11_timeOf_57 {ca : Nat → List Value → tM → tO} {M : tM} {L : tL} {S : List Value} : rn ca C_X11_timeOf 57 L S M = rn ca C_X11_timeOf 59 L (.int (iI 111) :: S) M := (rn_at k_X11_timeOf_57).trans rfl
theorem k_X11_timeOf_59 : lk 59 C_X11_timeOf = some (.iaload, (0, 0, 0, 0)) := by decide +kernel
theorem s_X11_timeOf_59 {ca : Nat → List Value → tM → tO} {M : tM} {L : tL} {a : Nat} {i : Int32} {S : List Value} : rn ca C_X11_timeOf 59 L (.int i :: .ref a :: S) M = if (akind a = 0 ∨ akind a = 6 ∨ akind a = 7) ∧ inb i (alen M a) then rn ca C_X11_timeOf 60 L (.int (M.1 a i.toInt.toNat) :: S) M else none := (rn_at k_X11_timeOf_59).trans rnx_ite
theorem k_X11_timeOf_60 : lk 60 C_X11_timeOf = some (.istore 5, (0, 0, 0, 0)) := by decide +kernel
theorem s_X11_timeOf_60 {ca : Nat → List Value → tM → tO} {M : tM} {a0 a1 a2 a3 a4 a5 a6 : Option Value} {x : Int32} {S : List Value} : rn ca C_X11_timeOf 60 [a0, a1, a2, a3, a4, a5, a6] (.int x :: S) M = rn ca C_X11_timeOf 62 [a0, a1, a2, a3, a4, some (.int x), a6] S M := (rn_at k_X11_timeOf_60).trans rfl
theorem k_X11_timeOf_62 : lk 62 C_X11_timeOf = some (.aload_n 0, (0, 0, 0, 0)) := by decide +kernel
theorem s_X11_timeOf_62 {ca : Nat → List Value → tM → tO} {M : tM} {a1 a2 a3 a4 a5 a6 : Option Value} {x : Nat} {S : List Value} : rn ca C_X11_timeOf 62 [some (.ref x), a1, a2, a3, a4, a5, a6] S M = rn ca C_X11_timeOf 63 [some (.ref x), a1, a2, a3, a4, a5, a6] (.ref x :: S) M := (rn_at k_X11_timeOf_62).trans rfl
theorem k_X11_timeOf_63 : lk 63 C_X11_timeOf = some (.iload_n 2, (0, 0, 0, 0)) := by decide +kernel
theorem s_X11_timeOf_63 {ca : Nat → List Value → tM → tO} {M : tM} {a0 a1 a3 a4 a5 a6 : Option Value} {x : Int32} {S : List Value} : rn ca C_X11_timeOf 63 [a0, a1, some (.int x), a3, a4, a5, a6] S M = rn ca C_X11_timeOf 64 [a0, a1, some (.int x), a3, a4, a5, a6] (.int x :: S) M := (rn_at k_X11_timeOf_63).trans rfl
theorem k_X11_timeOf_64 : lk 64 C_X11_timeOf = some (.invokevirtual 197, (152, 1, 11, 683)) := by decide +kernel
theorem s_X11_timeOf_64 {ca : Nat → List Value → tM → tO} {M : tM} {L : tL} {v1 : Value} {b : Nat} : rn ca C_X11_timeOf 64 L [v1, .ref b] M = if clsO b = some 11 then rnk ca C_X11_timeOf 67 L [] (ca m_X11_length [.ref b, v1] M) else none := (rn_at k_X11_timeOf_64).trans rnx_ite
theorem k_X11_timeOf_67 : lk 67 C_X11_timeOf = some (.aload_n 0, (0, 0, 0, 0)) := by decide +kernel
theorem s_X11_timeOf_67 {ca : Nat → List Value → tM → tO} {M : tM} {a1 a2 a3 a4 a5 a6 : Option Value} {x : Nat} {S : List Value} : rn ca C_X11_timeOf 67 [some (.ref x), a1, a2, a3, a4, a5, a6] S M = rn ca C_X11_timeOf 68 [some (.ref x), a1, a2, a3, a4, a5, a6] (.ref x :: S) M := (rn_at k_X11_timeOf_67).trans rfl
theorem k_X11_timeOf_68 : lk 68 C_X11_timeOf = some (.iload_n 1, (0, 0, 0, 0)) := by decide +kernel
theorem s_X11_timeOf_68 {ca : Nat → List Value → tM → tO} {M : tM} {a0 a2 a3 a4 a5 a6 : Option Value} {x : Int32} {S : List Value} : rn ca C_X11_timeOf 68 [a0, some (.int x), a2, a3, a4, a5, a6] S M = rn ca C_X11_timeOf 69 [a0, some (.int x), a2, a3, a4, a5, a6] (.int x :: S) M := (rn_at k_X11_timeOf_68).trans rfl
theorem k_X11_timeOf_69 : lk 69 C_X11_timeOf = some (.invokevirtual 143, (157, 1, 11, 339)) := by decide +kernel
theorem s_X11_timeOf_69 {ca : Nat → List Value → tM → tO} {M : tM} {L : tL} {v1 : Value} {r0 : Int32} {b : Nat} : rn ca C_X11_timeOf 69 L [v1, .ref b, .int r0] M = if clsO b = some 11 then rnk ca C_X11_timeOf 72 L [.int r0] (ca m_X11_weight [.ref b, v1] M) else none := (rn_at k_X11_timeOf_69).trans rnx_ite
theorem k_X11_timeOf_72 : lk 72 C_X11_timeOf = some (.imul, (0, 0, 0, 0)) := by decide +kernel
theorem s_X11_timeOf_72 {ca : Nat → List Value → tM → tO} {M : tM} {L : tL} {x y : Int32} {S : List Value} : rn ca C_X11_timeOf 72 L (.int y :: .int x :: S) M = rn ca C_X11_timeOf 73 L (.int (x * y) :: S) M := (rn_at k_X11_timeOf_72).trans rfl
theorem k_X11_timeOf_73 : lk 73 C_X11_timeOf = some (.iload 5, (0, 0, 0, 0)) := by decide +kernel
theorem s_X11_timeOf_73 {ca : Nat → List Value → tM → tO} {M : tM} {a0 a1 a2 a3 a4 a6 : Option Value} {x : Int32} {S : List Value} : rn ca C_X11_timeOf 73 [a0, a1, a2, a3, a4, some (.int x), a6] S M = rn ca C_X11_timeOf 75 [a0, a1, a2, a3, a4, some (.int x), a6] (.int x :: S) M := (rn_at k_X11_timeOf_73).trans rfl
theorem k_X11_timeOf_75 : lk 75 C_X11_timeOf = some (.iadd, (0, 0, 0, 0)) := by decide +kernel
theorem s_X11_timeOf_75 {ca : Nat → List Value → tM → tO} {M : tM} {L : tL} {x y : Int32} {S : List Value} : rn ca C_X11_timeOf 75 L (.int y :: .int x :: S) M = rn ca C_X11_timeOf 76 L (.int (x + y) :: S) M := (rn_at k_X11_timeOf_75).trans rfl
theorem k_X11_timeOf_76 : lk 76 C_X11_timeOf = some (.iconst 1, (0, 0, 0, 0)) := by decide +kernel
theorem s_X11_timeOf_76 {ca : Nat → List Value → tM → tO} {M : tM} {L : tL} {S : List Value} : rn ca C_X11_timeOf 76 L S M = rn ca C_X11_timeOf 77 L (.int (iI 1) :: S) M := (rn_at k_X11_timeOf_76).trans rfl
theorem k_X11_timeOf_77 : lk 77 C_X11_timeOf = some (.isub, (0, 0, 0, 0)) := by decide +kernel
theorem s_X11_timeOf_77 {ca : Nat → List Value → tM → tO} {M : tM} {L : tL} {x y : Int32} {S : List Value} : rn ca C_X11_timeOf 77 L (.int y :: .int x :: S) M = rn ca C_X11_timeOf 78 L (.int (x - y) :: S) M := (rn_at k_X11_timeOf_77).trans rfl
theorem k_X11_timeOf_78 : lk 78 C_X11_timeOf = some (.iload 5, (0, 0, 0, 0)) := by decide +kernel
theorem s_X11_timeOf_78 {ca : Nat → List Value → tM → tO} {M : tM} {a0 a1 a2 a3 a4 a6 : Option Value} {x : Int32} {S : List Value} : rn ca C_X11_timeOf 78 [a0, a1, a2, a3, a4, some (.int x), a6] S M = rn ca C_X11_timeOf 80 [a0, a1, a2, a3, a4, some (.int x), a6] (.int x :: S) M := (rn_at k_X11_timeOf_78).trans rfl
theorem k_X11_timeOf_80 : lk 80 C_X11_timeOf = some (.idiv, (0, 0, 0, 0)) := by decide +kernel
theorem s_X11_timeOf_80 {ca : Nat → List Value → tM → tO} {M : tM} {L : tL} {x y : Int32} {S : List Value} : rn ca C_X11_timeOf 80 L (.int y :: .int x :: S) M = if y = iI 0 then none else rn ca C_X11_timeOf 81 L (.int (x / y) :: S) M := (rn_at k_X11_timeOf_80).trans rnx_ite
theorem k_X11_timeOf_81 : lk 81 C_X11_timeOf = some (.istore 6, (0, 0, 0, 0)) := by decide +kernel
theorem s_X11_timeOf_81 {ca : Nat → List Value → tM → tO} {M : tM} {a0 a1 a2 a3 a4 a5 a6 : Option Value} {x : Int32} {S : List Value} : rn ca C_X11_timeOf 81 [a0, a1, a2, a3, a4, a5, a6] (.int x :: S) M = rn ca C_X11_timeOf 83 [a0, a1, a2, a3, a4, a5, some (.int x)] S M := (rn_at k_X11_timeOf_81).trans rfl
theorem k_X11_timeOf_83 : lk 83 C_X11_timeOf = some (.iload_n 3, (0, 0, 0, 0)) := by decide +kernel
theorem s_X11_timeOf_83 {ca : Nat → List Value → tM → tO} {M : tM} {a0 a1 a2 a4 a5 a6 : Option Value} {x : Int32} {S : List Value} : rn ca C_X11_timeOf 83 [a0, a1, a2, some (.int x), a4, a5, a6] S M = rn ca C_X11_timeOf 84 [a0, a1, a2, some (.int x), a4, a5, a6] (.int x :: S) M := (rn_at k_X11_timeOf_83).trans rfl
theorem k_X11_timeOf_84 : lk 84 C_X11_timeOf = some (.iconst 1, (0, 0, 0, 0)) := by decide +kernel
theorem s_X11_timeOf_84 {ca : Nat → List Value → tM → tO} {M : tM} {L : tL} {S : List Value} : rn ca C_X11_timeOf 84 L S M = rn ca C_X11_timeOf 85 L (.int (iI 1) :: S) M := (rn_at k_X11_timeOf_84).trans rfl
theorem k_X11_timeOf_85 : lk 85 C_X11_timeOf = some (.if_icmp .eq 8, (93, 0, 0, 0)) := by decide +kernel
theorem s_X11_timeOf_85 {ca : Nat → List Value → tM → tO} {M : tM} {L : tL} {x y : Int32} {S : List Value} : rn ca C_X11_timeOf 85 L (.int y :: .int x :: S) M = if x = y then rn ca C_X11_timeOf 93 L S M else rn ca C_X11_timeOf 88 L S M := (rn_at k_X11_timeOf_85).trans rnx_ite
theorem k_X11_timeOf_88 : lk 88 C_X11_timeOf = some (.iload 4, (0, 0, 0, 0)) := by decide +kernel
theorem s_X11_timeOf_88 {ca : Nat → List Value → tM → tO} {M : tM} {a0 a1 a2 a3 a5 a6 : Option Value} {x : Int32} {S : List Value} : rn ca C_X11_timeOf 88 [a0, a1, a2, a3, some (.int x), a5, a6] S M = rn ca C_X11_timeOf 90 [a0, a1, a2, a3, some (.int x), a5, a6] (.int x :: S) M := (rn_at k_X11_timeOf_88).trans rfl
theorem k_X11_timeOf_90 : lk 90 C_X11_timeOf = some (.ifCond .eq 13, (103, 0, 0, 0)) := by decide +kernel
theorem s_X11_timeOf_90 {ca : Nat → List Value → tM → tO} {M : tM} {L : tL} {x : Int32} {S : List Value} : rn ca C_X11_timeOf 90 L (.int x :: S) M = if x = iI 0 then rn ca C_X11_timeOf 103 L S M else rn ca C_X11_timeOf 93 L S M := (rn_at k_X11_timeOf_90).trans rnx_ite
theorem k_X11_timeOf_93 : lk 93 C_X11_timeOf = some (.iconst 1, (0, 0, 0, 0)) := by decide +kernel
theorem s_X11_timeOf_93 {ca : Nat → List Value → tM → tO} {M : tM} {L : tL} {S : List Value} : rn ca C_X11_timeOf 93 L S M = rn ca C_X11_timeOf 94 L (.int (iI 1) :: S) M := (rn_at k_X11_timeOf_93).trans rfl
theorem k_X11_timeOf_94 : lk 94 C_X11_timeOf = some (.iload 6, (0, 0, 0, 0)) := by decide +kernel
theorem s_X11_timeOf_94 {ca : Nat → List Value → tM → tO} {M : tM} {a0 a1 a2 a3 a4 a5 : Option Value} {x : Int32} {S : List Value} : rn ca C_X11_timeOf 94 [a0, a1, a2, a3, a4, a5, some (.int x)] S M = rn ca C_X11_timeOf 96 [a0, a1, a2, a3, a4, a5, some (.int x)] (.int x :: S) M := (rn_at k_X11_timeOf_94).trans rfl
theorem k_X11_timeOf_96 : lk 96 C_X11_timeOf = some (.iconst 1, (0, 0, 0, 0)) := by decide +kernel
theorem s_X11_timeOf_96 {ca : Nat → List Value → tM → tO} {M : tM} {L : tL} {S : List Value} : rn ca C_X11_timeOf 96 L S M = rn ca C_X11_timeOf 97 L (.int (iI 1) :: S) M := (rn_at k_X11_timeOf_96).trans rfl
theorem k_X11_timeOf_97 : lk 97 C_X11_timeOf = some (.isub, (0, 0, 0, 0)) := by decide +kernel
theorem s_X11_timeOf_97 {ca : Nat → List Value → tM → tO} {M : tM} {L : tL} {x y : Int32} {S : List Value} : rn ca C_X11_timeOf 97 L (.int y :: .int x :: S) M = rn ca C_X11_timeOf 98 L (.int (x - y) :: S) M := (rn_at k_X11_timeOf_97).trans rfl
theorem k_X11_timeOf_98 : lk 98 C_X11_timeOf = some (.invokestatic 199, (0, 2, 2, 682)) := by decide +kernel
theorem s_X11_timeOf_98 {ca : Nat → List Value → tM → tO} {M : tM} {L : tL} {x y : Int32} : rn ca C_X11_timeOf 98 L [.int y, .int x] M = rn ca C_X11_timeOf 101 L [.int (mxI x y)] M := (rn_at k_X11_timeOf_98).trans rfl
theorem k_X11_timeOf_101 : lk 101 C_X11_timeOf = some (.istore 6, (0, 0, 0, 0)) := by decide +kernel
theorem s_X11_timeOf_101 {ca : Nat → List Value → tM → tO} {M : tM} {a0 a1 a2 a3 a4 a5 a6 : Option Value} {x : Int32} {S : List Value} : rn ca C_X11_timeOf 101 [a0, a1, a2, a3, a4, a5, a6] (.int x :: S) M = rn ca C_X11_timeOf 103 [a0, a1, a2, a3, a4, a5, some (.int x)] S M := (rn_at k_X11_timeOf_101).trans rfl
theorem k_X11_timeOf_103 : lk 103 C_X11_timeOf = some (.iload 6, (0, 0, 0, 0)) := by decide +kernel
theorem s_X11_timeOf_103 {ca : Nat → List Value → tM → tO} {M : tM} {a0 a1 a2 a3 a4 a5 : Option Value} {x : Int32} {S : List Value} : rn ca C_X11_timeOf 103 [a0, a1, a2, a3, a4, a5, some (.int x)] S M = rn ca C_X11_timeOf 105 [a0, a1, a2, a3, a4, a5, some (.int x)] (.int x :: S) M := (rn_at k_X11_timeOf_103).trans rfl
theorem k_X11_timeOf_105 : lk 105 C_X11_timeOf = some (.iload_n 3, (0, 0, 0, 0)) := by decide +kernel
theorem s_X11_timeOf_105 {ca : Nat → List Value → tM → tO} {M : tM} {a0 a1 a2 a4 a5 a6 : Option Value} {x : Int32} {S : List Value} : rn ca C_X11_timeOf 105 [a0, a1, a2, some (.int x), a4, a5, a6] S M = rn ca C_X11_timeOf 106 [a0, a1, a2, some (.int x), a4, a5, a6] (.int x :: S) M := (rn_at k_X11_timeOf_105).trans rfl
theorem k_X11_timeOf_106 : lk 106 C_X11_timeOf = some (.iconst 3, (0, 0, 0, 0)) := by decide +kernel
theorem s_X11_timeOf_106 {ca : Nat → List Value → tM → tO} {M : tM} {L : tL} {S : List Value} : rn ca C_X11_timeOf 106 L S M = rn ca C_X11_timeOf 107 L (.int (iI 3) :: S) M := (rn_at k_X11_timeOf_106).trans rfl
theorem k_X11_timeOf_107 : lk 107 C_X11_timeOf = some (.if_icmp .eq 8, (115, 0, 0, 0)) := by decide +kernel
theorem s_X11_timeOf_107 {ca : Nat → List Value → tM → tO} {M : tM} {L : tL} {x y : Int32} {S : List Value} : rn ca C_X11_timeOf 107 L (.int y :: .int x :: S) M = if x = y then rn ca C_X11_timeOf 115 L S M else rn ca C_X11_timeOf 110 L S M := (rn_at k_X11_timeOf_107).trans rnx_ite
theorem k_X11_timeOf_110 : lk 110 C_X11_timeOf = some (.iload_n 3, (0, 0, 0, 0)) := by decide +kernel
theorem s_X11_timeOf_110 {ca : Nat → List Value → tM → tO} {M : tM} {a0 a1 a2 a4 a5 a6 : Option Value} {x : Int32} {S : List Value} : rn ca C_X11_timeOf 110 [a0, a1, a2, some (.int x), a4, a5, a6] S M = rn ca C_X11_timeOf 111 [a0, a1, a2, some (.int x), a4, a5, a6] (.int x :: S) M := (rn_at k_X11_timeOf_110).trans rfl
theorem k_X11_timeOf_111 : lk 111 C_X11_timeOf = some (.iconst 4, (0, 0, 0, 0)) := by decide +kernel
theorem s_X11_timeOf_111 {ca : Nat → List Value → tM → tO} {M : tM} {L : tL} {S : List Value} : rn ca C_X11_timeOf 111 L S M = rn ca C_X11_timeOf 112 L (.int (iI 4) :: S) M := (rn_at k_X11_timeOf_111).trans rfl
theorem k_X11_timeOf_112 : lk 112 C_X11_timeOf = some (.if_icmp .ne 11, (123, 0, 0, 0)) := by decide +kernel
theorem s_X11_timeOf_112 {ca : Nat → List Value → tM → tO} {M : tM} {L : tL} {x y : Int32} {S : List Value} : rn ca C_X11_timeOf 112 L (.int y :: .int x :: S) M = if ¬ x = y then rn ca C_X11_timeOf 123 L S M else rn ca C_X11_timeOf 115 L S M := (rn_at k_X11_timeOf_112).trans rnx_ite
theorem k_X11_timeOf_115 : lk 115 C_X11_timeOf = some (.aload_n 0, (0, 0, 0, 0)) := by decide +kernel
theorem s_X11_timeOf_115 {ca : Nat → List Value → tM → tO} {M : tM} {a1 a2 a3 a4 a5 a6 : Option Value} {x : Nat} {S : List Value} : rn ca C_X11_timeOf 115 [some (.ref x), a1, a2, a3, a4, a5, a6] S M = rn ca C_X11_timeOf 116 [some (.ref x), a1, a2, a3, a4, a5, a6] (.ref x :: S) M := (rn_at k_X11_timeOf_115).trans rfl
theorem k_X11_timeOf_116 : lk 116 C_X11_timeOf = some (.iload_n 1, (0, 0, 0, 0)) := by decide +kernel
theorem s_X11_timeOf_116 {ca : Nat → List Value → tM → tO} {M : tM} {a0 a2 a3 a4 a5 a6 : Option Value} {x : Int32} {S : List Value} : rn ca C_X11_timeOf 116 [a0, some (.int x), a2, a3, a4, a5, a6] S M = rn ca C_X11_timeOf 117 [a0, some (.int x), a2, a3, a4, a5, a6] (.int x :: S) M := (rn_at k_X11_timeOf_116).trans rfl
theorem k_X11_timeOf_117 : lk 117 C_X11_timeOf = some (.invokevirtual 140, (156, 1, 11, 335)) := by decide +kernel
theorem s_X11_timeOf_117 {ca : Nat → List Value → tM → tO} {M : tM} {L : tL} {v1 : Value} {r0 : Int32} {b : Nat} : rn ca C_X11_timeOf 117 L [v1, .ref b, .int r0] M = if clsO b = some 11 then rnk ca C_X11_timeOf 120 L [.int r0] (ca m_X11_a [.ref b, v1] M) else none := (rn_at k_X11_timeOf_117).trans rnx_ite
theorem k_X11_timeOf_120 : lk 120 C_X11_timeOf = some (.goto 27, (147, 0, 0, 0)) := by decide +kernel
theorem s_X11_timeOf_120 {ca : Nat → List Value → tM → tO} {M : tM} {L : tL} {S : List Value} : rn ca C_X11_timeOf 120 L S M = rn ca C_X11_timeOf 147 L S M := (rn_at k_X11_timeOf_120).trans rfl
theorem k_X11_timeOf_123 : lk 123 C_X11_timeOf = some (.iload_n 3, (0, 0, 0, 0)) := by decide +kernel
theorem s_X11_timeOf_123 {ca : Nat → List Value → tM → tO} {M : tM} {a0 a1 a2 a4 a5 a6 : Option Value} {x : Int32} {S : List Value} : rn ca C_X11_timeOf 123 [a0, a1, a2, some (.int x), a4, a5, a6] S M = rn ca C_X11_timeOf 124 [a0, a1, a2, some (.int x), a4, a5, a6] (.int x :: S) M := (rn_at k_X11_timeOf_123).trans rfl
theorem k_X11_timeOf_124 : lk 124 C_X11_timeOf = some (.bipush 6, (0, 0, 0, 0)) := by decide +kernel
theorem s_X11_timeOf_124 {ca : Nat → List Value → tM → tO} {M : tM} {L : tL} {S : List Value} : rn ca C_X11_timeOf 124 L S M = rn ca C_X11_timeOf 126 L (.int (iI 6) :: S) M := (rn_at k_X11_timeOf_124).trans rfl
theorem k_X11_timeOf_126 : lk 126 C_X11_timeOf = some (.if_icmp .ne 20, (146, 0, 0, 0)) := by decide +kernel
theorem s_X11_timeOf_126 {ca : Nat → List Value → tM → tO} {M : tM} {L : tL} {x y : Int32} {S : List Value} : rn ca C_X11_timeOf 126 L (.int y :: .int x :: S) M = if ¬ x = y then rn ca C_X11_timeOf 146 L S M else rn ca C_X11_timeOf 129 L S M := (rn_at k_X11_timeOf_126).trans rnx_ite
theorem k_X11_timeOf_129 : lk 129 C_X11_timeOf = some (.aload_n 0, (0, 0, 0, 0)) := by decide +kernel
theorem s_X11_timeOf_129 {ca : Nat → List Value → tM → tO} {M : tM} {a1 a2 a3 a4 a5 a6 : Option Value} {x : Nat} {S : List Value} : rn ca C_X11_timeOf 129 [some (.ref x), a1, a2, a3, a4, a5, a6] S M = rn ca C_X11_timeOf 130 [some (.ref x), a1, a2, a3, a4, a5, a6] (.ref x :: S) M := (rn_at k_X11_timeOf_129).trans rfl
theorem k_X11_timeOf_130 : lk 130 C_X11_timeOf = some (.iload_n 2, (0, 0, 0, 0)) := by decide +kernel
theorem s_X11_timeOf_130 {ca : Nat → List Value → tM → tO} {M : tM} {a0 a1 a3 a4 a5 a6 : Option Value} {x : Int32} {S : List Value} : rn ca C_X11_timeOf 130 [a0, a1, some (.int x), a3, a4, a5, a6] S M = rn ca C_X11_timeOf 131 [a0, a1, some (.int x), a3, a4, a5, a6] (.int x :: S) M := (rn_at k_X11_timeOf_130).trans rfl
theorem k_X11_timeOf_131 : lk 131 C_X11_timeOf = some (.invokevirtual 194, (153, 1, 11, 687)) := by decide +kernel
theorem s_X11_timeOf_131 {ca : Nat → List Value → tM → tO} {M : tM} {L : tL} {v1 : Value} {r0 : Int32} {b : Nat} : rn ca C_X11_timeOf 131 L [v1, .ref b, .int r0] M = if clsO b = some 11 then rnk ca C_X11_timeOf 134 L [.int r0] (ca m_X11_bore [.ref b, v1] M) else none := (rn_at k_X11_timeOf_131).trans rnx_ite
theorem k_X11_timeOf_134 : lk 134 C_X11_timeOf = some (.aload_n 0, (0, 0, 0, 0)) := by decide +kernel
theorem s_X11_timeOf_134 {ca : Nat → List Value → tM → tO} {M : tM} {a1 a2 a3 a4 a5 a6 : Option Value} {x : Nat} {S : List Value} : rn ca C_X11_timeOf 134 [some (.ref x), a1, a2, a3, a4, a5, a6] S M = rn ca C_X11_timeOf 135 [some (.ref x), a1, a2, a3, a4, a5, a6] (.ref x :: S) M := (rn_at k_X11_timeOf_134).trans rfl
theorem k_X11_timeOf_135 : lk 135 C_X11_timeOf = some (.iload_n 1, (0, 0, 0, 0)) := by decide +kernel
theorem s_X11_timeOf_135 {ca : Nat → List Value → tM → tO} {M : tM} {a0 a2 a3 a4 a5 a6 : Option Value} {x : Int32} {S : List Value} : rn ca C_X11_timeOf 135 [a0, some (.int x), a2, a3, a4, a5, a6] S M = rn ca C_X11_timeOf 136 [a0, some (.int x), a2, a3, a4, a5, a6] (.int x :: S) M := (rn_at k_X11_timeOf_135).trans rfl
theorem k_X11_timeOf_136 : lk 136 C_X11_timeOf = some (.invokevirtual 143, (157, 1, 11, 339)) := by decide +kernel
theorem s_X11_timeOf_136 {ca : Nat → List Value → tM → tO} {M : tM} {L : tL} {v1 : Value} {r0 : Int32} {r1 : Int32} {b : Nat} : rn ca C_X11_timeOf 136 L [v1, .ref b, .int r0, .int r1] M = if clsO b = some 11 then rnk ca C_X11_timeOf 139 L [.int r0, .int r1] (ca m_X11_weight [.ref b, v1] M) else none := (rn_at k_X11_timeOf_136).trans rnx_ite
theorem k_X11_timeOf_139 : lk 139 C_X11_timeOf = some (.if_icmp .ne 7, (146, 0, 0, 0)) := by decide +kernel
theorem s_X11_timeOf_139 {ca : Nat → List Value → tM → tO} {M : tM} {L : tL} {x y : Int32} {S : List Value} : rn ca C_X11_timeOf 139 L (.int y :: .int x :: S) M = if ¬ x = y then rn ca C_X11_timeOf 146 L S M else rn ca C_X11_timeOf 142 L S M := (rn_at k_X11_timeOf_139).trans rnx_ite
theorem k_X11_timeOf_142 : lk 142 C_X11_timeOf = some (.iconst 2, (0, 0, 0, 0)) := by decide +kernel
theorem s_X11_timeOf_142 {ca : Nat → List Value → tM → tO} {M : tM} {L : tL} {S : List Value} : rn ca C_X11_timeOf 142 L S M = rn ca C_X11_timeOf 143 L (.int (iI 2) :: S) M := (rn_at k_X11_timeOf_142).trans rfl
theorem k_X11_timeOf_143 : lk 143 C_X11_timeOf = some (.goto 4, (147, 0, 0, 0)) := by decide +kernel
theorem s_X11_timeOf_143 {ca : Nat → List Value → tM → tO} {M : tM} {L : tL} {S : List Value} : rn ca C_X11_timeOf 143 L S M = rn ca C_X11_timeOf 147 L S M := (rn_at k_X11_timeOf_143).trans rfl
theorem k_X11_timeOf_146 : lk 146 C_X11_timeOf = some (.iconst 0, (0, 0, 0, 0)) := by decide +kernel
theorem s_X11_timeOf_146 {ca : Nat → List Value → tM → tO} {M : tM} {L : tL} {S : List Value} : rn ca C_X11_timeOf 146 L S M = rn ca C_X11_timeOf 147 L (.int (iI 0) :: S) M := (rn_at k_X11_timeOf_146).trans rfl
theorem k_X11_timeOf_147 : lk 147 C_X11_timeOf = some (.iadd, (0, 0, 0, 0)) := by decide +kernel
theorem s_X11_timeOf_147 {ca : Nat → List Value → tM → tO} {M : tM} {L : tL} {x y : Int32} {S : List Value} : rn ca C_X11_timeOf 147 L (.int y :: .int x :: S) M = rn ca C_X11_timeOf 148 L (.int (x + y) :: S) M := (rn_at k_X11_timeOf_147).trans rfl
theorem k_X11_timeOf_148 : lk 148 C_X11_timeOf = some (.ireturn, (0, 0, 0, 0)) := by decide +kernel
theorem s_X11_timeOf_148 {ca : Nat → List Value → tM → tO} {M : tM} {L : tL} {x : Int32} : rn ca C_X11_timeOf 148 L [.int x] M = some (some (.int x), M) := (rn_at k_X11_timeOf_148).trans rfl
theorem k_X11_time_0 : lk 0 C_X11_time = some (.aload_n 0, (0, 0, 0, 0)) := by decide +kernel
theorem s_X11_time_0 {ca : Nat → List Value → tM → tO} {M : tM} {a1 a2 : Option Value} {x : Nat} {S : List Value} : rn ca C_X11_time 0 [some (.ref x), a1, a2] S M = rn ca C_X11_time 1 [some (.ref x), a1, a2] (.ref x :: S) M := (rn_at k_X11_time_0).trans rfl
theorem k_X11_time_1 : lk 1 C_X11_time = some (.iload_n 1, (0, 0, 0, 0)) := by decide +kernel
theorem s_X11_time_1 {ca : Nat → List Value → tM → tO} {M : tM} {a0 a2 : Option Value} {x : Int32} {S : List Value} : rn ca C_X11_time 1 [a0, some (.int x), a2] S M = rn ca C_X11_time 2 [a0, some (.int x), a2] (.int x :: S) M := (rn_at k_X11_time_1).trans rfl
theorem k_X11_time_2 : lk 2 C_X11_time = some (.i2l, (0, 0, 0, 0)) := by decide +kernel
theorem s_X11_time_2 {ca : Nat → List Value → tM → tO} {M : tM} {L : tL} {x : Int32} {S : List Value} : rn ca C_X11_time 2 L (.int x :: S) M = rn ca C_X11_time 3 L (.long x.toInt64 :: S) M := (rn_at k_X11_time_2).trans rfl
theorem k_X11_time_3 : lk 3 C_X11_time = some (.invokevirtual 114, (149, 1, 11, 302)) := by decide +kernel
theorem s_X11_time_3 {ca : Nat → List Value → tM → tO} {M : tM} {L : tL} {v1 : Value} {b : Nat} : rn ca C_X11_time 3 L [v1, .ref b] M = if clsO b = some 11 then rnk ca C_X11_time 6 L [] (ca m_X11_isCapsule [.ref b, v1] M) else none := (rn_at k_X11_time_3).trans rnx_ite
theorem k_X11_time_6 : lk 6 C_X11_time = some (.ifCond .eq 20, (26, 0, 0, 0)) := by decide +kernel
theorem s_X11_time_6 {ca : Nat → List Value → tM → tO} {M : tM} {L : tL} {x : Int32} {S : List Value} : rn ca C_X11_time 6 L (.int x :: S) M = if x = iI 0 then rn ca C_X11_time 26 L S M else rn ca C_X11_time 9 L S M := (rn_at k_X11_time_6).trans rnx_ite
theorem k_X11_time_9 : lk 9 C_X11_time = some (.aload_n 0, (0, 0, 0, 0)) := by decide +kernel
theorem s_X11_time_9 {ca : Nat → List Value → tM → tO} {M : tM} {a1 a2 : Option Value} {x : Nat} {S : List Value} : rn ca C_X11_time 9 [some (.ref x), a1, a2] S M = rn ca C_X11_time 10 [some (.ref x), a1, a2] (.ref x :: S) M := (rn_at k_X11_time_9).trans rfl
theorem k_X11_time_10 : lk 10 C_X11_time = some (.iload_n 2, (0, 0, 0, 0)) := by decide +kernel
theorem s_X11_time_10 {ca : Nat → List Value → tM → tO} {M : tM} {a0 a1 : Option Value} {x : Int32} {S : List Value} : rn ca C_X11_time 10 [a0, a1, some (.int x)] S M = rn ca C_X11_time 11 [a0, a1, some (.int x)] (.int x :: S) M := (rn_at k_X11_time_10).trans rfl
theorem k_X11_time_11 : lk 11 C_X11_time = some (.invokevirtual 110, (148, 1, 11, 440)) := by decide +kernel
theorem s_X11_time_11 {ca : Nat → List Value → tM → tO} {M : tM} {L : tL} {v1 : Value} {b : Nat} : rn ca C_X11_time 11 L [v1, .ref b] M = if clsO b = some 11 then rnk ca C_X11_time 14 L [] (ca m_X11_isTube [.ref b, v1] M) else none := (rn_at k_X11_time_11).trans rnx_ite
theorem k_X11_time_14 : lk 14 C_X11_time = some (.ifCond .eq 12, (26, 0, 0, 0)) := by decide +kernel
theorem s_X11_time_14 {ca : Nat → List Value → tM → tO} {M : tM} {L : tL} {x : Int32} {S : List Value} : rn ca C_X11_time 14 L (.int x :: S) M = if x = iI 0 then rn ca C_X11_time 26 L S M else rn ca C_X11_time 17 L S M := (rn_at k_X11_time_14).trans rnx_ite
theorem k_X11_time_17 : lk 17 C_X11_time = some (.aload_n 0, (0, 0, 0, 0)) := by decide +kernel
theorem s_X11_time_17 {ca : Nat → List Value → tM → tO} {M : tM} {a1 a2 : Option Value} {x : Nat} {S : List Value} : rn ca C_X11_time 17 [some (.ref x), a1, a2] S M = rn ca C_X11_time 18 [some (.ref x), a1, a2] (.ref x :: S) M := (rn_at k_X11_time_17).trans rfl
theorem k_X11_time_18 : lk 18 C_X11_time = some (.iload_n 1, (0, 0, 0, 0)) := by decide +kernel
theorem s_X11_time_18 {ca : Nat → List Value → tM → tO} {M : tM} {a0 a2 : Option Value} {x : Int32} {S : List Value} : rn ca C_X11_time 18 [a0, some (.int x), a2] S M = rn ca C_X11_time 19 [a0, some (.int x), a2] (.int x :: S) M := (rn_at k_X11_time_18).trans rfl
theorem k_X11_time_19 : lk 19 C_X11_time = some (.iload_n 2, (0, 0, 0, 0)) := by decide +kernel
theorem s_X11_time_19 {ca : Nat → List Value → tM → tO} {M : tM} {a0 a1 : Option Value} {x : Int32} {S : List Value} : rn ca C_X11_time 19 [a0, a1, some (.int x)] S M = rn ca C_X11_time 20 [a0, a1, some (.int x)] (.int x :: S) M := (rn_at k_X11_time_19).trans rfl
theorem k_X11_time_20 : lk 20 C_X11_time = some (.invokevirtual 204, (190, 2, 11, 678)) := by decide +kernel
theorem s_X11_time_20 {ca : Nat → List Value → tM → tO} {M : tM} {L : tL} {v1 v2 : Value} {b : Nat} : rn ca C_X11_time 20 L [v2, v1, .ref b] M = if clsO b = some 11 then rnk ca C_X11_time 23 L [] (ca m_X11_timeOf [.ref b, v1, v2] M) else none := (rn_at k_X11_time_20).trans rnx_ite
theorem k_X11_time_23 : lk 23 C_X11_time = some (.goto 8, (31, 0, 0, 0)) := by decide +kernel
theorem s_X11_time_23 {ca : Nat → List Value → tM → tO} {M : tM} {L : tL} {S : List Value} : rn ca C_X11_time 23 L S M = rn ca C_X11_time 31 L S M := (rn_at k_X11_time_23).trans rfl
theorem k_X11_time_26 : lk 26 C_X11_time = some (.aload_n 0, (0, 0, 0, 0)) := by decide +kernel
theorem s_X11_time_26 {ca : Nat → List Value → tM → tO} {M : tM} {a1 a2 : Option Value} {x : Nat} {S : List Value} : rn ca C_X11_time 26 [some (.ref x), a1, a2] S M = rn ca C_X11_time 27 [some (.ref x), a1, a2] (.ref x :: S) M := (rn_at k_X11_time_26).trans rfl
theorem k_X11_time_27 : lk 27 C_X11_time = some (.iconst (-1), (0, 0, 0, 0)) := by decide +kernel
theorem s_X11_time_27 {ca : Nat → List Value → tM → tO} {M : tM} {L : tL} {S : List Value} : rn ca C_X11_time 27 L S M = rn ca C_X11_time 28 L (.int (iI (-1)) :: S) M := (rn_at k_X11_time_27).trans rfl
theorem k_X11_time_28 : lk 28 C_X11_time = some (.invokevirtual 83, (144, 1, 11, 200)) := by decide +kernel
theorem s_X11_time_28 {ca : Nat → List Value → tM → tO} {M : tM} {L : tL} {v1 : Value} {b : Nat} : rn ca C_X11_time 28 L [v1, .ref b] M = if clsO b = some 11 then rnk ca C_X11_time 31 L [] (ca m_X11_refuse [.ref b, v1] M) else none := (rn_at k_X11_time_28).trans rnx_ite
theorem k_X11_time_31 : lk 31 C_X11_time = some (.ireturn, (0, 0, 0, 0)) := by decide +kernel
theorem s_X11_time_31 {ca : Nat → List Value → tM → tO} {M : tM} {L : tL} {x : Int32} : rn ca C_X11_time 31 L [.int x] M = some (some (.int x), M) := (rn_at k_X11_time_31).trans rfl
theorem k_X11_clear_0 : lk 0 C_X11_clear = some (.iconst 0, (0, 0, 0, 0)) := by decide +kernel
theorem s_X11_clear_0 {ca : Nat → List Value → tM → tO} {M : tM} {L : tL} {S : List Value} : rn ca C_X11_clear 0 L S M = rn ca C_X11_clear 1 L (.int (iI 0) :: S) M := (rn_at k_X11_clear_0).trans rfl
theorem k_X11_clear_1 : lk 1 C_X11_clear = some (.istore_n 1, (0, 0, 0, 0)) := by decide +kernel
theorem s_X11_clear_1 {ca : Nat → List Value → tM → tO} {M : tM} {a0 a1 : Option Value} {x : Int32} {S : List Value} : rn ca C_X11_clear 1 [a0, a1] (.int x :: S) M = rn ca C_X11_clear 2 [a0, some (.int x)] S M := (rn_at k_X11_clear_1).trans rfl
theorem k_X11_clear_2 : lk 2 C_X11_clear = some (.iload_n 1, (0, 0, 0, 0)) := by decide +kernel
theorem s_X11_clear_2 {ca : Nat → List Value → tM → tO} {M : tM} {a0 : Option Value} {x : Int32} {S : List Value} : rn ca C_X11_clear 2 [a0, some (.int x)] S M = rn ca C_X11_clear 3 [a0, some (.int x)] (.int x :: S) M := (rn_at k_X11_clear_2).trans rfl
theorem k_X11_clear_3 : lk 3 C_X11_clear = some (.bipush 64, (0, 0, 0, 0)) := by decide +kernel
theorem s_X11_clear_3 {ca : Nat → List Value → tM → tO} {M : tM} {L : tL} {S : List Value} : rn ca C_X11_clear 3 L S M = rn ca C_X11_clear 5 L (.int (iI 64) :: S) M := (rn_at k_X11_clear_3).trans rfl
theorem k_X11_clear_5 : lk 5 C_X11_clear = some (.if_icmp .ge 29, (34, 0, 0, 0)) := by decide +kernel
theorem s_X11_clear_5 {ca : Nat → List Value → tM → tO} {M : tM} {L : tL} {x y : Int32} {S : List Value} : rn ca C_X11_clear 5 L (.int y :: .int x :: S) M = if y ≤ x then rn ca C_X11_clear 34 L S M else rn ca C_X11_clear 8 L S M := (rn_at k_X11_clear_5).trans rnx_ite
theorem k_X11_clear_8 : lk 8 C_X11_clear = some (.aload_n 0, (0, 0, 0, 0)) := by decide +kernel
theorem s_X11_clear_8 {ca : Nat → List Value → tM → tO} {M : tM} {a1 : Option Value} {x : Nat} {S : List Value} : rn ca C_X11_clear 8 [some (.ref x), a1] S M = rn ca C_X11_clear 9 [some (.ref x), a1] (.ref x :: S) M := (rn_at k_X11_clear_8).trans rfl
theorem k_X11_clear_9 : lk 9 C_X11_clear = some (.getfield 64, (11, 14, 0, 158)) := by decide +kernel
theorem s_X11_clear_9 {ca : Nat → List Value → tM → tO} {M : tM} {L : tL} {b : Nat} {S : List Value} : rn ca C_X11_clear 9 L (.ref b :: S) M = if clsO b = some 11 then rn ca C_X11_clear 12 L (fv M b 14 :: S) M else none := (rn_at k_X11_clear_9).trans rnx_ite
theorem k_X11_clear_12 : lk 12 C_X11_clear = some (.iload_n 1, (0, 0, 0, 0)) := by decide +kernel
theorem s_X11_clear_12 {ca : Nat → List Value → tM → tO} {M : tM} {a0 : Option Value} {x : Int32} {S : List Value} : rn ca C_X11_clear 12 [a0, some (.int x)] S M = rn ca C_X11_clear 13 [a0, some (.int x)] (.int x :: S) M := (rn_at k_X11_clear_12).trans rfl
theorem k_X11_clear_13 : lk 13 C_X11_clear = some (.iload_n 1, (0, 0, 0, 0)) := by decide +kernel
theorem s_X11_clear_13 {ca : Nat → List Value → tM → tO} {M : tM} {a0 : Option Value} {x : Int32} {S : List Value} : rn ca C_X11_clear 13 [a0, some (.int x)] S M = rn ca C_X11_clear 14 [a0, some (.int x)] (.int x :: S) M := (rn_at k_X11_clear_13).trans rfl
theorem k_X11_clear_14 : lk 14 C_X11_clear = some (.bipush 9, (0, 0, 0, 0)) := by decide +kernel
theorem s_X11_clear_14 {ca : Nat → List Value → tM → tO} {M : tM} {L : tL} {S : List Value} : rn ca C_X11_clear 14 L S M = rn ca C_X11_clear 16 L (.int (iI 9) :: S) M := (rn_at k_X11_clear_14).trans rfl
theorem k_X11_clear_16 : lk 16 C_X11_clear = some (.irem, (0, 0, 0, 0)) := by decide +kernel
theorem s_X11_clear_16 {ca : Nat → List Value → tM → tO} {M : tM} {L : tL} {x y : Int32} {S : List Value} : rn ca C_X11_clear 16 L (.int y :: .int x :: S) M = if y = iI 0 then none else rn ca C_X11_clear 17 L (.int (irm x y) :: S) M := (rn_at k_X11_clear_16).trans rnx_ite
theorem k_X11_clear_17 : lk 17 C_X11_clear = some (.ifCond .ne 7, (24, 0, 0, 0)) := by decide +kernel
theorem s_X11_clear_17 {ca : Nat → List Value → tM → tO} {M : tM} {L : tL} {x : Int32} {S : List Value} : rn ca C_X11_clear 17 L (.int x :: S) M = if ¬ x = iI 0 then rn ca C_X11_clear 24 L S M else rn ca C_X11_clear 20 L S M := (rn_at k_X11_clear_17).trans rnx_ite
theorem k_X11_clear_20 : lk 20 C_X11_clear = some (.iconst 0, (0, 0, 0, 0)) := by decide +kernel
theorem s_X11_clear_20 {ca : Nat → List Value → tM → tO} {M : tM} {L : tL} {S : List Value} : rn ca C_X11_clear 20 L S M = rn ca C_X11_clear 21 L (.int (iI 0) :: S) M := (rn_at k_X11_clear_20).trans rfl
theorem k_X11_clear_21 : lk 21 C_X11_clear = some (.goto 6, (27, 0, 0, 0)) := by decide +kernel
theorem s_X11_clear_21 {ca : Nat → List Value → tM → tO} {M : tM} {L : tL} {S : List Value} : rn ca C_X11_clear 21 L S M = rn ca C_X11_clear 27 L S M := (rn_at k_X11_clear_21).trans rfl
theorem k_X11_clear_24 : lk 24 C_X11_clear = some (.sipush 9999, (0, 0, 0, 0)) := by decide +kernel
theorem s_X11_clear_24 {ca : Nat → List Value → tM → tO} {M : tM} {L : tL} {S : List Value} : rn ca C_X11_clear 24 L S M = rn ca C_X11_clear 27 L (.int (iI 9999) :: S) M := (rn_at k_X11_clear_24).trans rfl
theorem k_X11_clear_27 : lk 27 C_X11_clear = some (.iastore, (0, 0, 0, 0)) := by decide +kernel
theorem s_X11_clear_27 {ca : Nat → List Value → tM → tO} {M : tM} {L : tL} {a : Nat} {i x : Int32} {S : List Value} : rn ca C_X11_clear 27 L (.int x :: .int i :: .ref a :: S) M = if akind a = 0 ∧ inb i (alen M a) then rn ca C_X11_clear 28 L S (sI M a i.toInt.toNat x) else none := (rn_at k_X11_clear_27).trans rnx_ite
theorem k_X11_clear_28 : lk 28 C_X11_clear = some (.iinc 1 1, (0, 0, 0, 0)) := by decide +kernel
theorem s_X11_clear_28 {ca : Nat → List Value → tM → tO} {M : tM} {a0 : Option Value} {x : Int32} {S : List Value} : rn ca C_X11_clear 28 [a0, some (.int x)] S M = rn ca C_X11_clear 31 [a0, some (.int (x + iI 1))] S M := (rn_at k_X11_clear_28).trans rfl
theorem k_X11_clear_31 : lk 31 C_X11_clear = some (.goto (-29), (2, 0, 0, 0)) := by decide +kernel
theorem s_X11_clear_31 {ca : Nat → List Value → tM → tO} {M : tM} {L : tL} {S : List Value} : rn ca C_X11_clear 31 L S M = rn ca C_X11_clear 2 L S M := (rn_at k_X11_clear_31).trans rfl
theorem k_X11_clear_34 : lk 34 C_X11_clear = some (.return_, (0, 0, 0, 0)) := by decide +kernel
theorem s_X11_clear_34 {ca : Nat → List Value → tM → tO} {M : tM} {L : tL} : rn ca C_X11_clear 34 L [] M = some (none, M) := (rn_at k_X11_clear_34).trans rfl
theorem k_X11_nearer_0 : lk 0 C_X11_nearer = some (.aload_n 0, (0, 0, 0, 0)) := by decide +kernel
theorem s_X11_nearer_0 {ca : Nat → List Value → tM → tO} {M : tM} {a1 a2 a3 : Option Value} {x : Nat} {S : List Value} : rn ca C_X11_nearer 0 [some (.ref x), a1, a2, a3] S M = rn ca C_X11_nearer 1 [some (.ref x), a1, a2, a3] (.ref x :: S) M := (rn_at k_X11_nearer_0).trans rfl
theorem k_X11_nearer_1 : lk 1 C_X11_nearer = some (.getfield 64, (11, 14, 0, 158)) := by decide +kernel
theorem s_X11_nearer_1 {ca : Nat → List Value → tM → tO} {M : tM} {L : tL} {b : Nat} {S : List Value} : rn ca C_X11_nearer 1 L (.ref b :: S) M = if clsO b = some 11 then rn ca C_X11_nearer 4 L (fv M b 14 :: S) M else none := (rn_at k_X11_nearer_1).trans rnx_ite
theorem k_X11_nearer_4 : lk 4 C_X11_nearer = some (.bipush 8, (0, 0, 0, 0)) := by decide +kernel
theorem s_X11_nearer_4 {ca : Nat → List Value → tM → tO} {M : tM} {L : tL} {S : List Value} : rn ca C_X11_nearer 4 L S M = rn ca C_X11_nearer 6 L (.int (iI 8) :: S) M := (rn_at k_X11_nearer_4).trans rfl
theorem k_X11_nearer_6 : lk 6 C_X11_nearer = some (.iload_n 1, (0, 0, 0, 0)) := by decide +kernel
theorem s_X11_nearer_6 {ca : Nat → List Value → tM → tO} {M : tM} {a0 a2 a3 : Option Value} {x : Int32} {S : List Value} : rn ca C_X11_nearer 6 [a0, some (.int x), a2, a3] S M = rn ca C_X11_nearer 7 [a0, some (.int x), a2, a3] (.int x :: S) M := (rn_at k_X11_nearer_6).trans rfl
theorem k_X11_nearer_7 : lk 7 C_X11_nearer = some (.imul, (0, 0, 0, 0)) := by decide +kernel
theorem s_X11_nearer_7 {ca : Nat → List Value → tM → tO} {M : tM} {L : tL} {x y : Int32} {S : List Value} : rn ca C_X11_nearer 7 L (.int y :: .int x :: S) M = rn ca C_X11_nearer 8 L (.int (x * y) :: S) M := (rn_at k_X11_nearer_7).trans rfl
theorem k_X11_nearer_8 : lk 8 C_X11_nearer = some (.iload_n 2, (0, 0, 0, 0)) := by decide +kernel
theorem s_X11_nearer_8 {ca : Nat → List Value → tM → tO} {M : tM} {a0 a1 a3 : Option Value} {x : Int32} {S : List Value} : rn ca C_X11_nearer 8 [a0, a1, some (.int x), a3] S M = rn ca C_X11_nearer 9 [a0, a1, some (.int x), a3] (.int x :: S) M := (rn_at k_X11_nearer_8).trans rfl
theorem k_X11_nearer_9 : lk 9 C_X11_nearer = some (.iadd, (0, 0, 0, 0)) := by decide +kernel
theorem s_X11_nearer_9 {ca : Nat → List Value → tM → tO} {M : tM} {L : tL} {x y : Int32} {S : List Value} : rn ca C_X11_nearer 9 L (.int y :: .int x :: S) M = rn ca C_X11_nearer 10 L (.int (x + y) :: S) M := (rn_at k_X11_nearer_9).trans rfl
theorem k_X11_nearer_10 : lk 10 C_X11_nearer = some (.aload_n 0, (0, 0, 0, 0)) := by decide +kernel
theorem s_X11_nearer_10 {ca : Nat → List Value → tM → tO} {M : tM} {a1 a2 a3 : Option Value} {x : Nat} {S : List Value} : rn ca C_X11_nearer 10 [some (.ref x), a1, a2, a3] S M = rn ca C_X11_nearer 11 [some (.ref x), a1, a2, a3] (.ref x :: S) M := (rn_at k_X11_nearer_10).trans rfl
theorem k_X11_nearer_11 : lk 11 C_X11_nearer = some (.getfield 64, (11, 14, 0, 158)) := by decide +kernel
theorem s_X11_nearer_11 {ca : Nat → List Value → tM → tO} {M : tM} {L : tL} {b : Nat} {S : List Value} : rn ca C_X11_nearer 11 L (.ref b :: S) M = if clsO b = some 11 then rn ca C_X11_nearer 14 L (fv M b 14 :: S) M else none := (rn_at k_X11_nearer_11).trans rnx_ite
theorem k_X11_nearer_14 : lk 14 C_X11_nearer = some (.bipush 8, (0, 0, 0, 0)) := by decide +kernel
theorem s_X11_nearer_14 {ca : Nat → List Value → tM → tO} {M : tM} {L : tL} {S : List Value} : rn ca C_X11_nearer 14 L S M = rn ca C_X11_nearer 16 L (.int (iI 8) :: S) M := (rn_at k_X11_nearer_14).trans rfl
theorem k_X11_nearer_16 : lk 16 C_X11_nearer = some (.iload_n 1, (0, 0, 0, 0)) := by decide +kernel
theorem s_X11_nearer_16 {ca : Nat → List Value → tM → tO} {M : tM} {a0 a2 a3 : Option Value} {x : Int32} {S : List Value} : rn ca C_X11_nearer 16 [a0, some (.int x), a2, a3] S M = rn ca C_X11_nearer 17 [a0, some (.int x), a2, a3] (.int x :: S) M := (rn_at k_X11_nearer_16).trans rfl
theorem k_X11_nearer_17 : lk 17 C_X11_nearer = some (.imul, (0, 0, 0, 0)) := by decide +kernel
theorem s_X11_nearer_17 {ca : Nat → List Value → tM → tO} {M : tM} {L : tL} {x y : Int32} {S : List Value} : rn ca C_X11_nearer 17 L (.int y :: .int x :: S) M = rn ca C_X11_nearer 18 L (.int (x * y) :: S) M := (rn_at k_X11_nearer_17).trans rfl
theorem k_X11_nearer_18 : lk 18 C_X11_nearer = some (.iload_n 2, (0, 0, 0, 0)) := by decide +kernel
theorem s_X11_nearer_18 {ca : Nat → List Value → tM → tO} {M : tM} {a0 a1 a3 : Option Value} {x : Int32} {S : List Value} : rn ca C_X11_nearer 18 [a0, a1, some (.int x), a3] S M = rn ca C_X11_nearer 19 [a0, a1, some (.int x), a3] (.int x :: S) M := (rn_at k_X11_nearer_18).trans rfl
theorem k_X11_nearer_19 : lk 19 C_X11_nearer = some (.iadd, (0, 0, 0, 0)) := by decide +kernel
theorem s_X11_nearer_19 {ca : Nat → List Value → tM → tO} {M : tM} {L : tL} {x y : Int32} {S : List Value} : rn ca C_X11_nearer 19 L (.int y :: .int x :: S) M = rn ca C_X11_nearer 20 L (.int (x + y) :: S) M := (rn_at k_X11_nearer_19).trans rfl
theorem k_X11_nearer_20 : lk 20 C_X11_nearer = some (.iaload, (0, 0, 0, 0)) := by decide +kernel
theorem s_X11_nearer_20 {ca : Nat → List Value → tM → tO} {M : tM} {L : tL} {a : Nat} {i : Int32} {S : List Value} : rn ca C_X11_nearer 20 L (.int i :: .ref a :: S) M = if (akind a = 0 ∨ akind a = 6 ∨ akind a = 7) ∧ inb i (alen M a) then rn ca C_X11_nearer 21 L (.int (M.1 a i.toInt.toNat) :: S) M else none := (rn_at k_X11_nearer_20).trans rnx_ite
theorem k_X11_nearer_21 : lk 21 C_X11_nearer = some (.iload_n 3, (0, 0, 0, 0)) := by decide +kernel
theorem s_X11_nearer_21 {ca : Nat → List Value → tM → tO} {M : tM} {a0 a1 a2 : Option Value} {x : Int32} {S : List Value} : rn ca C_X11_nearer 21 [a0, a1, a2, some (.int x)] S M = rn ca C_X11_nearer 22 [a0, a1, a2, some (.int x)] (.int x :: S) M := (rn_at k_X11_nearer_21).trans rfl
theorem k_X11_nearer_22 : lk 22 C_X11_nearer = some (.invokestatic 207, (0, 2, 3, 781)) := by decide +kernel
theorem s_X11_nearer_22 {ca : Nat → List Value → tM → tO} {M : tM} {L : tL} {x y : Int32} {r0 : Int32} {r1 : Nat} : rn ca C_X11_nearer 22 L [.int y, .int x, .int r0, .ref r1] M = rn ca C_X11_nearer 25 L [.int (mnI x y), .int r0, .ref r1] M := (rn_at k_X11_nearer_22).trans rfl
theorem k_X11_nearer_25 : lk 25 C_X11_nearer = some (.iastore, (0, 0, 0, 0)) := by decide +kernel
theorem s_X11_nearer_25 {ca : Nat → List Value → tM → tO} {M : tM} {L : tL} {a : Nat} {i x : Int32} {S : List Value} : rn ca C_X11_nearer 25 L (.int x :: .int i :: .ref a :: S) M = if akind a = 0 ∧ inb i (alen M a) then rn ca C_X11_nearer 26 L S (sI M a i.toInt.toNat x) else none := (rn_at k_X11_nearer_25).trans rnx_ite
theorem k_X11_nearer_26 : lk 26 C_X11_nearer = some (.return_, (0, 0, 0, 0)) := by decide +kernel
theorem s_X11_nearer_26 {ca : Nat → List Value → tM → tO} {M : tM} {L : tL} : rn ca C_X11_nearer 26 L [] M = some (none, M) := (rn_at k_X11_nearer_26).trans rfl
theorem k_X11_close_0 : lk 0 C_X11_close = some (.iconst 0, (0, 0, 0, 0)) := by decide +kernel
theorem s_X11_close_0 {ca : Nat → List Value → tM → tO} {M : tM} {L : tL} {S : List Value} : rn ca C_X11_close 0 L S M = rn ca C_X11_close 1 L (.int (iI 0) :: S) M := (rn_at k_X11_close_0).trans rfl
theorem k_X11_close_1 : lk 1 C_X11_close = some (.istore_n 1, (0, 0, 0, 0)) := by decide +kernel
theorem s_X11_close_1 {ca : Nat → List Value → tM → tO} {M : tM} {a0 a1 a2 a3 : Option Value} {x : Int32} {S : List Value} : rn ca C_X11_close 1 [a0, a1, a2, a3] (.int x :: S) M = rn ca C_X11_close 2 [a0, some (.int x), a2, a3] S M := (rn_at k_X11_close_1).trans rfl
theorem k_X11_close_2 : lk 2 C_X11_close = some (.iload_n 1, (0, 0, 0, 0)) := by decide +kernel
theorem s_X11_close_2 {ca : Nat → List Value → tM → tO} {M : tM} {a0 a2 a3 : Option Value} {x : Int32} {S : List Value} : rn ca C_X11_close 2 [a0, some (.int x), a2, a3] S M = rn ca C_X11_close 3 [a0, some (.int x), a2, a3] (.int x :: S) M := (rn_at k_X11_close_2).trans rfl
theorem k_X11_close_3 : lk 3 C_X11_close = some (.aload_n 0, (0, 0, 0, 0)) := by decide +kernel
theorem s_X11_close_3 {ca : Nat → List Value → tM → tO} {M : tM} {a1 a2 a3 : Option Value} {x : Nat} {S : List Value} : rn ca C_X11_close 3 [some (.ref x), a1, a2, a3] S M = rn ca C_X11_close 4 [some (.ref x), a1, a2, a3] (.ref x :: S) M := (rn_at k_X11_close_3).trans rfl
theorem k_X11_close_4 : lk 4 C_X11_close = some (.getfield 17, (11, 1, 0, 147)) := by decide +kernel
theorem s_X11_close_4 {ca : Nat → List Value → tM → tO} {M : tM} {L : tL} {b : Nat} {S : List Value} : rn ca C_X11_close 4 L (.ref b :: S) M = if clsO b = some 11 then rn ca C_X11_close 7 L (fv M b 1 :: S) M else none := (rn_at k_X11_close_4).trans rnx_ite
theorem k_X11_close_7 : lk 7 C_X11_close = some (.bipush 108, (0, 0, 0, 0)) := by decide +kernel
theorem s_X11_close_7 {ca : Nat → List Value → tM → tO} {M : tM} {L : tL} {S : List Value} : rn ca C_X11_close 7 L S M = rn ca C_X11_close 9 L (.int (iI 108) :: S) M := (rn_at k_X11_close_7).trans rfl
theorem k_X11_close_9 : lk 9 C_X11_close = some (.iaload, (0, 0, 0, 0)) := by decide +kernel
theorem s_X11_close_9 {ca : Nat → List Value → tM → tO} {M : tM} {L : tL} {a : Nat} {i : Int32} {S : List Value} : rn ca C_X11_close 9 L (.int i :: .ref a :: S) M = if (akind a = 0 ∨ akind a = 6 ∨ akind a = 7) ∧ inb i (alen M a) then rn ca C_X11_close 10 L (.int (M.1 a i.toInt.toNat) :: S) M else none := (rn_at k_X11_close_9).trans rnx_ite
theorem k_X11_close_10 : lk 10 C_X11_close = some (.if_icmp .ge 76, (86, 0, 0, 0)) := by decide +kernel
theorem s_X11_close_10 {ca : Nat → List Value → tM → tO} {M : tM} {L : tL} {x y : Int32} {S : List Value} : rn ca C_X11_close 10 L (.int y :: .int x :: S) M = if y ≤ x then rn ca C_X11_close 86 L S M else rn ca C_X11_close 13 L S M := (rn_at k_X11_close_10).trans rnx_ite
theorem k_X11_close_13 : lk 13 C_X11_close = some (.iconst 0, (0, 0, 0, 0)) := by decide +kernel
theorem s_X11_close_13 {ca : Nat → List Value → tM → tO} {M : tM} {L : tL} {S : List Value} : rn ca C_X11_close 13 L S M = rn ca C_X11_close 14 L (.int (iI 0) :: S) M := (rn_at k_X11_close_13).trans rfl
theorem k_X11_close_14 : lk 14 C_X11_close = some (.istore_n 2, (0, 0, 0, 0)) := by decide +kernel
theorem s_X11_close_14 {ca : Nat → List Value → tM → tO} {M : tM} {a0 a1 a2 a3 : Option Value} {x : Int32} {S : List Value} : rn ca C_X11_close 14 [a0, a1, a2, a3] (.int x :: S) M = rn ca C_X11_close 15 [a0, a1, some (.int x), a3] S M := (rn_at k_X11_close_14).trans rfl
theorem k_X11_close_15 : lk 15 C_X11_close = some (.iload_n 2, (0, 0, 0, 0)) := by decide +kernel
theorem s_X11_close_15 {ca : Nat → List Value → tM → tO} {M : tM} {a0 a1 a3 : Option Value} {x : Int32} {S : List Value} : rn ca C_X11_close 15 [a0, a1, some (.int x), a3] S M = rn ca C_X11_close 16 [a0, a1, some (.int x), a3] (.int x :: S) M := (rn_at k_X11_close_15).trans rfl
theorem k_X11_close_16 : lk 16 C_X11_close = some (.aload_n 0, (0, 0, 0, 0)) := by decide +kernel
theorem s_X11_close_16 {ca : Nat → List Value → tM → tO} {M : tM} {a1 a2 a3 : Option Value} {x : Nat} {S : List Value} : rn ca C_X11_close 16 [some (.ref x), a1, a2, a3] S M = rn ca C_X11_close 17 [some (.ref x), a1, a2, a3] (.ref x :: S) M := (rn_at k_X11_close_16).trans rfl
theorem k_X11_close_17 : lk 17 C_X11_close = some (.getfield 17, (11, 1, 0, 147)) := by decide +kernel
theorem s_X11_close_17 {ca : Nat → List Value → tM → tO} {M : tM} {L : tL} {b : Nat} {S : List Value} : rn ca C_X11_close 17 L (.ref b :: S) M = if clsO b = some 11 then rn ca C_X11_close 20 L (fv M b 1 :: S) M else none := (rn_at k_X11_close_17).trans rnx_ite
theorem k_X11_close_20 : lk 20 C_X11_close = some (.bipush 108, (0, 0, 0, 0)) := by decide +kernel
theorem s_X11_close_20 {ca : Nat → List Value → tM → tO} {M : tM} {L : tL} {S : List Value} : rn ca C_X11_close 20 L S M = rn ca C_X11_close 22 L (.int (iI 108) :: S) M := (rn_at k_X11_close_20).trans rfl
theorem k_X11_close_22 : lk 22 C_X11_close = some (.iaload, (0, 0, 0, 0)) := by decide +kernel
theorem s_X11_close_22 {ca : Nat → List Value → tM → tO} {M : tM} {L : tL} {a : Nat} {i : Int32} {S : List Value} : rn ca C_X11_close 22 L (.int i :: .ref a :: S) M = if (akind a = 0 ∨ akind a = 6 ∨ akind a = 7) ∧ inb i (alen M a) then rn ca C_X11_close 23 L (.int (M.1 a i.toInt.toNat) :: S) M else none := (rn_at k_X11_close_22).trans rnx_ite
theorem k_X11_close_23 : lk 23 C_X11_close = some (.if_icmp .ge 57, (80, 0, 0, 0)) := by decide +kernel
theorem s_X11_close_23 {ca : Nat → List Value → tM → tO} {M : tM} {L : tL} {x y : Int32} {S : List Value} : rn ca C_X11_close 23 L (.int y :: .int x :: S) M = if y ≤ x then rn ca C_X11_close 80 L S M else rn ca C_X11_close 26 L S M := (rn_at k_X11_close_23).trans rnx_ite
theorem k_X11_close_26 : lk 26 C_X11_close = some (.iconst 0, (0, 0, 0, 0)) := by decide +kernel
theorem s_X11_close_26 {ca : Nat → List Value → tM → tO} {M : tM} {L : tL} {S : List Value} : rn ca C_X11_close 26 L S M = rn ca C_X11_close 27 L (.int (iI 0) :: S) M := (rn_at k_X11_close_26).trans rfl
theorem k_X11_close_27 : lk 27 C_X11_close = some (.istore_n 3, (0, 0, 0, 0)) := by decide +kernel
theorem s_X11_close_27 {ca : Nat → List Value → tM → tO} {M : tM} {a0 a1 a2 a3 : Option Value} {x : Int32} {S : List Value} : rn ca C_X11_close 27 [a0, a1, a2, a3] (.int x :: S) M = rn ca C_X11_close 28 [a0, a1, a2, some (.int x)] S M := (rn_at k_X11_close_27).trans rfl
theorem k_X11_close_28 : lk 28 C_X11_close = some (.iload_n 3, (0, 0, 0, 0)) := by decide +kernel
theorem s_X11_close_28 {ca : Nat → List Value → tM → tO} {M : tM} {a0 a1 a2 : Option Value} {x : Int32} {S : List Value} : rn ca C_X11_close 28 [a0, a1, a2, some (.int x)] S M = rn ca C_X11_close 29 [a0, a1, a2, some (.int x)] (.int x :: S) M := (rn_at k_X11_close_28).trans rfl
theorem k_X11_close_29 : lk 29 C_X11_close = some (.aload_n 0, (0, 0, 0, 0)) := by decide +kernel
theorem s_X11_close_29 {ca : Nat → List Value → tM → tO} {M : tM} {a1 a2 a3 : Option Value} {x : Nat} {S : List Value} : rn ca C_X11_close 29 [some (.ref x), a1, a2, a3] S M = rn ca C_X11_close 30 [some (.ref x), a1, a2, a3] (.ref x :: S) M := (rn_at k_X11_close_29).trans rfl
theorem k_X11_close_30 : lk 30 C_X11_close = some (.getfield 17, (11, 1, 0, 147)) := by decide +kernel
theorem s_X11_close_30 {ca : Nat → List Value → tM → tO} {M : tM} {L : tL} {b : Nat} {S : List Value} : rn ca C_X11_close 30 L (.ref b :: S) M = if clsO b = some 11 then rn ca C_X11_close 33 L (fv M b 1 :: S) M else none := (rn_at k_X11_close_30).trans rnx_ite
theorem k_X11_close_33 : lk 33 C_X11_close = some (.bipush 108, (0, 0, 0, 0)) := by decide +kernel
theorem s_X11_close_33 {ca : Nat → List Value → tM → tO} {M : tM} {L : tL} {S : List Value} : rn ca C_X11_close 33 L S M = rn ca C_X11_close 35 L (.int (iI 108) :: S) M := (rn_at k_X11_close_33).trans rfl
theorem k_X11_close_35 : lk 35 C_X11_close = some (.iaload, (0, 0, 0, 0)) := by decide +kernel
theorem s_X11_close_35 {ca : Nat → List Value → tM → tO} {M : tM} {L : tL} {a : Nat} {i : Int32} {S : List Value} : rn ca C_X11_close 35 L (.int i :: .ref a :: S) M = if (akind a = 0 ∨ akind a = 6 ∨ akind a = 7) ∧ inb i (alen M a) then rn ca C_X11_close 36 L (.int (M.1 a i.toInt.toNat) :: S) M else none := (rn_at k_X11_close_35).trans rnx_ite
theorem k_X11_close_36 : lk 36 C_X11_close = some (.if_icmp .ge 38, (74, 0, 0, 0)) := by decide +kernel
theorem s_X11_close_36 {ca : Nat → List Value → tM → tO} {M : tM} {L : tL} {x y : Int32} {S : List Value} : rn ca C_X11_close 36 L (.int y :: .int x :: S) M = if y ≤ x then rn ca C_X11_close 74 L S M else rn ca C_X11_close 39 L S M := (rn_at k_X11_close_36).trans rnx_ite
theorem k_X11_close_39 : lk 39 C_X11_close = some (.aload_n 0, (0, 0, 0, 0)) := by decide +kernel
theorem s_X11_close_39 {ca : Nat → List Value → tM → tO} {M : tM} {a1 a2 a3 : Option Value} {x : Nat} {S : List Value} : rn ca C_X11_close 39 [some (.ref x), a1, a2, a3] S M = rn ca C_X11_close 40 [some (.ref x), a1, a2, a3] (.ref x :: S) M := (rn_at k_X11_close_39).trans rfl
theorem k_X11_close_40 : lk 40 C_X11_close = some (.iload_n 2, (0, 0, 0, 0)) := by decide +kernel
theorem s_X11_close_40 {ca : Nat → List Value → tM → tO} {M : tM} {a0 a1 a3 : Option Value} {x : Int32} {S : List Value} : rn ca C_X11_close 40 [a0, a1, some (.int x), a3] S M = rn ca C_X11_close 41 [a0, a1, some (.int x), a3] (.int x :: S) M := (rn_at k_X11_close_40).trans rfl
theorem k_X11_close_41 : lk 41 C_X11_close = some (.iload_n 3, (0, 0, 0, 0)) := by decide +kernel
theorem s_X11_close_41 {ca : Nat → List Value → tM → tO} {M : tM} {a0 a1 a2 : Option Value} {x : Int32} {S : List Value} : rn ca C_X11_close 41 [a0, a1, a2, some (.int x)] S M = rn ca C_X11_close 42 [a0, a1, a2, some (.int x)] (.int x :: S) M := (rn_at k_X11_close_41).trans rfl
theorem k_X11_close_42 : lk 42 C_X11_close = some (.aload_n 0, (0, 0, 0, 0)) := by decide +kernel
theorem s_X11_close_42 {ca : Nat → List Value → tM → tO} {M : tM} {a1 a2 a3 : Option Value} {x : Nat} {S : List Value} : rn ca C_X11_close 42 [some (.ref x), a1, a2, a3] S M = rn ca C_X11_close 43 [some (.ref x), a1, a2, a3] (.ref x :: S) M := (rn_at k_X11_close_42).trans rfl
theorem k_X11_close_43 : lk 43 C_X11_close = some (.getfield 64, (11, 14, 0, 158)) := by decide +kernel
theorem s_X11_close_43 {ca : Nat → List Value → tM → tO} {M : tM} {L : tL} {b : Nat} {S : List Value} : rn ca C_X11_close 43 L (.ref b :: S) M = if clsO b = some 11 then rn ca C_X11_close 46 L (fv M b 14 :: S) M else none := (rn_at k_X11_close_43).trans rnx_ite
theorem k_X11_close_46 : lk 46 C_X11_close = some (.bipush 8, (0, 0, 0, 0)) := by decide +kernel
theorem s_X11_close_46 {ca : Nat → List Value → tM → tO} {M : tM} {L : tL} {S : List Value} : rn ca C_X11_close 46 L S M = rn ca C_X11_close 48 L (.int (iI 8) :: S) M := (rn_at k_X11_close_46).trans rfl
theorem k_X11_close_48 : lk 48 C_X11_close = some (.iload_n 2, (0, 0, 0, 0)) := by decide +kernel
theorem s_X11_close_48 {ca : Nat → List Value → tM → tO} {M : tM} {a0 a1 a3 : Option Value} {x : Int32} {S : List Value} : rn ca C_X11_close 48 [a0, a1, some (.int x), a3] S M = rn ca C_X11_close 49 [a0, a1, some (.int x), a3] (.int x :: S) M := (rn_at k_X11_close_48).trans rfl
theorem k_X11_close_49 : lk 49 C_X11_close = some (.imul, (0, 0, 0, 0)) := by decide +kernel
theorem s_X11_close_49 {ca : Nat → List Value → tM → tO} {M : tM} {L : tL} {x y : Int32} {S : List Value} : rn ca C_X11_close 49 L (.int y :: .int x :: S) M = rn ca C_X11_close 50 L (.int (x * y) :: S) M := (rn_at k_X11_close_49).trans rfl
theorem k_X11_close_50 : lk 50 C_X11_close = some (.iload_n 1, (0, 0, 0, 0)) := by decide +kernel
theorem s_X11_close_50 {ca : Nat → List Value → tM → tO} {M : tM} {a0 a2 a3 : Option Value} {x : Int32} {S : List Value} : rn ca C_X11_close 50 [a0, some (.int x), a2, a3] S M = rn ca C_X11_close 51 [a0, some (.int x), a2, a3] (.int x :: S) M := (rn_at k_X11_close_50).trans rfl
theorem k_X11_close_51 : lk 51 C_X11_close = some (.iadd, (0, 0, 0, 0)) := by decide +kernel
theorem s_X11_close_51 {ca : Nat → List Value → tM → tO} {M : tM} {L : tL} {x y : Int32} {S : List Value} : rn ca C_X11_close 51 L (.int y :: .int x :: S) M = rn ca C_X11_close 52 L (.int (x + y) :: S) M := (rn_at k_X11_close_51).trans rfl
theorem k_X11_close_52 : lk 52 C_X11_close = some (.iaload, (0, 0, 0, 0)) := by decide +kernel
theorem s_X11_close_52 {ca : Nat → List Value → tM → tO} {M : tM} {L : tL} {a : Nat} {i : Int32} {S : List Value} : rn ca C_X11_close 52 L (.int i :: .ref a :: S) M = if (akind a = 0 ∨ akind a = 6 ∨ akind a = 7) ∧ inb i (alen M a) then rn ca C_X11_close 53 L (.int (M.1 a i.toInt.toNat) :: S) M else none := (rn_at k_X11_close_52).trans rnx_ite
theorem k_X11_close_53 : lk 53 C_X11_close = some (.aload_n 0, (0, 0, 0, 0)) := by decide +kernel
theorem s_X11_close_53 {ca : Nat → List Value → tM → tO} {M : tM} {a1 a2 a3 : Option Value} {x : Nat} {S : List Value} : rn ca C_X11_close 53 [some (.ref x), a1, a2, a3] S M = rn ca C_X11_close 54 [some (.ref x), a1, a2, a3] (.ref x :: S) M := (rn_at k_X11_close_53).trans rfl
theorem k_X11_close_54 : lk 54 C_X11_close = some (.getfield 64, (11, 14, 0, 158)) := by decide +kernel
theorem s_X11_close_54 {ca : Nat → List Value → tM → tO} {M : tM} {L : tL} {b : Nat} {S : List Value} : rn ca C_X11_close 54 L (.ref b :: S) M = if clsO b = some 11 then rn ca C_X11_close 57 L (fv M b 14 :: S) M else none := (rn_at k_X11_close_54).trans rnx_ite
theorem k_X11_close_57 : lk 57 C_X11_close = some (.bipush 8, (0, 0, 0, 0)) := by decide +kernel
theorem s_X11_close_57 {ca : Nat → List Value → tM → tO} {M : tM} {L : tL} {S : List Value} : rn ca C_X11_close 57 L S M = rn ca C_X11_close 59 L (.int (iI 8) :: S) M := (rn_at k_X11_close_57).trans rfl
theorem k_X11_close_59 : lk 59 C_X11_close = some (.iload_n 1, (0, 0, 0, 0)) := by decide +kernel
theorem s_X11_close_59 {ca : Nat → List Value → tM → tO} {M : tM} {a0 a2 a3 : Option Value} {x : Int32} {S : List Value} : rn ca C_X11_close 59 [a0, some (.int x), a2, a3] S M = rn ca C_X11_close 60 [a0, some (.int x), a2, a3] (.int x :: S) M := (rn_at k_X11_close_59).trans rfl
theorem k_X11_close_60 : lk 60 C_X11_close = some (.imul, (0, 0, 0, 0)) := by decide +kernel
theorem s_X11_close_60 {ca : Nat → List Value → tM → tO} {M : tM} {L : tL} {x y : Int32} {S : List Value} : rn ca C_X11_close 60 L (.int y :: .int x :: S) M = rn ca C_X11_close 61 L (.int (x * y) :: S) M := (rn_at k_X11_close_60).trans rfl
theorem k_X11_close_61 : lk 61 C_X11_close = some (.iload_n 3, (0, 0, 0, 0)) := by decide +kernel
theorem s_X11_close_61 {ca : Nat → List Value → tM → tO} {M : tM} {a0 a1 a2 : Option Value} {x : Int32} {S : List Value} : rn ca C_X11_close 61 [a0, a1, a2, some (.int x)] S M = rn ca C_X11_close 62 [a0, a1, a2, some (.int x)] (.int x :: S) M := (rn_at k_X11_close_61).trans rfl
theorem k_X11_close_62 : lk 62 C_X11_close = some (.iadd, (0, 0, 0, 0)) := by decide +kernel
theorem s_X11_close_62 {ca : Nat → List Value → tM → tO} {M : tM} {L : tL} {x y : Int32} {S : List Value} : rn ca C_X11_close 62 L (.int y :: .int x :: S) M = rn ca C_X11_close 63 L (.int (x + y) :: S) M := (rn_at k_X11_close_62).trans rfl
theorem k_X11_close_63 : lk 63 C_X11_close = some (.iaload, (0, 0, 0, 0)) := by decide +kernel
theorem s_X11_close_63 {ca : Nat → List Value → tM → tO} {M : tM} {L : tL} {a : Nat} {i : Int32} {S : List Value} : rn ca C_X11_close 63 L (.int i :: .ref a :: S) M = if (akind a = 0 ∨ akind a = 6 ∨ akind a = 7) ∧ inb i (alen M a) then rn ca C_X11_close 64 L (.int (M.1 a i.toInt.toNat) :: S) M else none := (rn_at k_X11_close_63).trans rnx_ite
theorem k_X11_close_64 : lk 64 C_X11_close = some (.iadd, (0, 0, 0, 0)) := by decide +kernel
theorem s_X11_close_64 {ca : Nat → List Value → tM → tO} {M : tM} {L : tL} {x y : Int32} {S : List Value} : rn ca C_X11_close 64 L (.int y :: .int x :: S) M = rn ca C_X11_close 65 L (.int (x + y) :: S) M := (rn_at k_X11_close_64).trans rfl
theorem k_X11_close_65 : lk 65 C_X11_close = some (.invokevirtual 210, (193, 3, 11, 777)) := by decide +kernel
theorem s_X11_close_65 {ca : Nat → List Value → tM → tO} {M : tM} {L : tL} {v1 v2 v3 : Value} {b : Nat} : rn ca C_X11_close 65 L [v3, v2, v1, .ref b] M = if clsO b = some 11 then rnk ca C_X11_close 68 L [] (ca m_X11_nearer [.ref b, v1, v2, v3] M) else none := (rn_at k_X11_close_65).trans rnx_ite
theorem k_X11_close_68 : lk 68 C_X11_close = some (.iinc 3 1, (0, 0, 0, 0)) := by decide +kernel
theorem s_X11_close_68 {ca : Nat → List Value → tM → tO} {M : tM} {a0 a1 a2 : Option Value} {x : Int32} {S : List Value} : rn ca C_X11_close 68 [a0, a1, a2, some (.int x)] S M = rn ca C_X11_close 71 [a0, a1, a2, some (.int (x + iI 1))] S M := (rn_at k_X11_close_68).trans rfl
theorem k_X11_close_71 : lk 71 C_X11_close = some (.goto (-43), (28, 0, 0, 0)) := by decide +kernel
theorem s_X11_close_71 {ca : Nat → List Value → tM → tO} {M : tM} {L : tL} {S : List Value} : rn ca C_X11_close 71 L S M = rn ca C_X11_close 28 L S M := (rn_at k_X11_close_71).trans rfl
theorem k_X11_close_74 : lk 74 C_X11_close = some (.iinc 2 1, (0, 0, 0, 0)) := by decide +kernel
theorem s_X11_close_74 {ca : Nat → List Value → tM → tO} {M : tM} {a0 a1 a3 : Option Value} {x : Int32} {S : List Value} : rn ca C_X11_close 74 [a0, a1, some (.int x), a3] S M = rn ca C_X11_close 77 [a0, a1, some (.int (x + iI 1)), a3] S M := (rn_at k_X11_close_74).trans rfl
theorem k_X11_close_77 : lk 77 C_X11_close = some (.goto (-62), (15, 0, 0, 0)) := by decide +kernel
theorem s_X11_close_77 {ca : Nat → List Value → tM → tO} {M : tM} {L : tL} {S : List Value} : rn ca C_X11_close 77 L S M = rn ca C_X11_close 15 L S M := (rn_at k_X11_close_77).trans rfl
theorem k_X11_close_80 : lk 80 C_X11_close = some (.iinc 1 1, (0, 0, 0, 0)) := by decide +kernel
theorem s_X11_close_80 {ca : Nat → List Value → tM → tO} {M : tM} {a0 a2 a3 : Option Value} {x : Int32} {S : List Value} : rn ca C_X11_close 80 [a0, some (.int x), a2, a3] S M = rn ca C_X11_close 83 [a0, some (.int (x + iI 1)), a2, a3] S M := (rn_at k_X11_close_80).trans rfl
theorem k_X11_close_83 : lk 83 C_X11_close = some (.goto (-81), (2, 0, 0, 0)) := by decide +kernel
theorem s_X11_close_83 {ca : Nat → List Value → tM → tO} {M : tM} {L : tL} {S : List Value} : rn ca C_X11_close 83 L S M = rn ca C_X11_close 2 L S M := (rn_at k_X11_close_83).trans rfl
theorem k_X11_close_86 : lk 86 C_X11_close = some (.return_, (0, 0, 0, 0)) := by decide +kernel
theorem s_X11_close_86 {ca : Nat → List Value → tM → tO} {M : tM} {L : tL} : rn ca C_X11_close 86 L [] M = some (none, M) := (rn_at k_X11_close_86).trans rfl
