theorem k_L_law_16 : lk 16 C_L_law = some (.iconst 0, (0, 0, 0, 0)) := by decide +kernel
theorem s_L_law_16 {ca : Nat → List Value → tM → tO} {M : tM} {L : tL} {S : List Value} : rn ca C_L_law 16 L S M = rn ca C_L_law 17 L (.int (iI 0) :: S) M := (rn_at k_L_law_16).trans rfl
theorem k_L_law_17 : lk 17 C_L_law = some (.istore_n 3, (0, 0, 0, 0)) := by decide +kernel
theorem s_L_law_17 {ca : Nat → List Value → tM → tO} {M : tM} {a0 a1 a2 a3 : Option Value} {x : Int32} {S : List Value} : rn ca C_L_law 17 [a0, a1, a2, a3] (.int x :: S) M = rn ca C_L_law 18 [a0, a1, a2, some (.int x)] S M := (rn_at k_L_law_17).trans rfl
theorem k_L_law_18 : lk 18 C_L_law = some (.iload_n 3, (0, 0, 0, 0)) := by decide +kernel
theorem s_L_law_18 {ca : Nat → List Value → tM → tO} {M : tM} {a0 a1 a2 : Option Value} {x : Int32} {S : List Value} : rn ca C_L_law 18 [a0, a1, a2, some (.int x)] S M = rn ca C_L_law 19 [a0, a1, a2, some (.int x)] (.int x :: S) M := (rn_at k_L_law_18).trans rfl
theorem k_L_law_19 : lk 19 C_L_law = some (.aload_n 0, (0, 0, 0, 0)) := by decide +kernel
theorem s_L_law_19 {ca : Nat → List Value → tM → tO} {M : tM} {a1 a2 a3 : Option Value} {x : Nat} {S : List Value} : rn ca C_L_law 19 [some (.ref x), a1, a2, a3] S M = rn ca C_L_law 20 [some (.ref x), a1, a2, a3] (.ref x :: S) M := (rn_at k_L_law_19).trans rfl
theorem k_L_law_20 : lk 20 C_L_law = some (.arraylength, (0, 0, 0, 0)) := by decide +kernel
theorem s_L_law_20 {ca : Nat → List Value → tM → tO} {M : tM} {L : tL} {a : Nat} {S : List Value} : rn ca C_L_law 20 L (.ref a :: S) M = if akind a < 9 then rn ca C_L_law 21 L (.int (iI (alen M a : Int)) :: S) M else none := (rn_at k_L_law_20).trans rnx_ite
theorem k_L_law_21 : lk 21 C_L_law = some (.bipush 6, (0, 0, 0, 0)) := by decide +kernel
theorem s_L_law_21 {ca : Nat → List Value → tM → tO} {M : tM} {L : tL} {S : List Value} : rn ca C_L_law 21 L S M = rn ca C_L_law 23 L (.int (iI 6) :: S) M := (rn_at k_L_law_21).trans rfl
theorem k_L_law_23 : lk 23 C_L_law = some (.isub, (0, 0, 0, 0)) := by decide +kernel
theorem s_L_law_23 {ca : Nat → List Value → tM → tO} {M : tM} {L : tL} {x y : Int32} {S : List Value} : rn ca C_L_law 23 L (.int y :: .int x :: S) M = rn ca C_L_law 24 L (.int (x - y) :: S) M := (rn_at k_L_law_23).trans rfl
theorem k_L_law_24 : lk 24 C_L_law = some (.if_icmp .gt 1546, (1570, 0, 0, 0)) := by decide +kernel
theorem s_L_law_24 {ca : Nat → List Value → tM → tO} {M : tM} {L : tL} {x y : Int32} {S : List Value} : rn ca C_L_law 24 L (.int y :: .int x :: S) M = if y < x then rn ca C_L_law 1570 L S M else rn ca C_L_law 27 L S M := (rn_at k_L_law_24).trans rnx_ite
theorem k_L_law_27 : lk 27 C_L_law = some (.aload_n 0, (0, 0, 0, 0)) := by decide +kernel
theorem s_L_law_27 {ca : Nat → List Value → tM → tO} {M : tM} {a1 a2 a3 : Option Value} {x : Nat} {S : List Value} : rn ca C_L_law 27 [some (.ref x), a1, a2, a3] S M = rn ca C_L_law 28 [some (.ref x), a1, a2, a3] (.ref x :: S) M := (rn_at k_L_law_27).trans rfl
theorem k_L_law_28 : lk 28 C_L_law = some (.iload_n 3, (0, 0, 0, 0)) := by decide +kernel
theorem s_L_law_28 {ca : Nat → List Value → tM → tO} {M : tM} {a0 a1 a2 : Option Value} {x : Int32} {S : List Value} : rn ca C_L_law 28 [a0, a1, a2, some (.int x)] S M = rn ca C_L_law 29 [a0, a1, a2, some (.int x)] (.int x :: S) M := (rn_at k_L_law_28).trans rfl
theorem k_L_law_29 : lk 29 C_L_law = some (.iaload, (0, 0, 0, 0)) := by decide +kernel
theorem s_L_law_29 {ca : Nat → List Value → tM → tO} {M : tM} {L : tL} {a : Nat} {i : Int32} {S : List Value} : rn ca C_L_law 29 L (.int i :: .ref a :: S) M = if (akind a = 0 ∨ akind a = 6 ∨ akind a = 7) ∧ inb i (alen M a) then rn ca C_L_law 30 L (.int (M.1 a i.toInt.toNat) :: S) M else none := (rn_at k_L_law_29).trans rnx_ite
theorem k_L_law_30 : lk 30 C_L_law = some (.bipush 63, (0, 0, 0, 0)) := by decide +kernel
theorem s_L_law_30 {ca : Nat → List Value → tM → tO} {M : tM} {L : tL} {S : List Value} : rn ca C_L_law 30 L S M = rn ca C_L_law 32 L (.int (iI 63) :: S) M := (rn_at k_L_law_30).trans rfl
theorem k_L_law_32 : lk 32 C_L_law = some (.iand, (0, 0, 0, 0)) := by decide +kernel
theorem s_L_law_32 {ca : Nat → List Value → tM → tO} {M : tM} {L : tL} {x y : Int32} {S : List Value} : rn ca C_L_law 32 L (.int y :: .int x :: S) M = rn ca C_L_law 33 L (.int (x &&& y) :: S) M := (rn_at k_L_law_32).trans rfl
theorem k_L_law_33 : lk 33 C_L_law = some (.tableswitch 1531 0 38 #[171, 214, 287, 350, 384, 417, 440, 473, 486, 539, 592, 641, 664, 697, 730, 753, 776, 789, 822, 865, 898, 951, 994, 1037, 1070, 1103, 1146, 1169, 1202, 1235, 1278, 1311, 1370, 1393, 1416, 1459, 1482, 1495, 1508], (0, 0, 0, 0)) := by decide +kernel
theorem s_L_law_33 {ca : Nat → List Value → tM → tO} {M : tM} {L : tL} {x : Int32} {S : List Value} : rn ca C_L_law 33 L (.int x :: S) M = if x = iI 0 then rn ca C_L_law 204 L S M else if x = iI 1 then rn ca C_L_law 247 L S M else if x = iI 2 then rn ca C_L_law 320 L S M else if x = iI 3 then rn ca C_L_law 383 L S M else if x = iI 4 then rn ca C_L_law 417 L S M else if x = iI 5 then rn ca C_L_law 450 L S M else if x = iI 6 then rn ca C_L_law 473 L S M else if x = iI 7 then rn ca C_L_law 506 L S M else if x = iI 8 then rn ca C_L_law 519 L S M else if x = iI 9 then rn ca C_L_law 572 L S M else if x = iI 10 then rn ca C_L_law 625 L S M else if x = iI 11 then rn ca C_L_law 674 L S M else if x = iI 12 then rn ca C_L_law 697 L S M else if x = iI 13 then rn ca C_L_law 730 L S M else if x = iI 14 then rn ca C_L_law 763 L S M else if x = iI 15 then rn ca C_L_law 786 L S M else if x = iI 16 then rn ca C_L_law 809 L S M else if x = iI 17 then rn ca C_L_law 822 L S M else if x = iI 18 then rn ca C_L_law 855 L S M else if x = iI 19 then rn ca C_L_law 898 L S M else if x = iI 20 then rn ca C_L_law 931 L S M else if x = iI 21 then rn ca C_L_law 984 L S M else if x = iI 22 then rn ca C_L_law 1027 L S M else if x = iI 23 then rn ca C_L_law 1070 L S M else if x = iI 24 then rn ca C_L_law 1103 L S M else if x = iI 25 then rn ca C_L_law 1136 L S M else if x = iI 26 then rn ca C_L_law 1179 L S M else if x = iI 27 then rn ca C_L_law 1202 L S M else if x = iI 28 then rn ca C_L_law 1235 L S M else if x = iI 29 then rn ca C_L_law 1268 L S M else if x = iI 30 then rn ca C_L_law 1311 L S M else if x = iI 31 then rn ca C_L_law 1344 L S M else if x = iI 32 then rn ca C_L_law 1403 L S M else if x = iI 33 then rn ca C_L_law 1426 L S M else if x = iI 34 then rn ca C_L_law 1449 L S M else if x = iI 35 then rn ca C_L_law 1492 L S M else if x = iI 36 then rn ca C_L_law 1515 L S M else if x = iI 37 then rn ca C_L_law 1528 L S M else if x = iI 38 then rn ca C_L_law 1541 L S M else rn ca C_L_law 1564 L S M := by rw [rn_at k_L_law_33]; simp only [ta, tsw, lsw, rnx_ite]; rfl
theorem k_L_law_204 : lk 204 C_L_law = some (.aload_n 1, (0, 0, 0, 0)) := by decide +kernel
theorem s_L_law_204 {ca : Nat → List Value → tM → tO} {M : tM} {a0 a2 a3 : Option Value} {x : Nat} {S : List Value} : rn ca C_L_law 204 [a0, some (.ref x), a2, a3] S M = rn ca C_L_law 205 [a0, some (.ref x), a2, a3] (.ref x :: S) M := (rn_at k_L_law_204).trans rfl
theorem k_L_law_205 : lk 205 C_L_law = some (.aload_n 0, (0, 0, 0, 0)) := by decide +kernel
theorem s_L_law_205 {ca : Nat → List Value → tM → tO} {M : tM} {a1 a2 a3 : Option Value} {x : Nat} {S : List Value} : rn ca C_L_law 205 [some (.ref x), a1, a2, a3] S M = rn ca C_L_law 206 [some (.ref x), a1, a2, a3] (.ref x :: S) M := (rn_at k_L_law_205).trans rfl
theorem k_L_law_206 : lk 206 C_L_law = some (.iload_n 3, (0, 0, 0, 0)) := by decide +kernel
theorem s_L_law_206 {ca : Nat → List Value → tM → tO} {M : tM} {a0 a1 a2 : Option Value} {x : Int32} {S : List Value} : rn ca C_L_law 206 [a0, a1, a2, some (.int x)] S M = rn ca C_L_law 207 [a0, a1, a2, some (.int x)] (.int x :: S) M := (rn_at k_L_law_206).trans rfl
theorem k_L_law_207 : lk 207 C_L_law = some (.iconst 1, (0, 0, 0, 0)) := by decide +kernel
theorem s_L_law_207 {ca : Nat → List Value → tM → tO} {M : tM} {L : tL} {S : List Value} : rn ca C_L_law 207 L S M = rn ca C_L_law 208 L (.int (iI 1) :: S) M := (rn_at k_L_law_207).trans rfl
theorem k_L_law_208 : lk 208 C_L_law = some (.iadd, (0, 0, 0, 0)) := by decide +kernel
theorem s_L_law_208 {ca : Nat → List Value → tM → tO} {M : tM} {L : tL} {x y : Int32} {S : List Value} : rn ca C_L_law 208 L (.int y :: .int x :: S) M = rn ca C_L_law 209 L (.int (x + y) :: S) M := (rn_at k_L_law_208).trans rfl
theorem k_L_law_209 : lk 209 C_L_law = some (.iaload, (0, 0, 0, 0)) := by decide +kernel
theorem s_L_law_209 {ca : Nat → List Value → tM → tO} {M : tM} {L : tL} {a : Nat} {i : Int32} {S : List Value} : rn ca C_L_law 209 L (.int i :: .ref a :: S) M = if (akind a = 0 ∨ akind a = 6 ∨ akind a = 7) ∧ inb i (alen M a) then rn ca C_L_law 210 L (.int (M.1 a i.toInt.toNat) :: S) M else none := (rn_at k_L_law_209).trans rnx_ite
theorem k_L_law_210 : lk 210 C_L_law = some (.aload_n 0, (0, 0, 0, 0)) := by decide +kernel
theorem s_L_law_210 {ca : Nat → List Value → tM → tO} {M : tM} {a1 a2 a3 : Option Value} {x : Nat} {S : List Value} : rn ca C_L_law 210 [some (.ref x), a1, a2, a3] S M = rn ca C_L_law 211 [some (.ref x), a1, a2, a3] (.ref x :: S) M := (rn_at k_L_law_210).trans rfl
theorem k_L_law_211 : lk 211 C_L_law = some (.iload_n 3, (0, 0, 0, 0)) := by decide +kernel
theorem s_L_law_211 {ca : Nat → List Value → tM → tO} {M : tM} {a0 a1 a2 : Option Value} {x : Int32} {S : List Value} : rn ca C_L_law 211 [a0, a1, a2, some (.int x)] S M = rn ca C_L_law 212 [a0, a1, a2, some (.int x)] (.int x :: S) M := (rn_at k_L_law_211).trans rfl
theorem k_L_law_212 : lk 212 C_L_law = some (.iconst 2, (0, 0, 0, 0)) := by decide +kernel
theorem s_L_law_212 {ca : Nat → List Value → tM → tO} {M : tM} {L : tL} {S : List Value} : rn ca C_L_law 212 L S M = rn ca C_L_law 213 L (.int (iI 2) :: S) M := (rn_at k_L_law_212).trans rfl
theorem k_L_law_213 : lk 213 C_L_law = some (.iadd, (0, 0, 0, 0)) := by decide +kernel
theorem s_L_law_213 {ca : Nat → List Value → tM → tO} {M : tM} {L : tL} {x y : Int32} {S : List Value} : rn ca C_L_law 213 L (.int y :: .int x :: S) M = rn ca C_L_law 214 L (.int (x + y) :: S) M := (rn_at k_L_law_213).trans rfl
theorem k_L_law_214 : lk 214 C_L_law = some (.iaload, (0, 0, 0, 0)) := by decide +kernel
theorem s_L_law_214 {ca : Nat → List Value → tM → tO} {M : tM} {L : tL} {a : Nat} {i : Int32} {S : List Value} : rn ca C_L_law 214 L (.int i :: .ref a :: S) M = if (akind a = 0 ∨ akind a = 6 ∨ akind a = 7) ∧ inb i (alen M a) then rn ca C_L_law 215 L (.int (M.1 a i.toInt.toNat) :: S) M else none := (rn_at k_L_law_214).trans rnx_ite
theorem k_L_law_215 : lk 215 C_L_law = some (.aload_n 0, (0, 0, 0, 0)) := by decide +kernel
theorem s_L_law_215 {ca : Nat → List Value → tM → tO} {M : tM} {a1 a2 a3 : Option Value} {x : Nat} {S : List Value} : rn ca C_L_law 215 [some (.ref x), a1, a2, a3] S M = rn ca C_L_law 216 [some (.ref x), a1, a2, a3] (.ref x :: S) M := (rn_at k_L_law_215).trans rfl
theorem k_L_law_216 : lk 216 C_L_law = some (.iload_n 3, (0, 0, 0, 0)) := by decide +kernel
theorem s_L_law_216 {ca : Nat → List Value → tM → tO} {M : tM} {a0 a1 a2 : Option Value} {x : Int32} {S : List Value} : rn ca C_L_law 216 [a0, a1, a2, some (.int x)] S M = rn ca C_L_law 217 [a0, a1, a2, some (.int x)] (.int x :: S) M := (rn_at k_L_law_216).trans rfl
theorem k_L_law_217 : lk 217 C_L_law = some (.iconst 3, (0, 0, 0, 0)) := by decide +kernel
theorem s_L_law_217 {ca : Nat → List Value → tM → tO} {M : tM} {L : tL} {S : List Value} : rn ca C_L_law 217 L S M = rn ca C_L_law 218 L (.int (iI 3) :: S) M := (rn_at k_L_law_217).trans rfl
theorem k_L_law_218 : lk 218 C_L_law = some (.iadd, (0, 0, 0, 0)) := by decide +kernel
theorem s_L_law_218 {ca : Nat → List Value → tM → tO} {M : tM} {L : tL} {x y : Int32} {S : List Value} : rn ca C_L_law 218 L (.int y :: .int x :: S) M = rn ca C_L_law 219 L (.int (x + y) :: S) M := (rn_at k_L_law_218).trans rfl
theorem k_L_law_219 : lk 219 C_L_law = some (.iaload, (0, 0, 0, 0)) := by decide +kernel
theorem s_L_law_219 {ca : Nat → List Value → tM → tO} {M : tM} {L : tL} {a : Nat} {i : Int32} {S : List Value} : rn ca C_L_law 219 L (.int i :: .ref a :: S) M = if (akind a = 0 ∨ akind a = 6 ∨ akind a = 7) ∧ inb i (alen M a) then rn ca C_L_law 220 L (.int (M.1 a i.toInt.toNat) :: S) M else none := (rn_at k_L_law_219).trans rnx_ite
theorem k_L_law_220 : lk 220 C_L_law = some (.invokevirtual 13, (95, 3, 10, 167)) := by decide +kernel
theorem s_L_law_220 {ca : Nat → List Value → tM → tO} {M : tM} {L : tL} {v1 v2 v3 : Value} {b : Nat} : rn ca C_L_law 220 L [v3, v2, v1, .ref b] M = if clsO b = some 10 then rnk ca C_L_law 223 L [] (ca m_X10_row [.ref b, v1, v2, v3] M) else none := (rn_at k_L_law_220).trans rnx_ite
theorem k_L_law_223 : lk 223 C_L_law = some (.aload_n 2, (0, 0, 0, 0)) := by decide +kernel
theorem s_L_law_223 {ca : Nat → List Value → tM → tO} {M : tM} {a0 a1 a3 : Option Value} {x : Nat} {S : List Value} : rn ca C_L_law 223 [a0, a1, some (.ref x), a3] S M = rn ca C_L_law 224 [a0, a1, some (.ref x), a3] (.ref x :: S) M := (rn_at k_L_law_223).trans rfl
theorem k_L_law_224 : lk 224 C_L_law = some (.aload_n 0, (0, 0, 0, 0)) := by decide +kernel
theorem s_L_law_224 {ca : Nat → List Value → tM → tO} {M : tM} {a1 a2 a3 : Option Value} {x : Nat} {S : List Value} : rn ca C_L_law 224 [some (.ref x), a1, a2, a3] S M = rn ca C_L_law 225 [some (.ref x), a1, a2, a3] (.ref x :: S) M := (rn_at k_L_law_224).trans rfl
theorem k_L_law_225 : lk 225 C_L_law = some (.iload_n 3, (0, 0, 0, 0)) := by decide +kernel
theorem s_L_law_225 {ca : Nat → List Value → tM → tO} {M : tM} {a0 a1 a2 : Option Value} {x : Int32} {S : List Value} : rn ca C_L_law 225 [a0, a1, a2, some (.int x)] S M = rn ca C_L_law 226 [a0, a1, a2, some (.int x)] (.int x :: S) M := (rn_at k_L_law_225).trans rfl
theorem k_L_law_226 : lk 226 C_L_law = some (.iconst 1, (0, 0, 0, 0)) := by decide +kernel
theorem s_L_law_226 {ca : Nat → List Value → tM → tO} {M : tM} {L : tL} {S : List Value} : rn ca C_L_law 226 L S M = rn ca C_L_law 227 L (.int (iI 1) :: S) M := (rn_at k_L_law_226).trans rfl
theorem k_L_law_227 : lk 227 C_L_law = some (.iadd, (0, 0, 0, 0)) := by decide +kernel
theorem s_L_law_227 {ca : Nat → List Value → tM → tO} {M : tM} {L : tL} {x y : Int32} {S : List Value} : rn ca C_L_law 227 L (.int y :: .int x :: S) M = rn ca C_L_law 228 L (.int (x + y) :: S) M := (rn_at k_L_law_227).trans rfl
theorem k_L_law_228 : lk 228 C_L_law = some (.iaload, (0, 0, 0, 0)) := by decide +kernel
theorem s_L_law_228 {ca : Nat → List Value → tM → tO} {M : tM} {L : tL} {a : Nat} {i : Int32} {S : List Value} : rn ca C_L_law 228 L (.int i :: .ref a :: S) M = if (akind a = 0 ∨ akind a = 6 ∨ akind a = 7) ∧ inb i (alen M a) then rn ca C_L_law 229 L (.int (M.1 a i.toInt.toNat) :: S) M else none := (rn_at k_L_law_228).trans rnx_ite
theorem k_L_law_229 : lk 229 C_L_law = some (.aload_n 0, (0, 0, 0, 0)) := by decide +kernel
theorem s_L_law_229 {ca : Nat → List Value → tM → tO} {M : tM} {a1 a2 a3 : Option Value} {x : Nat} {S : List Value} : rn ca C_L_law 229 [some (.ref x), a1, a2, a3] S M = rn ca C_L_law 230 [some (.ref x), a1, a2, a3] (.ref x :: S) M := (rn_at k_L_law_229).trans rfl
theorem k_L_law_230 : lk 230 C_L_law = some (.iload_n 3, (0, 0, 0, 0)) := by decide +kernel
theorem s_L_law_230 {ca : Nat → List Value → tM → tO} {M : tM} {a0 a1 a2 : Option Value} {x : Int32} {S : List Value} : rn ca C_L_law 230 [a0, a1, a2, some (.int x)] S M = rn ca C_L_law 231 [a0, a1, a2, some (.int x)] (.int x :: S) M := (rn_at k_L_law_230).trans rfl
theorem k_L_law_231 : lk 231 C_L_law = some (.iconst 2, (0, 0, 0, 0)) := by decide +kernel
theorem s_L_law_231 {ca : Nat → List Value → tM → tO} {M : tM} {L : tL} {S : List Value} : rn ca C_L_law 231 L S M = rn ca C_L_law 232 L (.int (iI 2) :: S) M := (rn_at k_L_law_231).trans rfl
theorem k_L_law_232 : lk 232 C_L_law = some (.iadd, (0, 0, 0, 0)) := by decide +kernel
theorem s_L_law_232 {ca : Nat → List Value → tM → tO} {M : tM} {L : tL} {x y : Int32} {S : List Value} : rn ca C_L_law 232 L (.int y :: .int x :: S) M = rn ca C_L_law 233 L (.int (x + y) :: S) M := (rn_at k_L_law_232).trans rfl
theorem k_L_law_233 : lk 233 C_L_law = some (.iaload, (0, 0, 0, 0)) := by decide +kernel
theorem s_L_law_233 {ca : Nat → List Value → tM → tO} {M : tM} {L : tL} {a : Nat} {i : Int32} {S : List Value} : rn ca C_L_law 233 L (.int i :: .ref a :: S) M = if (akind a = 0 ∨ akind a = 6 ∨ akind a = 7) ∧ inb i (alen M a) then rn ca C_L_law 234 L (.int (M.1 a i.toInt.toNat) :: S) M else none := (rn_at k_L_law_233).trans rnx_ite
theorem k_L_law_234 : lk 234 C_L_law = some (.aload_n 0, (0, 0, 0, 0)) := by decide +kernel
theorem s_L_law_234 {ca : Nat → List Value → tM → tO} {M : tM} {a1 a2 a3 : Option Value} {x : Nat} {S : List Value} : rn ca C_L_law 234 [some (.ref x), a1, a2, a3] S M = rn ca C_L_law 235 [some (.ref x), a1, a2, a3] (.ref x :: S) M := (rn_at k_L_law_234).trans rfl
theorem k_L_law_235 : lk 235 C_L_law = some (.iload_n 3, (0, 0, 0, 0)) := by decide +kernel
theorem s_L_law_235 {ca : Nat → List Value → tM → tO} {M : tM} {a0 a1 a2 : Option Value} {x : Int32} {S : List Value} : rn ca C_L_law 235 [a0, a1, a2, some (.int x)] S M = rn ca C_L_law 236 [a0, a1, a2, some (.int x)] (.int x :: S) M := (rn_at k_L_law_235).trans rfl
theorem k_L_law_236 : lk 236 C_L_law = some (.iconst 3, (0, 0, 0, 0)) := by decide +kernel
theorem s_L_law_236 {ca : Nat → List Value → tM → tO} {M : tM} {L : tL} {S : List Value} : rn ca C_L_law 236 L S M = rn ca C_L_law 237 L (.int (iI 3) :: S) M := (rn_at k_L_law_236).trans rfl
theorem k_L_law_237 : lk 237 C_L_law = some (.iadd, (0, 0, 0, 0)) := by decide +kernel
theorem s_L_law_237 {ca : Nat → List Value → tM → tO} {M : tM} {L : tL} {x y : Int32} {S : List Value} : rn ca C_L_law 237 L (.int y :: .int x :: S) M = rn ca C_L_law 238 L (.int (x + y) :: S) M := (rn_at k_L_law_237).trans rfl
theorem k_L_law_238 : lk 238 C_L_law = some (.iaload, (0, 0, 0, 0)) := by decide +kernel
theorem s_L_law_238 {ca : Nat → List Value → tM → tO} {M : tM} {L : tL} {a : Nat} {i : Int32} {S : List Value} : rn ca C_L_law 238 L (.int i :: .ref a :: S) M = if (akind a = 0 ∨ akind a = 6 ∨ akind a = 7) ∧ inb i (alen M a) then rn ca C_L_law 239 L (.int (M.1 a i.toInt.toNat) :: S) M else none := (rn_at k_L_law_238).trans rnx_ite
theorem k_L_law_239 : lk 239 C_L_law = some (.invokevirtual 17, (171, 3, 11, 188)) := by decide +kernel
theorem s_L_law_239 {ca : Nat → List Value → tM → tO} {M : tM} {L : tL} {v1 v2 v3 : Value} {r0 : Int32} {b : Nat} : rn ca C_L_law 239 L [v3, v2, v1, .ref b, .int r0] M = if clsO b = some 11 then rnk ca C_L_law 242 L [.int r0] (ca m_X11_row [.ref b, v1, v2, v3] M) else none := (rn_at k_L_law_239).trans rnx_ite
theorem k_L_law_242 : lk 242 C_L_law = some (.if_icmp .eq 1322, (1564, 0, 0, 0)) := by decide +kernel
theorem s_L_law_242 {ca : Nat → List Value → tM → tO} {M : tM} {L : tL} {x y : Int32} {S : List Value} : rn ca C_L_law 242 L (.int y :: .int x :: S) M = if x = y then rn ca C_L_law 1564 L S M else rn ca C_L_law 245 L S M := (rn_at k_L_law_242).trans rnx_ite
theorem k_L_law_245 : lk 245 C_L_law = some (.iconst 0, (0, 0, 0, 0)) := by decide +kernel
theorem s_L_law_245 {ca : Nat → List Value → tM → tO} {M : tM} {L : tL} {S : List Value} : rn ca C_L_law 245 L S M = rn ca C_L_law 246 L (.int (iI 0) :: S) M := (rn_at k_L_law_245).trans rfl
theorem k_L_law_246 : lk 246 C_L_law = some (.ireturn, (1, 0, 0, 0)) := by decide +kernel
theorem s_L_law_246 {ca : Nat → List Value → tM → tO} {M : tM} {L : tL} {x : Int32} : rn ca C_L_law 246 L [.int x] M = if x = iI 0 ∨ x = iI 1 then some (some (.int x), M) else none := (rn_at k_L_law_246).trans rnx_ite
theorem k_L_law_247 : lk 247 C_L_law = some (.aload_n 1, (0, 0, 0, 0)) := by decide +kernel
theorem s_L_law_247 {ca : Nat → List Value → tM → tO} {M : tM} {a0 a2 a3 : Option Value} {x : Nat} {S : List Value} : rn ca C_L_law 247 [a0, some (.ref x), a2, a3] S M = rn ca C_L_law 248 [a0, some (.ref x), a2, a3] (.ref x :: S) M := (rn_at k_L_law_247).trans rfl
theorem k_L_law_248 : lk 248 C_L_law = some (.aload_n 0, (0, 0, 0, 0)) := by decide +kernel
theorem s_L_law_248 {ca : Nat → List Value → tM → tO} {M : tM} {a1 a2 a3 : Option Value} {x : Nat} {S : List Value} : rn ca C_L_law 248 [some (.ref x), a1, a2, a3] S M = rn ca C_L_law 249 [some (.ref x), a1, a2, a3] (.ref x :: S) M := (rn_at k_L_law_248).trans rfl
theorem k_L_law_249 : lk 249 C_L_law = some (.iload_n 3, (0, 0, 0, 0)) := by decide +kernel
theorem s_L_law_249 {ca : Nat → List Value → tM → tO} {M : tM} {a0 a1 a2 : Option Value} {x : Int32} {S : List Value} : rn ca C_L_law 249 [a0, a1, a2, some (.int x)] S M = rn ca C_L_law 250 [a0, a1, a2, some (.int x)] (.int x :: S) M := (rn_at k_L_law_249).trans rfl
theorem k_L_law_250 : lk 250 C_L_law = some (.iconst 1, (0, 0, 0, 0)) := by decide +kernel
theorem s_L_law_250 {ca : Nat → List Value → tM → tO} {M : tM} {L : tL} {S : List Value} : rn ca C_L_law 250 L S M = rn ca C_L_law 251 L (.int (iI 1) :: S) M := (rn_at k_L_law_250).trans rfl
theorem k_L_law_251 : lk 251 C_L_law = some (.iadd, (0, 0, 0, 0)) := by decide +kernel
theorem s_L_law_251 {ca : Nat → List Value → tM → tO} {M : tM} {L : tL} {x y : Int32} {S : List Value} : rn ca C_L_law 251 L (.int y :: .int x :: S) M = rn ca C_L_law 252 L (.int (x + y) :: S) M := (rn_at k_L_law_251).trans rfl
theorem k_L_law_252 : lk 252 C_L_law = some (.iaload, (0, 0, 0, 0)) := by decide +kernel
theorem s_L_law_252 {ca : Nat → List Value → tM → tO} {M : tM} {L : tL} {a : Nat} {i : Int32} {S : List Value} : rn ca C_L_law 252 L (.int i :: .ref a :: S) M = if (akind a = 0 ∨ akind a = 6 ∨ akind a = 7) ∧ inb i (alen M a) then rn ca C_L_law 253 L (.int (M.1 a i.toInt.toNat) :: S) M else none := (rn_at k_L_law_252).trans rnx_ite
theorem k_L_law_253 : lk 253 C_L_law = some (.aload_n 0, (0, 0, 0, 0)) := by decide +kernel
theorem s_L_law_253 {ca : Nat → List Value → tM → tO} {M : tM} {a1 a2 a3 : Option Value} {x : Nat} {S : List Value} : rn ca C_L_law 253 [some (.ref x), a1, a2, a3] S M = rn ca C_L_law 254 [some (.ref x), a1, a2, a3] (.ref x :: S) M := (rn_at k_L_law_253).trans rfl
theorem k_L_law_254 : lk 254 C_L_law = some (.iload_n 3, (0, 0, 0, 0)) := by decide +kernel
theorem s_L_law_254 {ca : Nat → List Value → tM → tO} {M : tM} {a0 a1 a2 : Option Value} {x : Int32} {S : List Value} : rn ca C_L_law 254 [a0, a1, a2, some (.int x)] S M = rn ca C_L_law 255 [a0, a1, a2, some (.int x)] (.int x :: S) M := (rn_at k_L_law_254).trans rfl
theorem k_L_law_255 : lk 255 C_L_law = some (.iconst 2, (0, 0, 0, 0)) := by decide +kernel
theorem s_L_law_255 {ca : Nat → List Value → tM → tO} {M : tM} {L : tL} {S : List Value} : rn ca C_L_law 255 L S M = rn ca C_L_law 256 L (.int (iI 2) :: S) M := (rn_at k_L_law_255).trans rfl
theorem k_L_law_256 : lk 256 C_L_law = some (.iadd, (0, 0, 0, 0)) := by decide +kernel
theorem s_L_law_256 {ca : Nat → List Value → tM → tO} {M : tM} {L : tL} {x y : Int32} {S : List Value} : rn ca C_L_law 256 L (.int y :: .int x :: S) M = rn ca C_L_law 257 L (.int (x + y) :: S) M := (rn_at k_L_law_256).trans rfl
theorem k_L_law_257 : lk 257 C_L_law = some (.iaload, (0, 0, 0, 0)) := by decide +kernel
theorem s_L_law_257 {ca : Nat → List Value → tM → tO} {M : tM} {L : tL} {a : Nat} {i : Int32} {S : List Value} : rn ca C_L_law 257 L (.int i :: .ref a :: S) M = if (akind a = 0 ∨ akind a = 6 ∨ akind a = 7) ∧ inb i (alen M a) then rn ca C_L_law 258 L (.int (M.1 a i.toInt.toNat) :: S) M else none := (rn_at k_L_law_257).trans rnx_ite
theorem k_L_law_258 : lk 258 C_L_law = some (.aload_n 0, (0, 0, 0, 0)) := by decide +kernel
theorem s_L_law_258 {ca : Nat → List Value → tM → tO} {M : tM} {a1 a2 a3 : Option Value} {x : Nat} {S : List Value} : rn ca C_L_law 258 [some (.ref x), a1, a2, a3] S M = rn ca C_L_law 259 [some (.ref x), a1, a2, a3] (.ref x :: S) M := (rn_at k_L_law_258).trans rfl
theorem k_L_law_259 : lk 259 C_L_law = some (.iload_n 3, (0, 0, 0, 0)) := by decide +kernel
theorem s_L_law_259 {ca : Nat → List Value → tM → tO} {M : tM} {a0 a1 a2 : Option Value} {x : Int32} {S : List Value} : rn ca C_L_law 259 [a0, a1, a2, some (.int x)] S M = rn ca C_L_law 260 [a0, a1, a2, some (.int x)] (.int x :: S) M := (rn_at k_L_law_259).trans rfl
theorem k_L_law_260 : lk 260 C_L_law = some (.iconst 3, (0, 0, 0, 0)) := by decide +kernel
theorem s_L_law_260 {ca : Nat → List Value → tM → tO} {M : tM} {L : tL} {S : List Value} : rn ca C_L_law 260 L S M = rn ca C_L_law 261 L (.int (iI 3) :: S) M := (rn_at k_L_law_260).trans rfl
theorem k_L_law_261 : lk 261 C_L_law = some (.iadd, (0, 0, 0, 0)) := by decide +kernel
theorem s_L_law_261 {ca : Nat → List Value → tM → tO} {M : tM} {L : tL} {x y : Int32} {S : List Value} : rn ca C_L_law 261 L (.int y :: .int x :: S) M = rn ca C_L_law 262 L (.int (x + y) :: S) M := (rn_at k_L_law_261).trans rfl
theorem k_L_law_262 : lk 262 C_L_law = some (.iaload, (0, 0, 0, 0)) := by decide +kernel
theorem s_L_law_262 {ca : Nat → List Value → tM → tO} {M : tM} {L : tL} {a : Nat} {i : Int32} {S : List Value} : rn ca C_L_law 262 L (.int i :: .ref a :: S) M = if (akind a = 0 ∨ akind a = 6 ∨ akind a = 7) ∧ inb i (alen M a) then rn ca C_L_law 263 L (.int (M.1 a i.toInt.toNat) :: S) M else none := (rn_at k_L_law_262).trans rnx_ite
theorem k_L_law_263 : lk 263 C_L_law = some (.i2l, (0, 0, 0, 0)) := by decide +kernel
theorem s_L_law_263 {ca : Nat → List Value → tM → tO} {M : tM} {L : tL} {x : Int32} {S : List Value} : rn ca C_L_law 263 L (.int x :: S) M = rn ca C_L_law 264 L (.long x.toInt64 :: S) M := (rn_at k_L_law_263).trans rfl
theorem k_L_law_264 : lk 264 C_L_law = some (.bipush 32, (0, 0, 0, 0)) := by decide +kernel
theorem s_L_law_264 {ca : Nat → List Value → tM → tO} {M : tM} {L : tL} {S : List Value} : rn ca C_L_law 264 L S M = rn ca C_L_law 266 L (.int (iI 32) :: S) M := (rn_at k_L_law_264).trans rfl
theorem k_L_law_266 : lk 266 C_L_law = some (.lshl, (0, 0, 0, 0)) := by decide +kernel
theorem s_L_law_266 {ca : Nat → List Value → tM → tO} {M : tM} {L : tL} {x : Int64} {y : Int32} {S : List Value} : rn ca C_L_law 266 L (.int y :: .long x :: S) M = rn ca C_L_law 267 L (.long (x <<< (y.toInt64 &&& 63)) :: S) M := (rn_at k_L_law_266).trans rfl
theorem k_L_law_267 : lk 267 C_L_law = some (.aload_n 0, (0, 0, 0, 0)) := by decide +kernel
theorem s_L_law_267 {ca : Nat → List Value → tM → tO} {M : tM} {a1 a2 a3 : Option Value} {x : Nat} {S : List Value} : rn ca C_L_law 267 [some (.ref x), a1, a2, a3] S M = rn ca C_L_law 268 [some (.ref x), a1, a2, a3] (.ref x :: S) M := (rn_at k_L_law_267).trans rfl
theorem k_L_law_268 : lk 268 C_L_law = some (.iload_n 3, (0, 0, 0, 0)) := by decide +kernel
theorem s_L_law_268 {ca : Nat → List Value → tM → tO} {M : tM} {a0 a1 a2 : Option Value} {x : Int32} {S : List Value} : rn ca C_L_law 268 [a0, a1, a2, some (.int x)] S M = rn ca C_L_law 269 [a0, a1, a2, some (.int x)] (.int x :: S) M := (rn_at k_L_law_268).trans rfl
theorem k_L_law_269 : lk 269 C_L_law = some (.iconst 4, (0, 0, 0, 0)) := by decide +kernel
theorem s_L_law_269 {ca : Nat → List Value → tM → tO} {M : tM} {L : tL} {S : List Value} : rn ca C_L_law 269 L S M = rn ca C_L_law 270 L (.int (iI 4) :: S) M := (rn_at k_L_law_269).trans rfl
theorem k_L_law_270 : lk 270 C_L_law = some (.iadd, (0, 0, 0, 0)) := by decide +kernel
theorem s_L_law_270 {ca : Nat → List Value → tM → tO} {M : tM} {L : tL} {x y : Int32} {S : List Value} : rn ca C_L_law 270 L (.int y :: .int x :: S) M = rn ca C_L_law 271 L (.int (x + y) :: S) M := (rn_at k_L_law_270).trans rfl
theorem k_L_law_271 : lk 271 C_L_law = some (.iaload, (0, 0, 0, 0)) := by decide +kernel
theorem s_L_law_271 {ca : Nat → List Value → tM → tO} {M : tM} {L : tL} {a : Nat} {i : Int32} {S : List Value} : rn ca C_L_law 271 L (.int i :: .ref a :: S) M = if (akind a = 0 ∨ akind a = 6 ∨ akind a = 7) ∧ inb i (alen M a) then rn ca C_L_law 272 L (.int (M.1 a i.toInt.toNat) :: S) M else none := (rn_at k_L_law_271).trans rnx_ite
theorem k_L_law_272 : lk 272 C_L_law = some (.i2l, (0, 0, 0, 0)) := by decide +kernel
theorem s_L_law_272 {ca : Nat → List Value → tM → tO} {M : tM} {L : tL} {x : Int32} {S : List Value} : rn ca C_L_law 272 L (.int x :: S) M = rn ca C_L_law 273 L (.long x.toInt64 :: S) M := (rn_at k_L_law_272).trans rfl
theorem k_L_law_273 : lk 273 C_L_law = some (.ldc2_w 18, (0, 0, 4294967295, 6)) := by decide +kernel
theorem s_L_law_273 {ca : Nat → List Value → tM → tO} {M : tM} {L : tL} {S : List Value} : rn ca C_L_law 273 L S M = rn ca C_L_law 276 L (.long (jJ 4294967295) :: S) M := (rn_at k_L_law_273).trans rfl
theorem k_L_law_276 : lk 276 C_L_law = some (.land, (0, 0, 0, 0)) := by decide +kernel
theorem s_L_law_276 {ca : Nat → List Value → tM → tO} {M : tM} {L : tL} {x y : Int64} {S : List Value} : rn ca C_L_law 276 L (.long y :: .long x :: S) M = rn ca C_L_law 277 L (.long (x &&& y) :: S) M := (rn_at k_L_law_276).trans rfl
theorem k_L_law_277 : lk 277 C_L_law = some (.lor, (0, 0, 0, 0)) := by decide +kernel
theorem s_L_law_277 {ca : Nat → List Value → tM → tO} {M : tM} {L : tL} {x y : Int64} {S : List Value} : rn ca C_L_law 277 L (.long y :: .long x :: S) M = rn ca C_L_law 278 L (.long (x ||| y) :: S) M := (rn_at k_L_law_277).trans rfl
theorem k_L_law_278 : lk 278 C_L_law = some (.invokevirtual 20, (96, 3, 10, 204)) := by decide +kernel
theorem s_L_law_278 {ca : Nat → List Value → tM → tO} {M : tM} {L : tL} {v1 v2 v3 : Value} {b : Nat} : rn ca C_L_law 278 L [v3, v2, v1, .ref b] M = if clsO b = some 10 then rnk ca C_L_law 281 L [] (ca m_X10_set [.ref b, v1, v2, v3] M) else none := (rn_at k_L_law_278).trans rnx_ite
theorem k_L_law_281 : lk 281 C_L_law = some (.aload_n 2, (0, 0, 0, 0)) := by decide +kernel
theorem s_L_law_281 {ca : Nat → List Value → tM → tO} {M : tM} {a0 a1 a3 : Option Value} {x : Nat} {S : List Value} : rn ca C_L_law 281 [a0, a1, some (.ref x), a3] S M = rn ca C_L_law 282 [a0, a1, some (.ref x), a3] (.ref x :: S) M := (rn_at k_L_law_281).trans rfl
theorem k_L_law_282 : lk 282 C_L_law = some (.aload_n 0, (0, 0, 0, 0)) := by decide +kernel
theorem s_L_law_282 {ca : Nat → List Value → tM → tO} {M : tM} {a1 a2 a3 : Option Value} {x : Nat} {S : List Value} : rn ca C_L_law 282 [some (.ref x), a1, a2, a3] S M = rn ca C_L_law 283 [some (.ref x), a1, a2, a3] (.ref x :: S) M := (rn_at k_L_law_282).trans rfl
theorem k_L_law_283 : lk 283 C_L_law = some (.iload_n 3, (0, 0, 0, 0)) := by decide +kernel
theorem s_L_law_283 {ca : Nat → List Value → tM → tO} {M : tM} {a0 a1 a2 : Option Value} {x : Int32} {S : List Value} : rn ca C_L_law 283 [a0, a1, a2, some (.int x)] S M = rn ca C_L_law 284 [a0, a1, a2, some (.int x)] (.int x :: S) M := (rn_at k_L_law_283).trans rfl
theorem k_L_law_284 : lk 284 C_L_law = some (.iconst 1, (0, 0, 0, 0)) := by decide +kernel
theorem s_L_law_284 {ca : Nat → List Value → tM → tO} {M : tM} {L : tL} {S : List Value} : rn ca C_L_law 284 L S M = rn ca C_L_law 285 L (.int (iI 1) :: S) M := (rn_at k_L_law_284).trans rfl
theorem k_L_law_285 : lk 285 C_L_law = some (.iadd, (0, 0, 0, 0)) := by decide +kernel
theorem s_L_law_285 {ca : Nat → List Value → tM → tO} {M : tM} {L : tL} {x y : Int32} {S : List Value} : rn ca C_L_law 285 L (.int y :: .int x :: S) M = rn ca C_L_law 286 L (.int (x + y) :: S) M := (rn_at k_L_law_285).trans rfl
theorem k_L_law_286 : lk 286 C_L_law = some (.iaload, (0, 0, 0, 0)) := by decide +kernel
theorem s_L_law_286 {ca : Nat → List Value → tM → tO} {M : tM} {L : tL} {a : Nat} {i : Int32} {S : List Value} : rn ca C_L_law 286 L (.int i :: .ref a :: S) M = if (akind a = 0 ∨ akind a = 6 ∨ akind a = 7) ∧ inb i (alen M a) then rn ca C_L_law 287 L (.int (M.1 a i.toInt.toNat) :: S) M else none := (rn_at k_L_law_286).trans rnx_ite
theorem k_L_law_287 : lk 287 C_L_law = some (.aload_n 0, (0, 0, 0, 0)) := by decide +kernel
theorem s_L_law_287 {ca : Nat → List Value → tM → tO} {M : tM} {a1 a2 a3 : Option Value} {x : Nat} {S : List Value} : rn ca C_L_law 287 [some (.ref x), a1, a2, a3] S M = rn ca C_L_law 288 [some (.ref x), a1, a2, a3] (.ref x :: S) M := (rn_at k_L_law_287).trans rfl
theorem k_L_law_288 : lk 288 C_L_law = some (.iload_n 3, (0, 0, 0, 0)) := by decide +kernel
theorem s_L_law_288 {ca : Nat → List Value → tM → tO} {M : tM} {a0 a1 a2 : Option Value} {x : Int32} {S : List Value} : rn ca C_L_law 288 [a0, a1, a2, some (.int x)] S M = rn ca C_L_law 289 [a0, a1, a2, some (.int x)] (.int x :: S) M := (rn_at k_L_law_288).trans rfl
theorem k_L_law_289 : lk 289 C_L_law = some (.iconst 2, (0, 0, 0, 0)) := by decide +kernel
theorem s_L_law_289 {ca : Nat → List Value → tM → tO} {M : tM} {L : tL} {S : List Value} : rn ca C_L_law 289 L S M = rn ca C_L_law 290 L (.int (iI 2) :: S) M := (rn_at k_L_law_289).trans rfl
theorem k_L_law_290 : lk 290 C_L_law = some (.iadd, (0, 0, 0, 0)) := by decide +kernel
theorem s_L_law_290 {ca : Nat → List Value → tM → tO} {M : tM} {L : tL} {x y : Int32} {S : List Value} : rn ca C_L_law 290 L (.int y :: .int x :: S) M = rn ca C_L_law 291 L (.int (x + y) :: S) M := (rn_at k_L_law_290).trans rfl
theorem k_L_law_291 : lk 291 C_L_law = some (.iaload, (0, 0, 0, 0)) := by decide +kernel
theorem s_L_law_291 {ca : Nat → List Value → tM → tO} {M : tM} {L : tL} {a : Nat} {i : Int32} {S : List Value} : rn ca C_L_law 291 L (.int i :: .ref a :: S) M = if (akind a = 0 ∨ akind a = 6 ∨ akind a = 7) ∧ inb i (alen M a) then rn ca C_L_law 292 L (.int (M.1 a i.toInt.toNat) :: S) M else none := (rn_at k_L_law_291).trans rnx_ite
theorem k_L_law_292 : lk 292 C_L_law = some (.aload_n 0, (0, 0, 0, 0)) := by decide +kernel
theorem s_L_law_292 {ca : Nat → List Value → tM → tO} {M : tM} {a1 a2 a3 : Option Value} {x : Nat} {S : List Value} : rn ca C_L_law 292 [some (.ref x), a1, a2, a3] S M = rn ca C_L_law 293 [some (.ref x), a1, a2, a3] (.ref x :: S) M := (rn_at k_L_law_292).trans rfl
theorem k_L_law_293 : lk 293 C_L_law = some (.iload_n 3, (0, 0, 0, 0)) := by decide +kernel
theorem s_L_law_293 {ca : Nat → List Value → tM → tO} {M : tM} {a0 a1 a2 : Option Value} {x : Int32} {S : List Value} : rn ca C_L_law 293 [a0, a1, a2, some (.int x)] S M = rn ca C_L_law 294 [a0, a1, a2, some (.int x)] (.int x :: S) M := (rn_at k_L_law_293).trans rfl
theorem k_L_law_294 : lk 294 C_L_law = some (.iconst 3, (0, 0, 0, 0)) := by decide +kernel
theorem s_L_law_294 {ca : Nat → List Value → tM → tO} {M : tM} {L : tL} {S : List Value} : rn ca C_L_law 294 L S M = rn ca C_L_law 295 L (.int (iI 3) :: S) M := (rn_at k_L_law_294).trans rfl
theorem k_L_law_295 : lk 295 C_L_law = some (.iadd, (0, 0, 0, 0)) := by decide +kernel
theorem s_L_law_295 {ca : Nat → List Value → tM → tO} {M : tM} {L : tL} {x y : Int32} {S : List Value} : rn ca C_L_law 295 L (.int y :: .int x :: S) M = rn ca C_L_law 296 L (.int (x + y) :: S) M := (rn_at k_L_law_295).trans rfl
theorem k_L_law_296 : lk 296 C_L_law = some (.iaload, (0, 0, 0, 0)) := by decide +kernel
theorem s_L_law_296 {ca : Nat → List Value → tM → tO} {M : tM} {L : tL} {a : Nat} {i : Int32} {S : List Value} : rn ca C_L_law 296 L (.int i :: .ref a :: S) M = if (akind a = 0 ∨ akind a = 6 ∨ akind a = 7) ∧ inb i (alen M a) then rn ca C_L_law 297 L (.int (M.1 a i.toInt.toNat) :: S) M else none := (rn_at k_L_law_296).trans rnx_ite
theorem k_L_law_297 : lk 297 C_L_law = some (.i2l, (0, 0, 0, 0)) := by decide +kernel
theorem s_L_law_297 {ca : Nat → List Value → tM → tO} {M : tM} {L : tL} {x : Int32} {S : List Value} : rn ca C_L_law 297 L (.int x :: S) M = rn ca C_L_law 298 L (.long x.toInt64 :: S) M := (rn_at k_L_law_297).trans rfl
theorem k_L_law_298 : lk 298 C_L_law = some (.bipush 32, (0, 0, 0, 0)) := by decide +kernel
theorem s_L_law_298 {ca : Nat → List Value → tM → tO} {M : tM} {L : tL} {S : List Value} : rn ca C_L_law 298 L S M = rn ca C_L_law 300 L (.int (iI 32) :: S) M := (rn_at k_L_law_298).trans rfl
theorem k_L_law_300 : lk 300 C_L_law = some (.lshl, (0, 0, 0, 0)) := by decide +kernel
theorem s_L_law_300 {ca : Nat → List Value → tM → tO} {M : tM} {L : tL} {x : Int64} {y : Int32} {S : List Value} : rn ca C_L_law 300 L (.int y :: .long x :: S) M = rn ca C_L_law 301 L (.long (x <<< (y.toInt64 &&& 63)) :: S) M := (rn_at k_L_law_300).trans rfl
theorem k_L_law_301 : lk 301 C_L_law = some (.aload_n 0, (0, 0, 0, 0)) := by decide +kernel
theorem s_L_law_301 {ca : Nat → List Value → tM → tO} {M : tM} {a1 a2 a3 : Option Value} {x : Nat} {S : List Value} : rn ca C_L_law 301 [some (.ref x), a1, a2, a3] S M = rn ca C_L_law 302 [some (.ref x), a1, a2, a3] (.ref x :: S) M := (rn_at k_L_law_301).trans rfl
theorem k_L_law_302 : lk 302 C_L_law = some (.iload_n 3, (0, 0, 0, 0)) := by decide +kernel
theorem s_L_law_302 {ca : Nat → List Value → tM → tO} {M : tM} {a0 a1 a2 : Option Value} {x : Int32} {S : List Value} : rn ca C_L_law 302 [a0, a1, a2, some (.int x)] S M = rn ca C_L_law 303 [a0, a1, a2, some (.int x)] (.int x :: S) M := (rn_at k_L_law_302).trans rfl
theorem k_L_law_303 : lk 303 C_L_law = some (.iconst 4, (0, 0, 0, 0)) := by decide +kernel
theorem s_L_law_303 {ca : Nat → List Value → tM → tO} {M : tM} {L : tL} {S : List Value} : rn ca C_L_law 303 L S M = rn ca C_L_law 304 L (.int (iI 4) :: S) M := (rn_at k_L_law_303).trans rfl
theorem k_L_law_304 : lk 304 C_L_law = some (.iadd, (0, 0, 0, 0)) := by decide +kernel
theorem s_L_law_304 {ca : Nat → List Value → tM → tO} {M : tM} {L : tL} {x y : Int32} {S : List Value} : rn ca C_L_law 304 L (.int y :: .int x :: S) M = rn ca C_L_law 305 L (.int (x + y) :: S) M := (rn_at k_L_law_304).trans rfl
theorem k_L_law_305 : lk 305 C_L_law = some (.iaload, (0, 0, 0, 0)) := by decide +kernel
theorem s_L_law_305 {ca : Nat → List Value → tM → tO} {M : tM} {L : tL} {a : Nat} {i : Int32} {S : List Value} : rn ca C_L_law 305 L (.int i :: .ref a :: S) M = if (akind a = 0 ∨ akind a = 6 ∨ akind a = 7) ∧ inb i (alen M a) then rn ca C_L_law 306 L (.int (M.1 a i.toInt.toNat) :: S) M else none := (rn_at k_L_law_305).trans rnx_ite
theorem k_L_law_306 : lk 306 C_L_law = some (.i2l, (0, 0, 0, 0)) := by decide +kernel
theorem s_L_law_306 {ca : Nat → List Value → tM → tO} {M : tM} {L : tL} {x : Int32} {S : List Value} : rn ca C_L_law 306 L (.int x :: S) M = rn ca C_L_law 307 L (.long x.toInt64 :: S) M := (rn_at k_L_law_306).trans rfl
theorem k_L_law_307 : lk 307 C_L_law = some (.ldc2_w 18, (0, 0, 4294967295, 6)) := by decide +kernel
theorem s_L_law_307 {ca : Nat → List Value → tM → tO} {M : tM} {L : tL} {S : List Value} : rn ca C_L_law 307 L S M = rn ca C_L_law 310 L (.long (jJ 4294967295) :: S) M := (rn_at k_L_law_307).trans rfl
theorem k_L_law_310 : lk 310 C_L_law = some (.land, (0, 0, 0, 0)) := by decide +kernel
theorem s_L_law_310 {ca : Nat → List Value → tM → tO} {M : tM} {L : tL} {x y : Int64} {S : List Value} : rn ca C_L_law 310 L (.long y :: .long x :: S) M = rn ca C_L_law 311 L (.long (x &&& y) :: S) M := (rn_at k_L_law_310).trans rfl
theorem k_L_law_311 : lk 311 C_L_law = some (.lor, (0, 0, 0, 0)) := by decide +kernel
theorem s_L_law_311 {ca : Nat → List Value → tM → tO} {M : tM} {L : tL} {x y : Int64} {S : List Value} : rn ca C_L_law 311 L (.long y :: .long x :: S) M = rn ca C_L_law 312 L (.long (x ||| y) :: S) M := (rn_at k_L_law_311).trans rfl
theorem k_L_law_312 : lk 312 C_L_law = some (.invokevirtual 24, (173, 3, 11, 232)) := by decide +kernel
theorem s_L_law_312 {ca : Nat → List Value → tM → tO} {M : tM} {L : tL} {v1 v2 v3 : Value} {r0 : Int32} {b : Nat} : rn ca C_L_law 312 L [v3, v2, v1, .ref b, .int r0] M = if clsO b = some 11 then rnk ca C_L_law 315 L [.int r0] (ca m_X11_set [.ref b, v1, v2, v3] M) else none := (rn_at k_L_law_312).trans rnx_ite
theorem k_L_law_315 : lk 315 C_L_law = some (.if_icmp .eq 1249, (1564, 0, 0, 0)) := by decide +kernel
theorem s_L_law_315 {ca : Nat → List Value → tM → tO} {M : tM} {L : tL} {x y : Int32} {S : List Value} : rn ca C_L_law 315 L (.int y :: .int x :: S) M = if x = y then rn ca C_L_law 1564 L S M else rn ca C_L_law 318 L S M := (rn_at k_L_law_315).trans rnx_ite
theorem k_L_law_318 : lk 318 C_L_law = some (.iconst 0, (0, 0, 0, 0)) := by decide +kernel
theorem s_L_law_318 {ca : Nat → List Value → tM → tO} {M : tM} {L : tL} {S : List Value} : rn ca C_L_law 318 L S M = rn ca C_L_law 319 L (.int (iI 0) :: S) M := (rn_at k_L_law_318).trans rfl
theorem k_L_law_319 : lk 319 C_L_law = some (.ireturn, (1, 0, 0, 0)) := by decide +kernel
theorem s_L_law_319 {ca : Nat → List Value → tM → tO} {M : tM} {L : tL} {x : Int32} : rn ca C_L_law 319 L [.int x] M = if x = iI 0 ∨ x = iI 1 then some (some (.int x), M) else none := (rn_at k_L_law_319).trans rnx_ite
theorem k_L_law_320 : lk 320 C_L_law = some (.aload_n 1, (0, 0, 0, 0)) := by decide +kernel
theorem s_L_law_320 {ca : Nat → List Value → tM → tO} {M : tM} {a0 a2 a3 : Option Value} {x : Nat} {S : List Value} : rn ca C_L_law 320 [a0, some (.ref x), a2, a3] S M = rn ca C_L_law 321 [a0, some (.ref x), a2, a3] (.ref x :: S) M := (rn_at k_L_law_320).trans rfl
theorem k_L_law_321 : lk 321 C_L_law = some (.aload_n 0, (0, 0, 0, 0)) := by decide +kernel
theorem s_L_law_321 {ca : Nat → List Value → tM → tO} {M : tM} {a1 a2 a3 : Option Value} {x : Nat} {S : List Value} : rn ca C_L_law 321 [some (.ref x), a1, a2, a3] S M = rn ca C_L_law 322 [some (.ref x), a1, a2, a3] (.ref x :: S) M := (rn_at k_L_law_321).trans rfl
theorem k_L_law_322 : lk 322 C_L_law = some (.iload_n 3, (0, 0, 0, 0)) := by decide +kernel
theorem s_L_law_322 {ca : Nat → List Value → tM → tO} {M : tM} {a0 a1 a2 : Option Value} {x : Int32} {S : List Value} : rn ca C_L_law 322 [a0, a1, a2, some (.int x)] S M = rn ca C_L_law 323 [a0, a1, a2, some (.int x)] (.int x :: S) M := (rn_at k_L_law_322).trans rfl
theorem k_L_law_323 : lk 323 C_L_law = some (.iconst 1, (0, 0, 0, 0)) := by decide +kernel
theorem s_L_law_323 {ca : Nat → List Value → tM → tO} {M : tM} {L : tL} {S : List Value} : rn ca C_L_law 323 L S M = rn ca C_L_law 324 L (.int (iI 1) :: S) M := (rn_at k_L_law_323).trans rfl
theorem k_L_law_324 : lk 324 C_L_law = some (.iadd, (0, 0, 0, 0)) := by decide +kernel
theorem s_L_law_324 {ca : Nat → List Value → tM → tO} {M : tM} {L : tL} {x y : Int32} {S : List Value} : rn ca C_L_law 324 L (.int y :: .int x :: S) M = rn ca C_L_law 325 L (.int (x + y) :: S) M := (rn_at k_L_law_324).trans rfl
theorem k_L_law_325 : lk 325 C_L_law = some (.iaload, (0, 0, 0, 0)) := by decide +kernel
theorem s_L_law_325 {ca : Nat → List Value → tM → tO} {M : tM} {L : tL} {a : Nat} {i : Int32} {S : List Value} : rn ca C_L_law 325 L (.int i :: .ref a :: S) M = if (akind a = 0 ∨ akind a = 6 ∨ akind a = 7) ∧ inb i (alen M a) then rn ca C_L_law 326 L (.int (M.1 a i.toInt.toNat) :: S) M else none := (rn_at k_L_law_325).trans rnx_ite
theorem k_L_law_326 : lk 326 C_L_law = some (.aload_n 0, (0, 0, 0, 0)) := by decide +kernel
theorem s_L_law_326 {ca : Nat → List Value → tM → tO} {M : tM} {a1 a2 a3 : Option Value} {x : Nat} {S : List Value} : rn ca C_L_law 326 [some (.ref x), a1, a2, a3] S M = rn ca C_L_law 327 [some (.ref x), a1, a2, a3] (.ref x :: S) M := (rn_at k_L_law_326).trans rfl
theorem k_L_law_327 : lk 327 C_L_law = some (.iload_n 3, (0, 0, 0, 0)) := by decide +kernel
theorem s_L_law_327 {ca : Nat → List Value → tM → tO} {M : tM} {a0 a1 a2 : Option Value} {x : Int32} {S : List Value} : rn ca C_L_law 327 [a0, a1, a2, some (.int x)] S M = rn ca C_L_law 328 [a0, a1, a2, some (.int x)] (.int x :: S) M := (rn_at k_L_law_327).trans rfl
theorem k_L_law_328 : lk 328 C_L_law = some (.iconst 2, (0, 0, 0, 0)) := by decide +kernel
theorem s_L_law_328 {ca : Nat → List Value → tM → tO} {M : tM} {L : tL} {S : List Value} : rn ca C_L_law 328 L S M = rn ca C_L_law 329 L (.int (iI 2) :: S) M := (rn_at k_L_law_328).trans rfl
theorem k_L_law_329 : lk 329 C_L_law = some (.iadd, (0, 0, 0, 0)) := by decide +kernel
theorem s_L_law_329 {ca : Nat → List Value → tM → tO} {M : tM} {L : tL} {x y : Int32} {S : List Value} : rn ca C_L_law 329 L (.int y :: .int x :: S) M = rn ca C_L_law 330 L (.int (x + y) :: S) M := (rn_at k_L_law_329).trans rfl
theorem k_L_law_330 : lk 330 C_L_law = some (.iaload, (0, 0, 0, 0)) := by decide +kernel
theorem s_L_law_330 {ca : Nat → List Value → tM → tO} {M : tM} {L : tL} {a : Nat} {i : Int32} {S : List Value} : rn ca C_L_law 330 L (.int i :: .ref a :: S) M = if (akind a = 0 ∨ akind a = 6 ∨ akind a = 7) ∧ inb i (alen M a) then rn ca C_L_law 331 L (.int (M.1 a i.toInt.toNat) :: S) M else none := (rn_at k_L_law_330).trans rnx_ite
theorem k_L_law_331 : lk 331 C_L_law = some (.aload_n 0, (0, 0, 0, 0)) := by decide +kernel
theorem s_L_law_331 {ca : Nat → List Value → tM → tO} {M : tM} {a1 a2 a3 : Option Value} {x : Nat} {S : List Value} : rn ca C_L_law 331 [some (.ref x), a1, a2, a3] S M = rn ca C_L_law 332 [some (.ref x), a1, a2, a3] (.ref x :: S) M := (rn_at k_L_law_331).trans rfl
theorem k_L_law_332 : lk 332 C_L_law = some (.iload_n 3, (0, 0, 0, 0)) := by decide +kernel
theorem s_L_law_332 {ca : Nat → List Value → tM → tO} {M : tM} {a0 a1 a2 : Option Value} {x : Int32} {S : List Value} : rn ca C_L_law 332 [a0, a1, a2, some (.int x)] S M = rn ca C_L_law 333 [a0, a1, a2, some (.int x)] (.int x :: S) M := (rn_at k_L_law_332).trans rfl
theorem k_L_law_333 : lk 333 C_L_law = some (.iconst 3, (0, 0, 0, 0)) := by decide +kernel
theorem s_L_law_333 {ca : Nat → List Value → tM → tO} {M : tM} {L : tL} {S : List Value} : rn ca C_L_law 333 L S M = rn ca C_L_law 334 L (.int (iI 3) :: S) M := (rn_at k_L_law_333).trans rfl
theorem k_L_law_334 : lk 334 C_L_law = some (.iadd, (0, 0, 0, 0)) := by decide +kernel
theorem s_L_law_334 {ca : Nat → List Value → tM → tO} {M : tM} {L : tL} {x y : Int32} {S : List Value} : rn ca C_L_law 334 L (.int y :: .int x :: S) M = rn ca C_L_law 335 L (.int (x + y) :: S) M := (rn_at k_L_law_334).trans rfl
theorem k_L_law_335 : lk 335 C_L_law = some (.iaload, (0, 0, 0, 0)) := by decide +kernel
theorem s_L_law_335 {ca : Nat → List Value → tM → tO} {M : tM} {L : tL} {a : Nat} {i : Int32} {S : List Value} : rn ca C_L_law 335 L (.int i :: .ref a :: S) M = if (akind a = 0 ∨ akind a = 6 ∨ akind a = 7) ∧ inb i (alen M a) then rn ca C_L_law 336 L (.int (M.1 a i.toInt.toNat) :: S) M else none := (rn_at k_L_law_335).trans rnx_ite
theorem k_L_law_336 : lk 336 C_L_law = some (.aload_n 0, (0, 0, 0, 0)) := by decide +kernel
theorem s_L_law_336 {ca : Nat → List Value → tM → tO} {M : tM} {a1 a2 a3 : Option Value} {x : Nat} {S : List Value} : rn ca C_L_law 336 [some (.ref x), a1, a2, a3] S M = rn ca C_L_law 337 [some (.ref x), a1, a2, a3] (.ref x :: S) M := (rn_at k_L_law_336).trans rfl
theorem k_L_law_337 : lk 337 C_L_law = some (.iload_n 3, (0, 0, 0, 0)) := by decide +kernel
theorem s_L_law_337 {ca : Nat → List Value → tM → tO} {M : tM} {a0 a1 a2 : Option Value} {x : Int32} {S : List Value} : rn ca C_L_law 337 [a0, a1, a2, some (.int x)] S M = rn ca C_L_law 338 [a0, a1, a2, some (.int x)] (.int x :: S) M := (rn_at k_L_law_337).trans rfl
theorem k_L_law_338 : lk 338 C_L_law = some (.iconst 4, (0, 0, 0, 0)) := by decide +kernel
theorem s_L_law_338 {ca : Nat → List Value → tM → tO} {M : tM} {L : tL} {S : List Value} : rn ca C_L_law 338 L S M = rn ca C_L_law 339 L (.int (iI 4) :: S) M := (rn_at k_L_law_338).trans rfl
theorem k_L_law_339 : lk 339 C_L_law = some (.iadd, (0, 0, 0, 0)) := by decide +kernel
theorem s_L_law_339 {ca : Nat → List Value → tM → tO} {M : tM} {L : tL} {x y : Int32} {S : List Value} : rn ca C_L_law 339 L (.int y :: .int x :: S) M = rn ca C_L_law 340 L (.int (x + y) :: S) M := (rn_at k_L_law_339).trans rfl
theorem k_L_law_340 : lk 340 C_L_law = some (.iaload, (0, 0, 0, 0)) := by decide +kernel
theorem s_L_law_340 {ca : Nat → List Value → tM → tO} {M : tM} {L : tL} {a : Nat} {i : Int32} {S : List Value} : rn ca C_L_law 340 L (.int i :: .ref a :: S) M = if (akind a = 0 ∨ akind a = 6 ∨ akind a = 7) ∧ inb i (alen M a) then rn ca C_L_law 341 L (.int (M.1 a i.toInt.toNat) :: S) M else none := (rn_at k_L_law_340).trans rnx_ite
theorem k_L_law_341 : lk 341 C_L_law = some (.aload_n 0, (0, 0, 0, 0)) := by decide +kernel
theorem s_L_law_341 {ca : Nat → List Value → tM → tO} {M : tM} {a1 a2 a3 : Option Value} {x : Nat} {S : List Value} : rn ca C_L_law 341 [some (.ref x), a1, a2, a3] S M = rn ca C_L_law 342 [some (.ref x), a1, a2, a3] (.ref x :: S) M := (rn_at k_L_law_341).trans rfl
theorem k_L_law_342 : lk 342 C_L_law = some (.iload_n 3, (0, 0, 0, 0)) := by decide +kernel
theorem s_L_law_342 {ca : Nat → List Value → tM → tO} {M : tM} {a0 a1 a2 : Option Value} {x : Int32} {S : List Value} : rn ca C_L_law 342 [a0, a1, a2, some (.int x)] S M = rn ca C_L_law 343 [a0, a1, a2, some (.int x)] (.int x :: S) M := (rn_at k_L_law_342).trans rfl
theorem k_L_law_343 : lk 343 C_L_law = some (.iconst 5, (0, 0, 0, 0)) := by decide +kernel
theorem s_L_law_343 {ca : Nat → List Value → tM → tO} {M : tM} {L : tL} {S : List Value} : rn ca C_L_law 343 L S M = rn ca C_L_law 344 L (.int (iI 5) :: S) M := (rn_at k_L_law_343).trans rfl
theorem k_L_law_344 : lk 344 C_L_law = some (.iadd, (0, 0, 0, 0)) := by decide +kernel
theorem s_L_law_344 {ca : Nat → List Value → tM → tO} {M : tM} {L : tL} {x y : Int32} {S : List Value} : rn ca C_L_law 344 L (.int y :: .int x :: S) M = rn ca C_L_law 345 L (.int (x + y) :: S) M := (rn_at k_L_law_344).trans rfl
theorem k_L_law_345 : lk 345 C_L_law = some (.iaload, (0, 0, 0, 0)) := by decide +kernel
theorem s_L_law_345 {ca : Nat → List Value → tM → tO} {M : tM} {L : tL} {a : Nat} {i : Int32} {S : List Value} : rn ca C_L_law 345 L (.int i :: .ref a :: S) M = if (akind a = 0 ∨ akind a = 6 ∨ akind a = 7) ∧ inb i (alen M a) then rn ca C_L_law 346 L (.int (M.1 a i.toInt.toNat) :: S) M else none := (rn_at k_L_law_345).trans rnx_ite
theorem k_L_law_346 : lk 346 C_L_law = some (.invokevirtual 25, (97, 5, 10, 240)) := by decide +kernel
theorem s_L_law_346 {ca : Nat → List Value → tM → tO} {M : tM} {L : tL} {v1 v2 v3 v4 v5 : Value} {b : Nat} : rn ca C_L_law 346 L [v5, v4, v3, v2, v1, .ref b] M = if clsO b = some 10 then rnk ca C_L_law 349 L [] (ca m_X10_copy [.ref b, v1, v2, v3, v4, v5] M) else none := (rn_at k_L_law_346).trans rnx_ite
theorem k_L_law_349 : lk 349 C_L_law = some (.aload_n 2, (0, 0, 0, 0)) := by decide +kernel
theorem s_L_law_349 {ca : Nat → List Value → tM → tO} {M : tM} {a0 a1 a3 : Option Value} {x : Nat} {S : List Value} : rn ca C_L_law 349 [a0, a1, some (.ref x), a3] S M = rn ca C_L_law 350 [a0, a1, some (.ref x), a3] (.ref x :: S) M := (rn_at k_L_law_349).trans rfl
theorem k_L_law_350 : lk 350 C_L_law = some (.aload_n 0, (0, 0, 0, 0)) := by decide +kernel
theorem s_L_law_350 {ca : Nat → List Value → tM → tO} {M : tM} {a1 a2 a3 : Option Value} {x : Nat} {S : List Value} : rn ca C_L_law 350 [some (.ref x), a1, a2, a3] S M = rn ca C_L_law 351 [some (.ref x), a1, a2, a3] (.ref x :: S) M := (rn_at k_L_law_350).trans rfl
theorem k_L_law_351 : lk 351 C_L_law = some (.iload_n 3, (0, 0, 0, 0)) := by decide +kernel
theorem s_L_law_351 {ca : Nat → List Value → tM → tO} {M : tM} {a0 a1 a2 : Option Value} {x : Int32} {S : List Value} : rn ca C_L_law 351 [a0, a1, a2, some (.int x)] S M = rn ca C_L_law 352 [a0, a1, a2, some (.int x)] (.int x :: S) M := (rn_at k_L_law_351).trans rfl
theorem k_L_law_352 : lk 352 C_L_law = some (.iconst 1, (0, 0, 0, 0)) := by decide +kernel
theorem s_L_law_352 {ca : Nat → List Value → tM → tO} {M : tM} {L : tL} {S : List Value} : rn ca C_L_law 352 L S M = rn ca C_L_law 353 L (.int (iI 1) :: S) M := (rn_at k_L_law_352).trans rfl
theorem k_L_law_353 : lk 353 C_L_law = some (.iadd, (0, 0, 0, 0)) := by decide +kernel
theorem s_L_law_353 {ca : Nat → List Value → tM → tO} {M : tM} {L : tL} {x y : Int32} {S : List Value} : rn ca C_L_law 353 L (.int y :: .int x :: S) M = rn ca C_L_law 354 L (.int (x + y) :: S) M := (rn_at k_L_law_353).trans rfl
theorem k_L_law_354 : lk 354 C_L_law = some (.iaload, (0, 0, 0, 0)) := by decide +kernel
theorem s_L_law_354 {ca : Nat → List Value → tM → tO} {M : tM} {L : tL} {a : Nat} {i : Int32} {S : List Value} : rn ca C_L_law 354 L (.int i :: .ref a :: S) M = if (akind a = 0 ∨ akind a = 6 ∨ akind a = 7) ∧ inb i (alen M a) then rn ca C_L_law 355 L (.int (M.1 a i.toInt.toNat) :: S) M else none := (rn_at k_L_law_354).trans rnx_ite
theorem k_L_law_355 : lk 355 C_L_law = some (.aload_n 0, (0, 0, 0, 0)) := by decide +kernel
theorem s_L_law_355 {ca : Nat → List Value → tM → tO} {M : tM} {a1 a2 a3 : Option Value} {x : Nat} {S : List Value} : rn ca C_L_law 355 [some (.ref x), a1, a2, a3] S M = rn ca C_L_law 356 [some (.ref x), a1, a2, a3] (.ref x :: S) M := (rn_at k_L_law_355).trans rfl
theorem k_L_law_356 : lk 356 C_L_law = some (.iload_n 3, (0, 0, 0, 0)) := by decide +kernel
theorem s_L_law_356 {ca : Nat → List Value → tM → tO} {M : tM} {a0 a1 a2 : Option Value} {x : Int32} {S : List Value} : rn ca C_L_law 356 [a0, a1, a2, some (.int x)] S M = rn ca C_L_law 357 [a0, a1, a2, some (.int x)] (.int x :: S) M := (rn_at k_L_law_356).trans rfl
theorem k_L_law_357 : lk 357 C_L_law = some (.iconst 2, (0, 0, 0, 0)) := by decide +kernel
theorem s_L_law_357 {ca : Nat → List Value → tM → tO} {M : tM} {L : tL} {S : List Value} : rn ca C_L_law 357 L S M = rn ca C_L_law 358 L (.int (iI 2) :: S) M := (rn_at k_L_law_357).trans rfl
theorem k_L_law_358 : lk 358 C_L_law = some (.iadd, (0, 0, 0, 0)) := by decide +kernel
theorem s_L_law_358 {ca : Nat → List Value → tM → tO} {M : tM} {L : tL} {x y : Int32} {S : List Value} : rn ca C_L_law 358 L (.int y :: .int x :: S) M = rn ca C_L_law 359 L (.int (x + y) :: S) M := (rn_at k_L_law_358).trans rfl
theorem k_L_law_359 : lk 359 C_L_law = some (.iaload, (0, 0, 0, 0)) := by decide +kernel
theorem s_L_law_359 {ca : Nat → List Value → tM → tO} {M : tM} {L : tL} {a : Nat} {i : Int32} {S : List Value} : rn ca C_L_law 359 L (.int i :: .ref a :: S) M = if (akind a = 0 ∨ akind a = 6 ∨ akind a = 7) ∧ inb i (alen M a) then rn ca C_L_law 360 L (.int (M.1 a i.toInt.toNat) :: S) M else none := (rn_at k_L_law_359).trans rnx_ite
theorem k_L_law_360 : lk 360 C_L_law = some (.aload_n 0, (0, 0, 0, 0)) := by decide +kernel
theorem s_L_law_360 {ca : Nat → List Value → tM → tO} {M : tM} {a1 a2 a3 : Option Value} {x : Nat} {S : List Value} : rn ca C_L_law 360 [some (.ref x), a1, a2, a3] S M = rn ca C_L_law 361 [some (.ref x), a1, a2, a3] (.ref x :: S) M := (rn_at k_L_law_360).trans rfl
theorem k_L_law_361 : lk 361 C_L_law = some (.iload_n 3, (0, 0, 0, 0)) := by decide +kernel
theorem s_L_law_361 {ca : Nat → List Value → tM → tO} {M : tM} {a0 a1 a2 : Option Value} {x : Int32} {S : List Value} : rn ca C_L_law 361 [a0, a1, a2, some (.int x)] S M = rn ca C_L_law 362 [a0, a1, a2, some (.int x)] (.int x :: S) M := (rn_at k_L_law_361).trans rfl
theorem k_L_law_362 : lk 362 C_L_law = some (.iconst 3, (0, 0, 0, 0)) := by decide +kernel
theorem s_L_law_362 {ca : Nat → List Value → tM → tO} {M : tM} {L : tL} {S : List Value} : rn ca C_L_law 362 L S M = rn ca C_L_law 363 L (.int (iI 3) :: S) M := (rn_at k_L_law_362).trans rfl
theorem k_L_law_363 : lk 363 C_L_law = some (.iadd, (0, 0, 0, 0)) := by decide +kernel
theorem s_L_law_363 {ca : Nat → List Value → tM → tO} {M : tM} {L : tL} {x y : Int32} {S : List Value} : rn ca C_L_law 363 L (.int y :: .int x :: S) M = rn ca C_L_law 364 L (.int (x + y) :: S) M := (rn_at k_L_law_363).trans rfl
theorem k_L_law_364 : lk 364 C_L_law = some (.iaload, (0, 0, 0, 0)) := by decide +kernel
theorem s_L_law_364 {ca : Nat → List Value → tM → tO} {M : tM} {L : tL} {a : Nat} {i : Int32} {S : List Value} : rn ca C_L_law 364 L (.int i :: .ref a :: S) M = if (akind a = 0 ∨ akind a = 6 ∨ akind a = 7) ∧ inb i (alen M a) then rn ca C_L_law 365 L (.int (M.1 a i.toInt.toNat) :: S) M else none := (rn_at k_L_law_364).trans rnx_ite
theorem k_L_law_365 : lk 365 C_L_law = some (.aload_n 0, (0, 0, 0, 0)) := by decide +kernel
theorem s_L_law_365 {ca : Nat → List Value → tM → tO} {M : tM} {a1 a2 a3 : Option Value} {x : Nat} {S : List Value} : rn ca C_L_law 365 [some (.ref x), a1, a2, a3] S M = rn ca C_L_law 366 [some (.ref x), a1, a2, a3] (.ref x :: S) M := (rn_at k_L_law_365).trans rfl
theorem k_L_law_366 : lk 366 C_L_law = some (.iload_n 3, (0, 0, 0, 0)) := by decide +kernel
theorem s_L_law_366 {ca : Nat → List Value → tM → tO} {M : tM} {a0 a1 a2 : Option Value} {x : Int32} {S : List Value} : rn ca C_L_law 366 [a0, a1, a2, some (.int x)] S M = rn ca C_L_law 367 [a0, a1, a2, some (.int x)] (.int x :: S) M := (rn_at k_L_law_366).trans rfl
theorem k_L_law_367 : lk 367 C_L_law = some (.iconst 4, (0, 0, 0, 0)) := by decide +kernel
theorem s_L_law_367 {ca : Nat → List Value → tM → tO} {M : tM} {L : tL} {S : List Value} : rn ca C_L_law 367 L S M = rn ca C_L_law 368 L (.int (iI 4) :: S) M := (rn_at k_L_law_367).trans rfl
theorem k_L_law_368 : lk 368 C_L_law = some (.iadd, (0, 0, 0, 0)) := by decide +kernel
theorem s_L_law_368 {ca : Nat → List Value → tM → tO} {M : tM} {L : tL} {x y : Int32} {S : List Value} : rn ca C_L_law 368 L (.int y :: .int x :: S) M = rn ca C_L_law 369 L (.int (x + y) :: S) M := (rn_at k_L_law_368).trans rfl
theorem k_L_law_369 : lk 369 C_L_law = some (.iaload, (0, 0, 0, 0)) := by decide +kernel
theorem s_L_law_369 {ca : Nat → List Value → tM → tO} {M : tM} {L : tL} {a : Nat} {i : Int32} {S : List Value} : rn ca C_L_law 369 L (.int i :: .ref a :: S) M = if (akind a = 0 ∨ akind a = 6 ∨ akind a = 7) ∧ inb i (alen M a) then rn ca C_L_law 370 L (.int (M.1 a i.toInt.toNat) :: S) M else none := (rn_at k_L_law_369).trans rnx_ite
theorem k_L_law_370 : lk 370 C_L_law = some (.aload_n 0, (0, 0, 0, 0)) := by decide +kernel
theorem s_L_law_370 {ca : Nat → List Value → tM → tO} {M : tM} {a1 a2 a3 : Option Value} {x : Nat} {S : List Value} : rn ca C_L_law 370 [some (.ref x), a1, a2, a3] S M = rn ca C_L_law 371 [some (.ref x), a1, a2, a3] (.ref x :: S) M := (rn_at k_L_law_370).trans rfl
theorem k_L_law_371 : lk 371 C_L_law = some (.iload_n 3, (0, 0, 0, 0)) := by decide +kernel
theorem s_L_law_371 {ca : Nat → List Value → tM → tO} {M : tM} {a0 a1 a2 : Option Value} {x : Int32} {S : List Value} : rn ca C_L_law 371 [a0, a1, a2, some (.int x)] S M = rn ca C_L_law 372 [a0, a1, a2, some (.int x)] (.int x :: S) M := (rn_at k_L_law_371).trans rfl
theorem k_L_law_372 : lk 372 C_L_law = some (.iconst 5, (0, 0, 0, 0)) := by decide +kernel
theorem s_L_law_372 {ca : Nat → List Value → tM → tO} {M : tM} {L : tL} {S : List Value} : rn ca C_L_law 372 L S M = rn ca C_L_law 373 L (.int (iI 5) :: S) M := (rn_at k_L_law_372).trans rfl
theorem k_L_law_373 : lk 373 C_L_law = some (.iadd, (0, 0, 0, 0)) := by decide +kernel
theorem s_L_law_373 {ca : Nat → List Value → tM → tO} {M : tM} {L : tL} {x y : Int32} {S : List Value} : rn ca C_L_law 373 L (.int y :: .int x :: S) M = rn ca C_L_law 374 L (.int (x + y) :: S) M := (rn_at k_L_law_373).trans rfl
theorem k_L_law_374 : lk 374 C_L_law = some (.iaload, (0, 0, 0, 0)) := by decide +kernel
theorem s_L_law_374 {ca : Nat → List Value → tM → tO} {M : tM} {L : tL} {a : Nat} {i : Int32} {S : List Value} : rn ca C_L_law 374 L (.int i :: .ref a :: S) M = if (akind a = 0 ∨ akind a = 6 ∨ akind a = 7) ∧ inb i (alen M a) then rn ca C_L_law 375 L (.int (M.1 a i.toInt.toNat) :: S) M else none := (rn_at k_L_law_374).trans rnx_ite
theorem k_L_law_375 : lk 375 C_L_law = some (.invokevirtual 29, (175, 5, 11, 265)) := by decide +kernel
theorem s_L_law_375 {ca : Nat → List Value → tM → tO} {M : tM} {L : tL} {v1 v2 v3 v4 v5 : Value} {r0 : Int32} {b : Nat} : rn ca C_L_law 375 L [v5, v4, v3, v2, v1, .ref b, .int r0] M = if clsO b = some 11 then rnk ca C_L_law 378 L [.int r0] (ca m_X11_copy [.ref b, v1, v2, v3, v4, v5] M) else none := (rn_at k_L_law_375).trans rnx_ite
theorem k_L_law_378 : lk 378 C_L_law = some (.if_icmp .eq 1186, (1564, 0, 0, 0)) := by decide +kernel
theorem s_L_law_378 {ca : Nat → List Value → tM → tO} {M : tM} {L : tL} {x y : Int32} {S : List Value} : rn ca C_L_law 378 L (.int y :: .int x :: S) M = if x = y then rn ca C_L_law 1564 L S M else rn ca C_L_law 381 L S M := (rn_at k_L_law_378).trans rnx_ite
theorem k_L_law_381 : lk 381 C_L_law = some (.iconst 0, (0, 0, 0, 0)) := by decide +kernel
theorem s_L_law_381 {ca : Nat → List Value → tM → tO} {M : tM} {L : tL} {S : List Value} : rn ca C_L_law 381 L S M = rn ca C_L_law 382 L (.int (iI 0) :: S) M := (rn_at k_L_law_381).trans rfl
theorem k_L_law_382 : lk 382 C_L_law = some (.ireturn, (1, 0, 0, 0)) := by decide +kernel
theorem s_L_law_382 {ca : Nat → List Value → tM → tO} {M : tM} {L : tL} {x : Int32} : rn ca C_L_law 382 L [.int x] M = if x = iI 0 ∨ x = iI 1 then some (some (.int x), M) else none := (rn_at k_L_law_382).trans rnx_ite
theorem k_L_law_383 : lk 383 C_L_law = some (.aload_n 1, (0, 0, 0, 0)) := by decide +kernel
theorem s_L_law_383 {ca : Nat → List Value → tM → tO} {M : tM} {a0 a2 a3 : Option Value} {x : Nat} {S : List Value} : rn ca C_L_law 383 [a0, some (.ref x), a2, a3] S M = rn ca C_L_law 384 [a0, some (.ref x), a2, a3] (.ref x :: S) M := (rn_at k_L_law_383).trans rfl
theorem k_L_law_384 : lk 384 C_L_law = some (.aload_n 0, (0, 0, 0, 0)) := by decide +kernel
theorem s_L_law_384 {ca : Nat → List Value → tM → tO} {M : tM} {a1 a2 a3 : Option Value} {x : Nat} {S : List Value} : rn ca C_L_law 384 [some (.ref x), a1, a2, a3] S M = rn ca C_L_law 385 [some (.ref x), a1, a2, a3] (.ref x :: S) M := (rn_at k_L_law_384).trans rfl
theorem k_L_law_385 : lk 385 C_L_law = some (.iload_n 3, (0, 0, 0, 0)) := by decide +kernel
theorem s_L_law_385 {ca : Nat → List Value → tM → tO} {M : tM} {a0 a1 a2 : Option Value} {x : Int32} {S : List Value} : rn ca C_L_law 385 [a0, a1, a2, some (.int x)] S M = rn ca C_L_law 386 [a0, a1, a2, some (.int x)] (.int x :: S) M := (rn_at k_L_law_385).trans rfl
theorem k_L_law_386 : lk 386 C_L_law = some (.iconst 1, (0, 0, 0, 0)) := by decide +kernel
theorem s_L_law_386 {ca : Nat → List Value → tM → tO} {M : tM} {L : tL} {S : List Value} : rn ca C_L_law 386 L S M = rn ca C_L_law 387 L (.int (iI 1) :: S) M := (rn_at k_L_law_386).trans rfl
theorem k_L_law_387 : lk 387 C_L_law = some (.iadd, (0, 0, 0, 0)) := by decide +kernel
theorem s_L_law_387 {ca : Nat → List Value → tM → tO} {M : tM} {L : tL} {x y : Int32} {S : List Value} : rn ca C_L_law 387 L (.int y :: .int x :: S) M = rn ca C_L_law 388 L (.int (x + y) :: S) M := (rn_at k_L_law_387).trans rfl
theorem k_L_law_388 : lk 388 C_L_law = some (.iaload, (0, 0, 0, 0)) := by decide +kernel
theorem s_L_law_388 {ca : Nat → List Value → tM → tO} {M : tM} {L : tL} {a : Nat} {i : Int32} {S : List Value} : rn ca C_L_law 388 L (.int i :: .ref a :: S) M = if (akind a = 0 ∨ akind a = 6 ∨ akind a = 7) ∧ inb i (alen M a) then rn ca C_L_law 389 L (.int (M.1 a i.toInt.toNat) :: S) M else none := (rn_at k_L_law_388).trans rnx_ite
theorem k_L_law_389 : lk 389 C_L_law = some (.aload_n 0, (0, 0, 0, 0)) := by decide +kernel
theorem s_L_law_389 {ca : Nat → List Value → tM → tO} {M : tM} {a1 a2 a3 : Option Value} {x : Nat} {S : List Value} : rn ca C_L_law 389 [some (.ref x), a1, a2, a3] S M = rn ca C_L_law 390 [some (.ref x), a1, a2, a3] (.ref x :: S) M := (rn_at k_L_law_389).trans rfl
theorem k_L_law_390 : lk 390 C_L_law = some (.iload_n 3, (0, 0, 0, 0)) := by decide +kernel
theorem s_L_law_390 {ca : Nat → List Value → tM → tO} {M : tM} {a0 a1 a2 : Option Value} {x : Int32} {S : List Value} : rn ca C_L_law 390 [a0, a1, a2, some (.int x)] S M = rn ca C_L_law 391 [a0, a1, a2, some (.int x)] (.int x :: S) M := (rn_at k_L_law_390).trans rfl
theorem k_L_law_391 : lk 391 C_L_law = some (.iconst 2, (0, 0, 0, 0)) := by decide +kernel
theorem s_L_law_391 {ca : Nat → List Value → tM → tO} {M : tM} {L : tL} {S : List Value} : rn ca C_L_law 391 L S M = rn ca C_L_law 392 L (.int (iI 2) :: S) M := (rn_at k_L_law_391).trans rfl
theorem k_L_law_392 : lk 392 C_L_law = some (.iadd, (0, 0, 0, 0)) := by decide +kernel
theorem s_L_law_392 {ca : Nat → List Value → tM → tO} {M : tM} {L : tL} {x y : Int32} {S : List Value} : rn ca C_L_law 392 L (.int y :: .int x :: S) M = rn ca C_L_law 393 L (.int (x + y) :: S) M := (rn_at k_L_law_392).trans rfl
theorem k_L_law_393 : lk 393 C_L_law = some (.iaload, (0, 0, 0, 0)) := by decide +kernel
theorem s_L_law_393 {ca : Nat → List Value → tM → tO} {M : tM} {L : tL} {a : Nat} {i : Int32} {S : List Value} : rn ca C_L_law 393 L (.int i :: .ref a :: S) M = if (akind a = 0 ∨ akind a = 6 ∨ akind a = 7) ∧ inb i (alen M a) then rn ca C_L_law 394 L (.int (M.1 a i.toInt.toNat) :: S) M else none := (rn_at k_L_law_393).trans rnx_ite
theorem k_L_law_394 : lk 394 C_L_law = some (.invokevirtual 30, (98, 2, 10, 274)) := by decide +kernel
theorem s_L_law_394 {ca : Nat → List Value → tM → tO} {M : tM} {L : tL} {v1 v2 : Value} {b : Nat} : rn ca C_L_law 394 L [v2, v1, .ref b] M = if clsO b = some 10 then rnk ca C_L_law 397 L [] (ca m_X10_element [.ref b, v1, v2] M) else none := (rn_at k_L_law_394).trans rnx_ite
theorem k_L_law_397 : lk 397 C_L_law = some (.aload_n 2, (0, 0, 0, 0)) := by decide +kernel
theorem s_L_law_397 {ca : Nat → List Value → tM → tO} {M : tM} {a0 a1 a3 : Option Value} {x : Nat} {S : List Value} : rn ca C_L_law 397 [a0, a1, some (.ref x), a3] S M = rn ca C_L_law 398 [a0, a1, some (.ref x), a3] (.ref x :: S) M := (rn_at k_L_law_397).trans rfl
theorem k_L_law_398 : lk 398 C_L_law = some (.aload_n 0, (0, 0, 0, 0)) := by decide +kernel
theorem s_L_law_398 {ca : Nat → List Value → tM → tO} {M : tM} {a1 a2 a3 : Option Value} {x : Nat} {S : List Value} : rn ca C_L_law 398 [some (.ref x), a1, a2, a3] S M = rn ca C_L_law 399 [some (.ref x), a1, a2, a3] (.ref x :: S) M := (rn_at k_L_law_398).trans rfl
theorem k_L_law_399 : lk 399 C_L_law = some (.iload_n 3, (0, 0, 0, 0)) := by decide +kernel
theorem s_L_law_399 {ca : Nat → List Value → tM → tO} {M : tM} {a0 a1 a2 : Option Value} {x : Int32} {S : List Value} : rn ca C_L_law 399 [a0, a1, a2, some (.int x)] S M = rn ca C_L_law 400 [a0, a1, a2, some (.int x)] (.int x :: S) M := (rn_at k_L_law_399).trans rfl
theorem k_L_law_400 : lk 400 C_L_law = some (.iconst 1, (0, 0, 0, 0)) := by decide +kernel
theorem s_L_law_400 {ca : Nat → List Value → tM → tO} {M : tM} {L : tL} {S : List Value} : rn ca C_L_law 400 L S M = rn ca C_L_law 401 L (.int (iI 1) :: S) M := (rn_at k_L_law_400).trans rfl
theorem k_L_law_401 : lk 401 C_L_law = some (.iadd, (0, 0, 0, 0)) := by decide +kernel
theorem s_L_law_401 {ca : Nat → List Value → tM → tO} {M : tM} {L : tL} {x y : Int32} {S : List Value} : rn ca C_L_law 401 L (.int y :: .int x :: S) M = rn ca C_L_law 402 L (.int (x + y) :: S) M := (rn_at k_L_law_401).trans rfl
theorem k_L_law_402 : lk 402 C_L_law = some (.iaload, (0, 0, 0, 0)) := by decide +kernel
theorem s_L_law_402 {ca : Nat → List Value → tM → tO} {M : tM} {L : tL} {a : Nat} {i : Int32} {S : List Value} : rn ca C_L_law 402 L (.int i :: .ref a :: S) M = if (akind a = 0 ∨ akind a = 6 ∨ akind a = 7) ∧ inb i (alen M a) then rn ca C_L_law 403 L (.int (M.1 a i.toInt.toNat) :: S) M else none := (rn_at k_L_law_402).trans rnx_ite
theorem k_L_law_403 : lk 403 C_L_law = some (.aload_n 0, (0, 0, 0, 0)) := by decide +kernel
theorem s_L_law_403 {ca : Nat → List Value → tM → tO} {M : tM} {a1 a2 a3 : Option Value} {x : Nat} {S : List Value} : rn ca C_L_law 403 [some (.ref x), a1, a2, a3] S M = rn ca C_L_law 404 [some (.ref x), a1, a2, a3] (.ref x :: S) M := (rn_at k_L_law_403).trans rfl
theorem k_L_law_404 : lk 404 C_L_law = some (.iload_n 3, (0, 0, 0, 0)) := by decide +kernel
theorem s_L_law_404 {ca : Nat → List Value → tM → tO} {M : tM} {a0 a1 a2 : Option Value} {x : Int32} {S : List Value} : rn ca C_L_law 404 [a0, a1, a2, some (.int x)] S M = rn ca C_L_law 405 [a0, a1, a2, some (.int x)] (.int x :: S) M := (rn_at k_L_law_404).trans rfl
theorem k_L_law_405 : lk 405 C_L_law = some (.iconst 2, (0, 0, 0, 0)) := by decide +kernel
theorem s_L_law_405 {ca : Nat → List Value → tM → tO} {M : tM} {L : tL} {S : List Value} : rn ca C_L_law 405 L S M = rn ca C_L_law 406 L (.int (iI 2) :: S) M := (rn_at k_L_law_405).trans rfl
theorem k_L_law_406 : lk 406 C_L_law = some (.iadd, (0, 0, 0, 0)) := by decide +kernel
theorem s_L_law_406 {ca : Nat → List Value → tM → tO} {M : tM} {L : tL} {x y : Int32} {S : List Value} : rn ca C_L_law 406 L (.int y :: .int x :: S) M = rn ca C_L_law 407 L (.int (x + y) :: S) M := (rn_at k_L_law_406).trans rfl
theorem k_L_law_407 : lk 407 C_L_law = some (.iaload, (0, 0, 0, 0)) := by decide +kernel
theorem s_L_law_407 {ca : Nat → List Value → tM → tO} {M : tM} {L : tL} {a : Nat} {i : Int32} {S : List Value} : rn ca C_L_law 407 L (.int i :: .ref a :: S) M = if (akind a = 0 ∨ akind a = 6 ∨ akind a = 7) ∧ inb i (alen M a) then rn ca C_L_law 408 L (.int (M.1 a i.toInt.toNat) :: S) M else none := (rn_at k_L_law_407).trans rnx_ite
theorem k_L_law_408 : lk 408 C_L_law = some (.invokevirtual 34, (176, 2, 11, 282)) := by decide +kernel
theorem s_L_law_408 {ca : Nat → List Value → tM → tO} {M : tM} {L : tL} {v1 v2 : Value} {r0 : Int64} {b : Nat} : rn ca C_L_law 408 L [v2, v1, .ref b, .long r0] M = if clsO b = some 11 then rnk ca C_L_law 411 L [.long r0] (ca m_X11_element [.ref b, v1, v2] M) else none := (rn_at k_L_law_408).trans rnx_ite
theorem k_L_law_411 : lk 411 C_L_law = some (.lcmp, (0, 0, 0, 0)) := by decide +kernel
theorem s_L_law_411 {ca : Nat → List Value → tM → tO} {M : tM} {L : tL} {x y : Int64} {S : List Value} : rn ca C_L_law 411 L (.long y :: .long x :: S) M = rn ca C_L_law 412 L (.int (lg_cmp x y) :: S) M := (rn_at k_L_law_411).trans rfl
theorem k_L_law_412 : lk 412 C_L_law = some (.ifCond .eq 1152, (1564, 0, 0, 0)) := by decide +kernel
theorem s_L_law_412 {ca : Nat → List Value → tM → tO} {M : tM} {L : tL} {x : Int32} {S : List Value} : rn ca C_L_law 412 L (.int x :: S) M = if x = iI 0 then rn ca C_L_law 1564 L S M else rn ca C_L_law 415 L S M := (rn_at k_L_law_412).trans rnx_ite
theorem k_L_law_415 : lk 415 C_L_law = some (.iconst 0, (0, 0, 0, 0)) := by decide +kernel
theorem s_L_law_415 {ca : Nat → List Value → tM → tO} {M : tM} {L : tL} {S : List Value} : rn ca C_L_law 415 L S M = rn ca C_L_law 416 L (.int (iI 0) :: S) M := (rn_at k_L_law_415).trans rfl
theorem k_L_law_416 : lk 416 C_L_law = some (.ireturn, (1, 0, 0, 0)) := by decide +kernel
theorem s_L_law_416 {ca : Nat → List Value → tM → tO} {M : tM} {L : tL} {x : Int32} : rn ca C_L_law 416 L [.int x] M = if x = iI 0 ∨ x = iI 1 then some (some (.int x), M) else none := (rn_at k_L_law_416).trans rnx_ite
theorem k_L_law_417 : lk 417 C_L_law = some (.aload_n 1, (0, 0, 0, 0)) := by decide +kernel
theorem s_L_law_417 {ca : Nat → List Value → tM → tO} {M : tM} {a0 a2 a3 : Option Value} {x : Nat} {S : List Value} : rn ca C_L_law 417 [a0, some (.ref x), a2, a3] S M = rn ca C_L_law 418 [a0, some (.ref x), a2, a3] (.ref x :: S) M := (rn_at k_L_law_417).trans rfl
theorem k_L_law_418 : lk 418 C_L_law = some (.aload_n 0, (0, 0, 0, 0)) := by decide +kernel
theorem s_L_law_418 {ca : Nat → List Value → tM → tO} {M : tM} {a1 a2 a3 : Option Value} {x : Nat} {S : List Value} : rn ca C_L_law 418 [some (.ref x), a1, a2, a3] S M = rn ca C_L_law 419 [some (.ref x), a1, a2, a3] (.ref x :: S) M := (rn_at k_L_law_418).trans rfl
theorem k_L_law_419 : lk 419 C_L_law = some (.iload_n 3, (0, 0, 0, 0)) := by decide +kernel
theorem s_L_law_419 {ca : Nat → List Value → tM → tO} {M : tM} {a0 a1 a2 : Option Value} {x : Int32} {S : List Value} : rn ca C_L_law 419 [a0, a1, a2, some (.int x)] S M = rn ca C_L_law 420 [a0, a1, a2, some (.int x)] (.int x :: S) M := (rn_at k_L_law_419).trans rfl
theorem k_L_law_420 : lk 420 C_L_law = some (.iconst 1, (0, 0, 0, 0)) := by decide +kernel
theorem s_L_law_420 {ca : Nat → List Value → tM → tO} {M : tM} {L : tL} {S : List Value} : rn ca C_L_law 420 L S M = rn ca C_L_law 421 L (.int (iI 1) :: S) M := (rn_at k_L_law_420).trans rfl
theorem k_L_law_421 : lk 421 C_L_law = some (.iadd, (0, 0, 0, 0)) := by decide +kernel
theorem s_L_law_421 {ca : Nat → List Value → tM → tO} {M : tM} {L : tL} {x y : Int32} {S : List Value} : rn ca C_L_law 421 L (.int y :: .int x :: S) M = rn ca C_L_law 422 L (.int (x + y) :: S) M := (rn_at k_L_law_421).trans rfl
theorem k_L_law_422 : lk 422 C_L_law = some (.iaload, (0, 0, 0, 0)) := by decide +kernel
theorem s_L_law_422 {ca : Nat → List Value → tM → tO} {M : tM} {L : tL} {a : Nat} {i : Int32} {S : List Value} : rn ca C_L_law 422 L (.int i :: .ref a :: S) M = if (akind a = 0 ∨ akind a = 6 ∨ akind a = 7) ∧ inb i (alen M a) then rn ca C_L_law 423 L (.int (M.1 a i.toInt.toNat) :: S) M else none := (rn_at k_L_law_422).trans rnx_ite
theorem k_L_law_423 : lk 423 C_L_law = some (.aload_n 0, (0, 0, 0, 0)) := by decide +kernel
theorem s_L_law_423 {ca : Nat → List Value → tM → tO} {M : tM} {a1 a2 a3 : Option Value} {x : Nat} {S : List Value} : rn ca C_L_law 423 [some (.ref x), a1, a2, a3] S M = rn ca C_L_law 424 [some (.ref x), a1, a2, a3] (.ref x :: S) M := (rn_at k_L_law_423).trans rfl
theorem k_L_law_424 : lk 424 C_L_law = some (.iload_n 3, (0, 0, 0, 0)) := by decide +kernel
theorem s_L_law_424 {ca : Nat → List Value → tM → tO} {M : tM} {a0 a1 a2 : Option Value} {x : Int32} {S : List Value} : rn ca C_L_law 424 [a0, a1, a2, some (.int x)] S M = rn ca C_L_law 425 [a0, a1, a2, some (.int x)] (.int x :: S) M := (rn_at k_L_law_424).trans rfl
theorem k_L_law_425 : lk 425 C_L_law = some (.iconst 2, (0, 0, 0, 0)) := by decide +kernel
theorem s_L_law_425 {ca : Nat → List Value → tM → tO} {M : tM} {L : tL} {S : List Value} : rn ca C_L_law 425 L S M = rn ca C_L_law 426 L (.int (iI 2) :: S) M := (rn_at k_L_law_425).trans rfl
theorem k_L_law_426 : lk 426 C_L_law = some (.iadd, (0, 0, 0, 0)) := by decide +kernel
theorem s_L_law_426 {ca : Nat → List Value → tM → tO} {M : tM} {L : tL} {x y : Int32} {S : List Value} : rn ca C_L_law 426 L (.int y :: .int x :: S) M = rn ca C_L_law 427 L (.int (x + y) :: S) M := (rn_at k_L_law_426).trans rfl
theorem k_L_law_427 : lk 427 C_L_law = some (.iaload, (0, 0, 0, 0)) := by decide +kernel
theorem s_L_law_427 {ca : Nat → List Value → tM → tO} {M : tM} {L : tL} {a : Nat} {i : Int32} {S : List Value} : rn ca C_L_law 427 L (.int i :: .ref a :: S) M = if (akind a = 0 ∨ akind a = 6 ∨ akind a = 7) ∧ inb i (alen M a) then rn ca C_L_law 428 L (.int (M.1 a i.toInt.toNat) :: S) M else none := (rn_at k_L_law_427).trans rnx_ite
theorem k_L_law_428 : lk 428 C_L_law = some (.invokevirtual 35, (99, 2, 10, 286)) := by decide +kernel
theorem s_L_law_428 {ca : Nat → List Value → tM → tO} {M : tM} {L : tL} {v1 v2 : Value} {b : Nat} : rn ca C_L_law 428 L [v2, v1, .ref b] M = if clsO b = some 10 then rnk ca C_L_law 431 L [] (ca m_X10_show [.ref b, v1, v2] M) else none := (rn_at k_L_law_428).trans rnx_ite
theorem k_L_law_431 : lk 431 C_L_law = some (.aload_n 2, (0, 0, 0, 0)) := by decide +kernel
theorem s_L_law_431 {ca : Nat → List Value → tM → tO} {M : tM} {a0 a1 a3 : Option Value} {x : Nat} {S : List Value} : rn ca C_L_law 431 [a0, a1, some (.ref x), a3] S M = rn ca C_L_law 432 [a0, a1, some (.ref x), a3] (.ref x :: S) M := (rn_at k_L_law_431).trans rfl
theorem k_L_law_432 : lk 432 C_L_law = some (.aload_n 0, (0, 0, 0, 0)) := by decide +kernel
theorem s_L_law_432 {ca : Nat → List Value → tM → tO} {M : tM} {a1 a2 a3 : Option Value} {x : Nat} {S : List Value} : rn ca C_L_law 432 [some (.ref x), a1, a2, a3] S M = rn ca C_L_law 433 [some (.ref x), a1, a2, a3] (.ref x :: S) M := (rn_at k_L_law_432).trans rfl
theorem k_L_law_433 : lk 433 C_L_law = some (.iload_n 3, (0, 0, 0, 0)) := by decide +kernel
theorem s_L_law_433 {ca : Nat → List Value → tM → tO} {M : tM} {a0 a1 a2 : Option Value} {x : Int32} {S : List Value} : rn ca C_L_law 433 [a0, a1, a2, some (.int x)] S M = rn ca C_L_law 434 [a0, a1, a2, some (.int x)] (.int x :: S) M := (rn_at k_L_law_433).trans rfl
theorem k_L_law_434 : lk 434 C_L_law = some (.iconst 1, (0, 0, 0, 0)) := by decide +kernel
theorem s_L_law_434 {ca : Nat → List Value → tM → tO} {M : tM} {L : tL} {S : List Value} : rn ca C_L_law 434 L S M = rn ca C_L_law 435 L (.int (iI 1) :: S) M := (rn_at k_L_law_434).trans rfl
theorem k_L_law_435 : lk 435 C_L_law = some (.iadd, (0, 0, 0, 0)) := by decide +kernel
theorem s_L_law_435 {ca : Nat → List Value → tM → tO} {M : tM} {L : tL} {x y : Int32} {S : List Value} : rn ca C_L_law 435 L (.int y :: .int x :: S) M = rn ca C_L_law 436 L (.int (x + y) :: S) M := (rn_at k_L_law_435).trans rfl
theorem k_L_law_436 : lk 436 C_L_law = some (.iaload, (0, 0, 0, 0)) := by decide +kernel
theorem s_L_law_436 {ca : Nat → List Value → tM → tO} {M : tM} {L : tL} {a : Nat} {i : Int32} {S : List Value} : rn ca C_L_law 436 L (.int i :: .ref a :: S) M = if (akind a = 0 ∨ akind a = 6 ∨ akind a = 7) ∧ inb i (alen M a) then rn ca C_L_law 437 L (.int (M.1 a i.toInt.toNat) :: S) M else none := (rn_at k_L_law_436).trans rnx_ite
theorem k_L_law_437 : lk 437 C_L_law = some (.aload_n 0, (0, 0, 0, 0)) := by decide +kernel
theorem s_L_law_437 {ca : Nat → List Value → tM → tO} {M : tM} {a1 a2 a3 : Option Value} {x : Nat} {S : List Value} : rn ca C_L_law 437 [some (.ref x), a1, a2, a3] S M = rn ca C_L_law 438 [some (.ref x), a1, a2, a3] (.ref x :: S) M := (rn_at k_L_law_437).trans rfl
theorem k_L_law_438 : lk 438 C_L_law = some (.iload_n 3, (0, 0, 0, 0)) := by decide +kernel
theorem s_L_law_438 {ca : Nat → List Value → tM → tO} {M : tM} {a0 a1 a2 : Option Value} {x : Int32} {S : List Value} : rn ca C_L_law 438 [a0, a1, a2, some (.int x)] S M = rn ca C_L_law 439 [a0, a1, a2, some (.int x)] (.int x :: S) M := (rn_at k_L_law_438).trans rfl
theorem k_L_law_439 : lk 439 C_L_law = some (.iconst 2, (0, 0, 0, 0)) := by decide +kernel
theorem s_L_law_439 {ca : Nat → List Value → tM → tO} {M : tM} {L : tL} {S : List Value} : rn ca C_L_law 439 L S M = rn ca C_L_law 440 L (.int (iI 2) :: S) M := (rn_at k_L_law_439).trans rfl
theorem k_L_law_440 : lk 440 C_L_law = some (.iadd, (0, 0, 0, 0)) := by decide +kernel
theorem s_L_law_440 {ca : Nat → List Value → tM → tO} {M : tM} {L : tL} {x y : Int32} {S : List Value} : rn ca C_L_law 440 L (.int y :: .int x :: S) M = rn ca C_L_law 441 L (.int (x + y) :: S) M := (rn_at k_L_law_440).trans rfl
theorem k_L_law_441 : lk 441 C_L_law = some (.iaload, (0, 0, 0, 0)) := by decide +kernel
theorem s_L_law_441 {ca : Nat → List Value → tM → tO} {M : tM} {L : tL} {a : Nat} {i : Int32} {S : List Value} : rn ca C_L_law 441 L (.int i :: .ref a :: S) M = if (akind a = 0 ∨ akind a = 6 ∨ akind a = 7) ∧ inb i (alen M a) then rn ca C_L_law 442 L (.int (M.1 a i.toInt.toNat) :: S) M else none := (rn_at k_L_law_441).trans rnx_ite
theorem k_L_law_442 : lk 442 C_L_law = some (.invokevirtual 39, (178, 2, 11, 298)) := by decide +kernel
theorem s_L_law_442 {ca : Nat → List Value → tM → tO} {M : tM} {L : tL} {v1 v2 : Value} {r0 : Int32} {b : Nat} : rn ca C_L_law 442 L [v2, v1, .ref b, .int r0] M = if clsO b = some 11 then rnk ca C_L_law 445 L [.int r0] (ca m_X11_show [.ref b, v1, v2] M) else none := (rn_at k_L_law_442).trans rnx_ite
theorem k_L_law_445 : lk 445 C_L_law = some (.if_icmp .eq 1119, (1564, 0, 0, 0)) := by decide +kernel
theorem s_L_law_445 {ca : Nat → List Value → tM → tO} {M : tM} {L : tL} {x y : Int32} {S : List Value} : rn ca C_L_law 445 L (.int y :: .int x :: S) M = if x = y then rn ca C_L_law 1564 L S M else rn ca C_L_law 448 L S M := (rn_at k_L_law_445).trans rnx_ite
theorem k_L_law_448 : lk 448 C_L_law = some (.iconst 0, (0, 0, 0, 0)) := by decide +kernel
theorem s_L_law_448 {ca : Nat → List Value → tM → tO} {M : tM} {L : tL} {S : List Value} : rn ca C_L_law 448 L S M = rn ca C_L_law 449 L (.int (iI 0) :: S) M := (rn_at k_L_law_448).trans rfl
theorem k_L_law_449 : lk 449 C_L_law = some (.ireturn, (1, 0, 0, 0)) := by decide +kernel
theorem s_L_law_449 {ca : Nat → List Value → tM → tO} {M : tM} {L : tL} {x : Int32} : rn ca C_L_law 449 L [.int x] M = if x = iI 0 ∨ x = iI 1 then some (some (.int x), M) else none := (rn_at k_L_law_449).trans rnx_ite
theorem k_L_law_450 : lk 450 C_L_law = some (.aload_n 1, (0, 0, 0, 0)) := by decide +kernel
theorem s_L_law_450 {ca : Nat → List Value → tM → tO} {M : tM} {a0 a2 a3 : Option Value} {x : Nat} {S : List Value} : rn ca C_L_law 450 [a0, some (.ref x), a2, a3] S M = rn ca C_L_law 451 [a0, some (.ref x), a2, a3] (.ref x :: S) M := (rn_at k_L_law_450).trans rfl
theorem k_L_law_451 : lk 451 C_L_law = some (.aload_n 0, (0, 0, 0, 0)) := by decide +kernel
theorem s_L_law_451 {ca : Nat → List Value → tM → tO} {M : tM} {a1 a2 a3 : Option Value} {x : Nat} {S : List Value} : rn ca C_L_law 451 [some (.ref x), a1, a2, a3] S M = rn ca C_L_law 452 [some (.ref x), a1, a2, a3] (.ref x :: S) M := (rn_at k_L_law_451).trans rfl
theorem k_L_law_452 : lk 452 C_L_law = some (.iload_n 3, (0, 0, 0, 0)) := by decide +kernel
theorem s_L_law_452 {ca : Nat → List Value → tM → tO} {M : tM} {a0 a1 a2 : Option Value} {x : Int32} {S : List Value} : rn ca C_L_law 452 [a0, a1, a2, some (.int x)] S M = rn ca C_L_law 453 [a0, a1, a2, some (.int x)] (.int x :: S) M := (rn_at k_L_law_452).trans rfl
theorem k_L_law_453 : lk 453 C_L_law = some (.iconst 1, (0, 0, 0, 0)) := by decide +kernel
theorem s_L_law_453 {ca : Nat → List Value → tM → tO} {M : tM} {L : tL} {S : List Value} : rn ca C_L_law 453 L S M = rn ca C_L_law 454 L (.int (iI 1) :: S) M := (rn_at k_L_law_453).trans rfl
theorem k_L_law_454 : lk 454 C_L_law = some (.iadd, (0, 0, 0, 0)) := by decide +kernel
theorem s_L_law_454 {ca : Nat → List Value → tM → tO} {M : tM} {L : tL} {x y : Int32} {S : List Value} : rn ca C_L_law 454 L (.int y :: .int x :: S) M = rn ca C_L_law 455 L (.int (x + y) :: S) M := (rn_at k_L_law_454).trans rfl
theorem k_L_law_455 : lk 455 C_L_law = some (.iaload, (0, 0, 0, 0)) := by decide +kernel
theorem s_L_law_455 {ca : Nat → List Value → tM → tO} {M : tM} {L : tL} {a : Nat} {i : Int32} {S : List Value} : rn ca C_L_law 455 L (.int i :: .ref a :: S) M = if (akind a = 0 ∨ akind a = 6 ∨ akind a = 7) ∧ inb i (alen M a) then rn ca C_L_law 456 L (.int (M.1 a i.toInt.toNat) :: S) M else none := (rn_at k_L_law_455).trans rnx_ite
theorem k_L_law_456 : lk 456 C_L_law = some (.invokevirtual 40, (100, 1, 10, 306)) := by decide +kernel
theorem s_L_law_456 {ca : Nat → List Value → tM → tO} {M : tM} {L : tL} {v1 : Value} {b : Nat} : rn ca C_L_law 456 L [v1, .ref b] M = if clsO b = some 10 then rnk ca C_L_law 459 L [] (ca m_X10_holds [.ref b, v1] M) else none := (rn_at k_L_law_456).trans rnx_ite
theorem k_L_law_459 : lk 459 C_L_law = some (.aload_n 2, (0, 0, 0, 0)) := by decide +kernel
theorem s_L_law_459 {ca : Nat → List Value → tM → tO} {M : tM} {a0 a1 a3 : Option Value} {x : Nat} {S : List Value} : rn ca C_L_law 459 [a0, a1, some (.ref x), a3] S M = rn ca C_L_law 460 [a0, a1, some (.ref x), a3] (.ref x :: S) M := (rn_at k_L_law_459).trans rfl
theorem k_L_law_460 : lk 460 C_L_law = some (.aload_n 0, (0, 0, 0, 0)) := by decide +kernel
theorem s_L_law_460 {ca : Nat → List Value → tM → tO} {M : tM} {a1 a2 a3 : Option Value} {x : Nat} {S : List Value} : rn ca C_L_law 460 [some (.ref x), a1, a2, a3] S M = rn ca C_L_law 461 [some (.ref x), a1, a2, a3] (.ref x :: S) M := (rn_at k_L_law_460).trans rfl
theorem k_L_law_461 : lk 461 C_L_law = some (.iload_n 3, (0, 0, 0, 0)) := by decide +kernel
theorem s_L_law_461 {ca : Nat → List Value → tM → tO} {M : tM} {a0 a1 a2 : Option Value} {x : Int32} {S : List Value} : rn ca C_L_law 461 [a0, a1, a2, some (.int x)] S M = rn ca C_L_law 462 [a0, a1, a2, some (.int x)] (.int x :: S) M := (rn_at k_L_law_461).trans rfl
theorem k_L_law_462 : lk 462 C_L_law = some (.iconst 1, (0, 0, 0, 0)) := by decide +kernel
theorem s_L_law_462 {ca : Nat → List Value → tM → tO} {M : tM} {L : tL} {S : List Value} : rn ca C_L_law 462 L S M = rn ca C_L_law 463 L (.int (iI 1) :: S) M := (rn_at k_L_law_462).trans rfl
theorem k_L_law_463 : lk 463 C_L_law = some (.iadd, (0, 0, 0, 0)) := by decide +kernel
theorem s_L_law_463 {ca : Nat → List Value → tM → tO} {M : tM} {L : tL} {x y : Int32} {S : List Value} : rn ca C_L_law 463 L (.int y :: .int x :: S) M = rn ca C_L_law 464 L (.int (x + y) :: S) M := (rn_at k_L_law_463).trans rfl
theorem k_L_law_464 : lk 464 C_L_law = some (.iaload, (0, 0, 0, 0)) := by decide +kernel
theorem s_L_law_464 {ca : Nat → List Value → tM → tO} {M : tM} {L : tL} {a : Nat} {i : Int32} {S : List Value} : rn ca C_L_law 464 L (.int i :: .ref a :: S) M = if (akind a = 0 ∨ akind a = 6 ∨ akind a = 7) ∧ inb i (alen M a) then rn ca C_L_law 465 L (.int (M.1 a i.toInt.toNat) :: S) M else none := (rn_at k_L_law_464).trans rnx_ite
theorem k_L_law_465 : lk 465 C_L_law = some (.invokevirtual 44, (179, 1, 11, 310)) := by decide +kernel
theorem s_L_law_465 {ca : Nat → List Value → tM → tO} {M : tM} {L : tL} {v1 : Value} {r0 : Int32} {b : Nat} : rn ca C_L_law 465 L [v1, .ref b, .int r0] M = if clsO b = some 11 then rnk ca C_L_law 468 L [.int r0] (ca m_X11_holds [.ref b, v1] M) else none := (rn_at k_L_law_465).trans rnx_ite
theorem k_L_law_468 : lk 468 C_L_law = some (.if_icmp .eq 1096, (1564, 0, 0, 0)) := by decide +kernel
theorem s_L_law_468 {ca : Nat → List Value → tM → tO} {M : tM} {L : tL} {x y : Int32} {S : List Value} : rn ca C_L_law 468 L (.int y :: .int x :: S) M = if x = y then rn ca C_L_law 1564 L S M else rn ca C_L_law 471 L S M := (rn_at k_L_law_468).trans rnx_ite
theorem k_L_law_471 : lk 471 C_L_law = some (.iconst 0, (0, 0, 0, 0)) := by decide +kernel
theorem s_L_law_471 {ca : Nat → List Value → tM → tO} {M : tM} {L : tL} {S : List Value} : rn ca C_L_law 471 L S M = rn ca C_L_law 472 L (.int (iI 0) :: S) M := (rn_at k_L_law_471).trans rfl
theorem k_L_law_472 : lk 472 C_L_law = some (.ireturn, (1, 0, 0, 0)) := by decide +kernel
theorem s_L_law_472 {ca : Nat → List Value → tM → tO} {M : tM} {L : tL} {x : Int32} : rn ca C_L_law 472 L [.int x] M = if x = iI 0 ∨ x = iI 1 then some (some (.int x), M) else none := (rn_at k_L_law_472).trans rnx_ite
theorem k_L_law_473 : lk 473 C_L_law = some (.aload_n 1, (0, 0, 0, 0)) := by decide +kernel
theorem s_L_law_473 {ca : Nat → List Value → tM → tO} {M : tM} {a0 a2 a3 : Option Value} {x : Nat} {S : List Value} : rn ca C_L_law 473 [a0, some (.ref x), a2, a3] S M = rn ca C_L_law 474 [a0, some (.ref x), a2, a3] (.ref x :: S) M := (rn_at k_L_law_473).trans rfl
theorem k_L_law_474 : lk 474 C_L_law = some (.aload_n 0, (0, 0, 0, 0)) := by decide +kernel
theorem s_L_law_474 {ca : Nat → List Value → tM → tO} {M : tM} {a1 a2 a3 : Option Value} {x : Nat} {S : List Value} : rn ca C_L_law 474 [some (.ref x), a1, a2, a3] S M = rn ca C_L_law 475 [some (.ref x), a1, a2, a3] (.ref x :: S) M := (rn_at k_L_law_474).trans rfl
theorem k_L_law_475 : lk 475 C_L_law = some (.iload_n 3, (0, 0, 0, 0)) := by decide +kernel
theorem s_L_law_475 {ca : Nat → List Value → tM → tO} {M : tM} {a0 a1 a2 : Option Value} {x : Int32} {S : List Value} : rn ca C_L_law 475 [a0, a1, a2, some (.int x)] S M = rn ca C_L_law 476 [a0, a1, a2, some (.int x)] (.int x :: S) M := (rn_at k_L_law_475).trans rfl
theorem k_L_law_476 : lk 476 C_L_law = some (.iconst 1, (0, 0, 0, 0)) := by decide +kernel
theorem s_L_law_476 {ca : Nat → List Value → tM → tO} {M : tM} {L : tL} {S : List Value} : rn ca C_L_law 476 L S M = rn ca C_L_law 477 L (.int (iI 1) :: S) M := (rn_at k_L_law_476).trans rfl
theorem k_L_law_477 : lk 477 C_L_law = some (.iadd, (0, 0, 0, 0)) := by decide +kernel
theorem s_L_law_477 {ca : Nat → List Value → tM → tO} {M : tM} {L : tL} {x y : Int32} {S : List Value} : rn ca C_L_law 477 L (.int y :: .int x :: S) M = rn ca C_L_law 478 L (.int (x + y) :: S) M := (rn_at k_L_law_477).trans rfl
theorem k_L_law_478 : lk 478 C_L_law = some (.iaload, (0, 0, 0, 0)) := by decide +kernel
theorem s_L_law_478 {ca : Nat → List Value → tM → tO} {M : tM} {L : tL} {a : Nat} {i : Int32} {S : List Value} : rn ca C_L_law 478 L (.int i :: .ref a :: S) M = if (akind a = 0 ∨ akind a = 6 ∨ akind a = 7) ∧ inb i (alen M a) then rn ca C_L_law 479 L (.int (M.1 a i.toInt.toNat) :: S) M else none := (rn_at k_L_law_478).trans rnx_ite
theorem k_L_law_479 : lk 479 C_L_law = some (.aload_n 0, (0, 0, 0, 0)) := by decide +kernel
theorem s_L_law_479 {ca : Nat → List Value → tM → tO} {M : tM} {a1 a2 a3 : Option Value} {x : Nat} {S : List Value} : rn ca C_L_law 479 [some (.ref x), a1, a2, a3] S M = rn ca C_L_law 480 [some (.ref x), a1, a2, a3] (.ref x :: S) M := (rn_at k_L_law_479).trans rfl
theorem k_L_law_480 : lk 480 C_L_law = some (.iload_n 3, (0, 0, 0, 0)) := by decide +kernel
theorem s_L_law_480 {ca : Nat → List Value → tM → tO} {M : tM} {a0 a1 a2 : Option Value} {x : Int32} {S : List Value} : rn ca C_L_law 480 [a0, a1, a2, some (.int x)] S M = rn ca C_L_law 481 [a0, a1, a2, some (.int x)] (.int x :: S) M := (rn_at k_L_law_480).trans rfl
theorem k_L_law_481 : lk 481 C_L_law = some (.iconst 2, (0, 0, 0, 0)) := by decide +kernel
theorem s_L_law_481 {ca : Nat → List Value → tM → tO} {M : tM} {L : tL} {S : List Value} : rn ca C_L_law 481 L S M = rn ca C_L_law 482 L (.int (iI 2) :: S) M := (rn_at k_L_law_481).trans rfl
theorem k_L_law_482 : lk 482 C_L_law = some (.iadd, (0, 0, 0, 0)) := by decide +kernel
theorem s_L_law_482 {ca : Nat → List Value → tM → tO} {M : tM} {L : tL} {x y : Int32} {S : List Value} : rn ca C_L_law 482 L (.int y :: .int x :: S) M = rn ca C_L_law 483 L (.int (x + y) :: S) M := (rn_at k_L_law_482).trans rfl
theorem k_L_law_483 : lk 483 C_L_law = some (.iaload, (0, 0, 0, 0)) := by decide +kernel
theorem s_L_law_483 {ca : Nat → List Value → tM → tO} {M : tM} {L : tL} {a : Nat} {i : Int32} {S : List Value} : rn ca C_L_law 483 L (.int i :: .ref a :: S) M = if (akind a = 0 ∨ akind a = 6 ∨ akind a = 7) ∧ inb i (alen M a) then rn ca C_L_law 484 L (.int (M.1 a i.toInt.toNat) :: S) M else none := (rn_at k_L_law_483).trans rnx_ite
theorem k_L_law_484 : lk 484 C_L_law = some (.invokevirtual 45, (101, 2, 10, 314)) := by decide +kernel
theorem s_L_law_484 {ca : Nat → List Value → tM → tO} {M : tM} {L : tL} {v1 v2 : Value} {b : Nat} : rn ca C_L_law 484 L [v2, v1, .ref b] M = if clsO b = some 10 then rnk ca C_L_law 487 L [] (ca m_X10_says [.ref b, v1, v2] M) else none := (rn_at k_L_law_484).trans rnx_ite
theorem k_L_law_487 : lk 487 C_L_law = some (.aload_n 2, (0, 0, 0, 0)) := by decide +kernel
theorem s_L_law_487 {ca : Nat → List Value → tM → tO} {M : tM} {a0 a1 a3 : Option Value} {x : Nat} {S : List Value} : rn ca C_L_law 487 [a0, a1, some (.ref x), a3] S M = rn ca C_L_law 488 [a0, a1, some (.ref x), a3] (.ref x :: S) M := (rn_at k_L_law_487).trans rfl
theorem k_L_law_488 : lk 488 C_L_law = some (.aload_n 0, (0, 0, 0, 0)) := by decide +kernel
theorem s_L_law_488 {ca : Nat → List Value → tM → tO} {M : tM} {a1 a2 a3 : Option Value} {x : Nat} {S : List Value} : rn ca C_L_law 488 [some (.ref x), a1, a2, a3] S M = rn ca C_L_law 489 [some (.ref x), a1, a2, a3] (.ref x :: S) M := (rn_at k_L_law_488).trans rfl
theorem k_L_law_489 : lk 489 C_L_law = some (.iload_n 3, (0, 0, 0, 0)) := by decide +kernel
theorem s_L_law_489 {ca : Nat → List Value → tM → tO} {M : tM} {a0 a1 a2 : Option Value} {x : Int32} {S : List Value} : rn ca C_L_law 489 [a0, a1, a2, some (.int x)] S M = rn ca C_L_law 490 [a0, a1, a2, some (.int x)] (.int x :: S) M := (rn_at k_L_law_489).trans rfl
theorem k_L_law_490 : lk 490 C_L_law = some (.iconst 1, (0, 0, 0, 0)) := by decide +kernel
theorem s_L_law_490 {ca : Nat → List Value → tM → tO} {M : tM} {L : tL} {S : List Value} : rn ca C_L_law 490 L S M = rn ca C_L_law 491 L (.int (iI 1) :: S) M := (rn_at k_L_law_490).trans rfl
theorem k_L_law_491 : lk 491 C_L_law = some (.iadd, (0, 0, 0, 0)) := by decide +kernel
theorem s_L_law_491 {ca : Nat → List Value → tM → tO} {M : tM} {L : tL} {x y : Int32} {S : List Value} : rn ca C_L_law 491 L (.int y :: .int x :: S) M = rn ca C_L_law 492 L (.int (x + y) :: S) M := (rn_at k_L_law_491).trans rfl
theorem k_L_law_492 : lk 492 C_L_law = some (.iaload, (0, 0, 0, 0)) := by decide +kernel
theorem s_L_law_492 {ca : Nat → List Value → tM → tO} {M : tM} {L : tL} {a : Nat} {i : Int32} {S : List Value} : rn ca C_L_law 492 L (.int i :: .ref a :: S) M = if (akind a = 0 ∨ akind a = 6 ∨ akind a = 7) ∧ inb i (alen M a) then rn ca C_L_law 493 L (.int (M.1 a i.toInt.toNat) :: S) M else none := (rn_at k_L_law_492).trans rnx_ite
theorem k_L_law_493 : lk 493 C_L_law = some (.aload_n 0, (0, 0, 0, 0)) := by decide +kernel
theorem s_L_law_493 {ca : Nat → List Value → tM → tO} {M : tM} {a1 a2 a3 : Option Value} {x : Nat} {S : List Value} : rn ca C_L_law 493 [some (.ref x), a1, a2, a3] S M = rn ca C_L_law 494 [some (.ref x), a1, a2, a3] (.ref x :: S) M := (rn_at k_L_law_493).trans rfl
theorem k_L_law_494 : lk 494 C_L_law = some (.iload_n 3, (0, 0, 0, 0)) := by decide +kernel
theorem s_L_law_494 {ca : Nat → List Value → tM → tO} {M : tM} {a0 a1 a2 : Option Value} {x : Int32} {S : List Value} : rn ca C_L_law 494 [a0, a1, a2, some (.int x)] S M = rn ca C_L_law 495 [a0, a1, a2, some (.int x)] (.int x :: S) M := (rn_at k_L_law_494).trans rfl
theorem k_L_law_495 : lk 495 C_L_law = some (.iconst 2, (0, 0, 0, 0)) := by decide +kernel
theorem s_L_law_495 {ca : Nat → List Value → tM → tO} {M : tM} {L : tL} {S : List Value} : rn ca C_L_law 495 L S M = rn ca C_L_law 496 L (.int (iI 2) :: S) M := (rn_at k_L_law_495).trans rfl
theorem k_L_law_496 : lk 496 C_L_law = some (.iadd, (0, 0, 0, 0)) := by decide +kernel
theorem s_L_law_496 {ca : Nat → List Value → tM → tO} {M : tM} {L : tL} {x y : Int32} {S : List Value} : rn ca C_L_law 496 L (.int y :: .int x :: S) M = rn ca C_L_law 497 L (.int (x + y) :: S) M := (rn_at k_L_law_496).trans rfl
theorem k_L_law_497 : lk 497 C_L_law = some (.iaload, (0, 0, 0, 0)) := by decide +kernel
theorem s_L_law_497 {ca : Nat → List Value → tM → tO} {M : tM} {L : tL} {a : Nat} {i : Int32} {S : List Value} : rn ca C_L_law 497 L (.int i :: .ref a :: S) M = if (akind a = 0 ∨ akind a = 6 ∨ akind a = 7) ∧ inb i (alen M a) then rn ca C_L_law 498 L (.int (M.1 a i.toInt.toNat) :: S) M else none := (rn_at k_L_law_497).trans rnx_ite
theorem k_L_law_498 : lk 498 C_L_law = some (.invokevirtual 48, (180, 2, 11, 322)) := by decide +kernel
theorem s_L_law_498 {ca : Nat → List Value → tM → tO} {M : tM} {L : tL} {v1 v2 : Value} {r0 : Int32} {b : Nat} : rn ca C_L_law 498 L [v2, v1, .ref b, .int r0] M = if clsO b = some 11 then rnk ca C_L_law 501 L [.int r0] (ca m_X11_says [.ref b, v1, v2] M) else none := (rn_at k_L_law_498).trans rnx_ite
theorem k_L_law_501 : lk 501 C_L_law = some (.if_icmp .eq 1063, (1564, 0, 0, 0)) := by decide +kernel
theorem s_L_law_501 {ca : Nat → List Value → tM → tO} {M : tM} {L : tL} {x y : Int32} {S : List Value} : rn ca C_L_law 501 L (.int y :: .int x :: S) M = if x = y then rn ca C_L_law 1564 L S M else rn ca C_L_law 504 L S M := (rn_at k_L_law_501).trans rnx_ite
theorem k_L_law_504 : lk 504 C_L_law = some (.iconst 0, (0, 0, 0, 0)) := by decide +kernel
theorem s_L_law_504 {ca : Nat → List Value → tM → tO} {M : tM} {L : tL} {S : List Value} : rn ca C_L_law 504 L S M = rn ca C_L_law 505 L (.int (iI 0) :: S) M := (rn_at k_L_law_504).trans rfl
theorem k_L_law_505 : lk 505 C_L_law = some (.ireturn, (1, 0, 0, 0)) := by decide +kernel
theorem s_L_law_505 {ca : Nat → List Value → tM → tO} {M : tM} {L : tL} {x : Int32} : rn ca C_L_law 505 L [.int x] M = if x = iI 0 ∨ x = iI 1 then some (some (.int x), M) else none := (rn_at k_L_law_505).trans rnx_ite
theorem k_L_law_506 : lk 506 C_L_law = some (.aload_n 1, (0, 0, 0, 0)) := by decide +kernel
theorem s_L_law_506 {ca : Nat → List Value → tM → tO} {M : tM} {a0 a2 a3 : Option Value} {x : Nat} {S : List Value} : rn ca C_L_law 506 [a0, some (.ref x), a2, a3] S M = rn ca C_L_law 507 [a0, some (.ref x), a2, a3] (.ref x :: S) M := (rn_at k_L_law_506).trans rfl
theorem k_L_law_507 : lk 507 C_L_law = some (.invokevirtual 49, (102, 0, 10, 343)) := by decide +kernel
theorem s_L_law_507 {ca : Nat → List Value → tM → tO} {M : tM} {L : tL} {b : Nat} : rn ca C_L_law 507 L [.ref b] M = if clsO b = some 10 then rnk ca C_L_law 510 L [] (ca m_X10_desk [.ref b] M) else none := (rn_at k_L_law_507).trans rnx_ite
theorem k_L_law_510 : lk 510 C_L_law = some (.aload_n 2, (0, 0, 0, 0)) := by decide +kernel
theorem s_L_law_510 {ca : Nat → List Value → tM → tO} {M : tM} {a0 a1 a3 : Option Value} {x : Nat} {S : List Value} : rn ca C_L_law 510 [a0, a1, some (.ref x), a3] S M = rn ca C_L_law 511 [a0, a1, some (.ref x), a3] (.ref x :: S) M := (rn_at k_L_law_510).trans rfl
theorem k_L_law_511 : lk 511 C_L_law = some (.invokevirtual 53, (162, 0, 11, 356)) := by decide +kernel
theorem s_L_law_511 {ca : Nat → List Value → tM → tO} {M : tM} {L : tL} {r0 : Int32} {b : Nat} : rn ca C_L_law 511 L [.ref b, .int r0] M = if clsO b = some 11 then rnk ca C_L_law 514 L [.int r0] (ca m_X11_desk [.ref b] M) else none := (rn_at k_L_law_511).trans rnx_ite
theorem k_L_law_514 : lk 514 C_L_law = some (.if_icmp .eq 1050, (1564, 0, 0, 0)) := by decide +kernel
theorem s_L_law_514 {ca : Nat → List Value → tM → tO} {M : tM} {L : tL} {x y : Int32} {S : List Value} : rn ca C_L_law 514 L (.int y :: .int x :: S) M = if x = y then rn ca C_L_law 1564 L S M else rn ca C_L_law 517 L S M := (rn_at k_L_law_514).trans rnx_ite
theorem k_L_law_517 : lk 517 C_L_law = some (.iconst 0, (0, 0, 0, 0)) := by decide +kernel
theorem s_L_law_517 {ca : Nat → List Value → tM → tO} {M : tM} {L : tL} {S : List Value} : rn ca C_L_law 517 L S M = rn ca C_L_law 518 L (.int (iI 0) :: S) M := (rn_at k_L_law_517).trans rfl
theorem k_L_law_518 : lk 518 C_L_law = some (.ireturn, (1, 0, 0, 0)) := by decide +kernel
theorem s_L_law_518 {ca : Nat → List Value → tM → tO} {M : tM} {L : tL} {x : Int32} : rn ca C_L_law 518 L [.int x] M = if x = iI 0 ∨ x = iI 1 then some (some (.int x), M) else none := (rn_at k_L_law_518).trans rnx_ite
theorem k_L_law_519 : lk 519 C_L_law = some (.aload_n 1, (0, 0, 0, 0)) := by decide +kernel
theorem s_L_law_519 {ca : Nat → List Value → tM → tO} {M : tM} {a0 a2 a3 : Option Value} {x : Nat} {S : List Value} : rn ca C_L_law 519 [a0, some (.ref x), a2, a3] S M = rn ca C_L_law 520 [a0, some (.ref x), a2, a3] (.ref x :: S) M := (rn_at k_L_law_519).trans rfl
theorem k_L_law_520 : lk 520 C_L_law = some (.aload_n 0, (0, 0, 0, 0)) := by decide +kernel
theorem s_L_law_520 {ca : Nat → List Value → tM → tO} {M : tM} {a1 a2 a3 : Option Value} {x : Nat} {S : List Value} : rn ca C_L_law 520 [some (.ref x), a1, a2, a3] S M = rn ca C_L_law 521 [some (.ref x), a1, a2, a3] (.ref x :: S) M := (rn_at k_L_law_520).trans rfl
theorem k_L_law_521 : lk 521 C_L_law = some (.iload_n 3, (0, 0, 0, 0)) := by decide +kernel
theorem s_L_law_521 {ca : Nat → List Value → tM → tO} {M : tM} {a0 a1 a2 : Option Value} {x : Int32} {S : List Value} : rn ca C_L_law 521 [a0, a1, a2, some (.int x)] S M = rn ca C_L_law 522 [a0, a1, a2, some (.int x)] (.int x :: S) M := (rn_at k_L_law_521).trans rfl
theorem k_L_law_522 : lk 522 C_L_law = some (.iconst 1, (0, 0, 0, 0)) := by decide +kernel
theorem s_L_law_522 {ca : Nat → List Value → tM → tO} {M : tM} {L : tL} {S : List Value} : rn ca C_L_law 522 L S M = rn ca C_L_law 523 L (.int (iI 1) :: S) M := (rn_at k_L_law_522).trans rfl
theorem k_L_law_523 : lk 523 C_L_law = some (.iadd, (0, 0, 0, 0)) := by decide +kernel
theorem s_L_law_523 {ca : Nat → List Value → tM → tO} {M : tM} {L : tL} {x y : Int32} {S : List Value} : rn ca C_L_law 523 L (.int y :: .int x :: S) M = rn ca C_L_law 524 L (.int (x + y) :: S) M := (rn_at k_L_law_523).trans rfl
theorem k_L_law_524 : lk 524 C_L_law = some (.iaload, (0, 0, 0, 0)) := by decide +kernel
theorem s_L_law_524 {ca : Nat → List Value → tM → tO} {M : tM} {L : tL} {a : Nat} {i : Int32} {S : List Value} : rn ca C_L_law 524 L (.int i :: .ref a :: S) M = if (akind a = 0 ∨ akind a = 6 ∨ akind a = 7) ∧ inb i (alen M a) then rn ca C_L_law 525 L (.int (M.1 a i.toInt.toNat) :: S) M else none := (rn_at k_L_law_524).trans rnx_ite
theorem k_L_law_525 : lk 525 C_L_law = some (.aload_n 0, (0, 0, 0, 0)) := by decide +kernel
theorem s_L_law_525 {ca : Nat → List Value → tM → tO} {M : tM} {a1 a2 a3 : Option Value} {x : Nat} {S : List Value} : rn ca C_L_law 525 [some (.ref x), a1, a2, a3] S M = rn ca C_L_law 526 [some (.ref x), a1, a2, a3] (.ref x :: S) M := (rn_at k_L_law_525).trans rfl
theorem k_L_law_526 : lk 526 C_L_law = some (.iload_n 3, (0, 0, 0, 0)) := by decide +kernel
theorem s_L_law_526 {ca : Nat → List Value → tM → tO} {M : tM} {a0 a1 a2 : Option Value} {x : Int32} {S : List Value} : rn ca C_L_law 526 [a0, a1, a2, some (.int x)] S M = rn ca C_L_law 527 [a0, a1, a2, some (.int x)] (.int x :: S) M := (rn_at k_L_law_526).trans rfl
theorem k_L_law_527 : lk 527 C_L_law = some (.iconst 2, (0, 0, 0, 0)) := by decide +kernel
theorem s_L_law_527 {ca : Nat → List Value → tM → tO} {M : tM} {L : tL} {S : List Value} : rn ca C_L_law 527 L S M = rn ca C_L_law 528 L (.int (iI 2) :: S) M := (rn_at k_L_law_527).trans rfl
theorem k_L_law_528 : lk 528 C_L_law = some (.iadd, (0, 0, 0, 0)) := by decide +kernel
theorem s_L_law_528 {ca : Nat → List Value → tM → tO} {M : tM} {L : tL} {x y : Int32} {S : List Value} : rn ca C_L_law 528 L (.int y :: .int x :: S) M = rn ca C_L_law 529 L (.int (x + y) :: S) M := (rn_at k_L_law_528).trans rfl
theorem k_L_law_529 : lk 529 C_L_law = some (.iaload, (0, 0, 0, 0)) := by decide +kernel
theorem s_L_law_529 {ca : Nat → List Value → tM → tO} {M : tM} {L : tL} {a : Nat} {i : Int32} {S : List Value} : rn ca C_L_law 529 L (.int i :: .ref a :: S) M = if (akind a = 0 ∨ akind a = 6 ∨ akind a = 7) ∧ inb i (alen M a) then rn ca C_L_law 530 L (.int (M.1 a i.toInt.toNat) :: S) M else none := (rn_at k_L_law_529).trans rnx_ite
theorem k_L_law_530 : lk 530 C_L_law = some (.aload_n 0, (0, 0, 0, 0)) := by decide +kernel
theorem s_L_law_530 {ca : Nat → List Value → tM → tO} {M : tM} {a1 a2 a3 : Option Value} {x : Nat} {S : List Value} : rn ca C_L_law 530 [some (.ref x), a1, a2, a3] S M = rn ca C_L_law 531 [some (.ref x), a1, a2, a3] (.ref x :: S) M := (rn_at k_L_law_530).trans rfl
theorem k_L_law_531 : lk 531 C_L_law = some (.iload_n 3, (0, 0, 0, 0)) := by decide +kernel
theorem s_L_law_531 {ca : Nat → List Value → tM → tO} {M : tM} {a0 a1 a2 : Option Value} {x : Int32} {S : List Value} : rn ca C_L_law 531 [a0, a1, a2, some (.int x)] S M = rn ca C_L_law 532 [a0, a1, a2, some (.int x)] (.int x :: S) M := (rn_at k_L_law_531).trans rfl
theorem k_L_law_532 : lk 532 C_L_law = some (.iconst 3, (0, 0, 0, 0)) := by decide +kernel
theorem s_L_law_532 {ca : Nat → List Value → tM → tO} {M : tM} {L : tL} {S : List Value} : rn ca C_L_law 532 L S M = rn ca C_L_law 533 L (.int (iI 3) :: S) M := (rn_at k_L_law_532).trans rfl
theorem k_L_law_533 : lk 533 C_L_law = some (.iadd, (0, 0, 0, 0)) := by decide +kernel
theorem s_L_law_533 {ca : Nat → List Value → tM → tO} {M : tM} {L : tL} {x y : Int32} {S : List Value} : rn ca C_L_law 533 L (.int y :: .int x :: S) M = rn ca C_L_law 534 L (.int (x + y) :: S) M := (rn_at k_L_law_533).trans rfl
theorem k_L_law_534 : lk 534 C_L_law = some (.iaload, (0, 0, 0, 0)) := by decide +kernel
theorem s_L_law_534 {ca : Nat → List Value → tM → tO} {M : tM} {L : tL} {a : Nat} {i : Int32} {S : List Value} : rn ca C_L_law 534 L (.int i :: .ref a :: S) M = if (akind a = 0 ∨ akind a = 6 ∨ akind a = 7) ∧ inb i (alen M a) then rn ca C_L_law 535 L (.int (M.1 a i.toInt.toNat) :: S) M else none := (rn_at k_L_law_534).trans rnx_ite
theorem k_L_law_535 : lk 535 C_L_law = some (.aload_n 0, (0, 0, 0, 0)) := by decide +kernel
theorem s_L_law_535 {ca : Nat → List Value → tM → tO} {M : tM} {a1 a2 a3 : Option Value} {x : Nat} {S : List Value} : rn ca C_L_law 535 [some (.ref x), a1, a2, a3] S M = rn ca C_L_law 536 [some (.ref x), a1, a2, a3] (.ref x :: S) M := (rn_at k_L_law_535).trans rfl
theorem k_L_law_536 : lk 536 C_L_law = some (.iload_n 3, (0, 0, 0, 0)) := by decide +kernel
theorem s_L_law_536 {ca : Nat → List Value → tM → tO} {M : tM} {a0 a1 a2 : Option Value} {x : Int32} {S : List Value} : rn ca C_L_law 536 [a0, a1, a2, some (.int x)] S M = rn ca C_L_law 537 [a0, a1, a2, some (.int x)] (.int x :: S) M := (rn_at k_L_law_536).trans rfl
theorem k_L_law_537 : lk 537 C_L_law = some (.iconst 4, (0, 0, 0, 0)) := by decide +kernel
theorem s_L_law_537 {ca : Nat → List Value → tM → tO} {M : tM} {L : tL} {S : List Value} : rn ca C_L_law 537 L S M = rn ca C_L_law 538 L (.int (iI 4) :: S) M := (rn_at k_L_law_537).trans rfl
theorem k_L_law_538 : lk 538 C_L_law = some (.iadd, (0, 0, 0, 0)) := by decide +kernel
theorem s_L_law_538 {ca : Nat → List Value → tM → tO} {M : tM} {L : tL} {x y : Int32} {S : List Value} : rn ca C_L_law 538 L (.int y :: .int x :: S) M = rn ca C_L_law 539 L (.int (x + y) :: S) M := (rn_at k_L_law_538).trans rfl
theorem k_L_law_539 : lk 539 C_L_law = some (.iaload, (0, 0, 0, 0)) := by decide +kernel
theorem s_L_law_539 {ca : Nat → List Value → tM → tO} {M : tM} {L : tL} {a : Nat} {i : Int32} {S : List Value} : rn ca C_L_law 539 L (.int i :: .ref a :: S) M = if (akind a = 0 ∨ akind a = 6 ∨ akind a = 7) ∧ inb i (alen M a) then rn ca C_L_law 540 L (.int (M.1 a i.toInt.toNat) :: S) M else none := (rn_at k_L_law_539).trans rnx_ite
theorem k_L_law_540 : lk 540 C_L_law = some (.invokevirtual 54, (103, 4, 10, 364)) := by decide +kernel
theorem s_L_law_540 {ca : Nat → List Value → tM → tO} {M : tM} {L : tL} {v1 v2 v3 v4 : Value} {b : Nat} : rn ca C_L_law 540 L [v4, v3, v2, v1, .ref b] M = if clsO b = some 10 then rnk ca C_L_law 543 L [] (ca m_X10_tube [.ref b, v1, v2, v3, v4] M) else none := (rn_at k_L_law_540).trans rnx_ite
theorem k_L_law_543 : lk 543 C_L_law = some (.aload_n 2, (0, 0, 0, 0)) := by decide +kernel
theorem s_L_law_543 {ca : Nat → List Value → tM → tO} {M : tM} {a0 a1 a3 : Option Value} {x : Nat} {S : List Value} : rn ca C_L_law 543 [a0, a1, some (.ref x), a3] S M = rn ca C_L_law 544 [a0, a1, some (.ref x), a3] (.ref x :: S) M := (rn_at k_L_law_543).trans rfl
theorem k_L_law_544 : lk 544 C_L_law = some (.aload_n 0, (0, 0, 0, 0)) := by decide +kernel
theorem s_L_law_544 {ca : Nat → List Value → tM → tO} {M : tM} {a1 a2 a3 : Option Value} {x : Nat} {S : List Value} : rn ca C_L_law 544 [some (.ref x), a1, a2, a3] S M = rn ca C_L_law 545 [some (.ref x), a1, a2, a3] (.ref x :: S) M := (rn_at k_L_law_544).trans rfl
theorem k_L_law_545 : lk 545 C_L_law = some (.iload_n 3, (0, 0, 0, 0)) := by decide +kernel
theorem s_L_law_545 {ca : Nat → List Value → tM → tO} {M : tM} {a0 a1 a2 : Option Value} {x : Int32} {S : List Value} : rn ca C_L_law 545 [a0, a1, a2, some (.int x)] S M = rn ca C_L_law 546 [a0, a1, a2, some (.int x)] (.int x :: S) M := (rn_at k_L_law_545).trans rfl
theorem k_L_law_546 : lk 546 C_L_law = some (.iconst 1, (0, 0, 0, 0)) := by decide +kernel
theorem s_L_law_546 {ca : Nat → List Value → tM → tO} {M : tM} {L : tL} {S : List Value} : rn ca C_L_law 546 L S M = rn ca C_L_law 547 L (.int (iI 1) :: S) M := (rn_at k_L_law_546).trans rfl
theorem k_L_law_547 : lk 547 C_L_law = some (.iadd, (0, 0, 0, 0)) := by decide +kernel
theorem s_L_law_547 {ca : Nat → List Value → tM → tO} {M : tM} {L : tL} {x y : Int32} {S : List Value} : rn ca C_L_law 547 L (.int y :: .int x :: S) M = rn ca C_L_law 548 L (.int (x + y) :: S) M := (rn_at k_L_law_547).trans rfl
theorem k_L_law_548 : lk 548 C_L_law = some (.iaload, (0, 0, 0, 0)) := by decide +kernel
theorem s_L_law_548 {ca : Nat → List Value → tM → tO} {M : tM} {L : tL} {a : Nat} {i : Int32} {S : List Value} : rn ca C_L_law 548 L (.int i :: .ref a :: S) M = if (akind a = 0 ∨ akind a = 6 ∨ akind a = 7) ∧ inb i (alen M a) then rn ca C_L_law 549 L (.int (M.1 a i.toInt.toNat) :: S) M else none := (rn_at k_L_law_548).trans rnx_ite
theorem k_L_law_549 : lk 549 C_L_law = some (.aload_n 0, (0, 0, 0, 0)) := by decide +kernel
theorem s_L_law_549 {ca : Nat → List Value → tM → tO} {M : tM} {a1 a2 a3 : Option Value} {x : Nat} {S : List Value} : rn ca C_L_law 549 [some (.ref x), a1, a2, a3] S M = rn ca C_L_law 550 [some (.ref x), a1, a2, a3] (.ref x :: S) M := (rn_at k_L_law_549).trans rfl
theorem k_L_law_550 : lk 550 C_L_law = some (.iload_n 3, (0, 0, 0, 0)) := by decide +kernel
theorem s_L_law_550 {ca : Nat → List Value → tM → tO} {M : tM} {a0 a1 a2 : Option Value} {x : Int32} {S : List Value} : rn ca C_L_law 550 [a0, a1, a2, some (.int x)] S M = rn ca C_L_law 551 [a0, a1, a2, some (.int x)] (.int x :: S) M := (rn_at k_L_law_550).trans rfl
theorem k_L_law_551 : lk 551 C_L_law = some (.iconst 2, (0, 0, 0, 0)) := by decide +kernel
theorem s_L_law_551 {ca : Nat → List Value → tM → tO} {M : tM} {L : tL} {S : List Value} : rn ca C_L_law 551 L S M = rn ca C_L_law 552 L (.int (iI 2) :: S) M := (rn_at k_L_law_551).trans rfl
theorem k_L_law_552 : lk 552 C_L_law = some (.iadd, (0, 0, 0, 0)) := by decide +kernel
theorem s_L_law_552 {ca : Nat → List Value → tM → tO} {M : tM} {L : tL} {x y : Int32} {S : List Value} : rn ca C_L_law 552 L (.int y :: .int x :: S) M = rn ca C_L_law 553 L (.int (x + y) :: S) M := (rn_at k_L_law_552).trans rfl
theorem k_L_law_553 : lk 553 C_L_law = some (.iaload, (0, 0, 0, 0)) := by decide +kernel
theorem s_L_law_553 {ca : Nat → List Value → tM → tO} {M : tM} {L : tL} {a : Nat} {i : Int32} {S : List Value} : rn ca C_L_law 553 L (.int i :: .ref a :: S) M = if (akind a = 0 ∨ akind a = 6 ∨ akind a = 7) ∧ inb i (alen M a) then rn ca C_L_law 554 L (.int (M.1 a i.toInt.toNat) :: S) M else none := (rn_at k_L_law_553).trans rnx_ite
theorem k_L_law_554 : lk 554 C_L_law = some (.aload_n 0, (0, 0, 0, 0)) := by decide +kernel
theorem s_L_law_554 {ca : Nat → List Value → tM → tO} {M : tM} {a1 a2 a3 : Option Value} {x : Nat} {S : List Value} : rn ca C_L_law 554 [some (.ref x), a1, a2, a3] S M = rn ca C_L_law 555 [some (.ref x), a1, a2, a3] (.ref x :: S) M := (rn_at k_L_law_554).trans rfl
theorem k_L_law_555 : lk 555 C_L_law = some (.iload_n 3, (0, 0, 0, 0)) := by decide +kernel
theorem s_L_law_555 {ca : Nat → List Value → tM → tO} {M : tM} {a0 a1 a2 : Option Value} {x : Int32} {S : List Value} : rn ca C_L_law 555 [a0, a1, a2, some (.int x)] S M = rn ca C_L_law 556 [a0, a1, a2, some (.int x)] (.int x :: S) M := (rn_at k_L_law_555).trans rfl
theorem k_L_law_556 : lk 556 C_L_law = some (.iconst 3, (0, 0, 0, 0)) := by decide +kernel
theorem s_L_law_556 {ca : Nat → List Value → tM → tO} {M : tM} {L : tL} {S : List Value} : rn ca C_L_law 556 L S M = rn ca C_L_law 557 L (.int (iI 3) :: S) M := (rn_at k_L_law_556).trans rfl
theorem k_L_law_557 : lk 557 C_L_law = some (.iadd, (0, 0, 0, 0)) := by decide +kernel
theorem s_L_law_557 {ca : Nat → List Value → tM → tO} {M : tM} {L : tL} {x y : Int32} {S : List Value} : rn ca C_L_law 557 L (.int y :: .int x :: S) M = rn ca C_L_law 558 L (.int (x + y) :: S) M := (rn_at k_L_law_557).trans rfl
theorem k_L_law_558 : lk 558 C_L_law = some (.iaload, (0, 0, 0, 0)) := by decide +kernel
theorem s_L_law_558 {ca : Nat → List Value → tM → tO} {M : tM} {L : tL} {a : Nat} {i : Int32} {S : List Value} : rn ca C_L_law 558 L (.int i :: .ref a :: S) M = if (akind a = 0 ∨ akind a = 6 ∨ akind a = 7) ∧ inb i (alen M a) then rn ca C_L_law 559 L (.int (M.1 a i.toInt.toNat) :: S) M else none := (rn_at k_L_law_558).trans rnx_ite
theorem k_L_law_559 : lk 559 C_L_law = some (.aload_n 0, (0, 0, 0, 0)) := by decide +kernel
theorem s_L_law_559 {ca : Nat → List Value → tM → tO} {M : tM} {a1 a2 a3 : Option Value} {x : Nat} {S : List Value} : rn ca C_L_law 559 [some (.ref x), a1, a2, a3] S M = rn ca C_L_law 560 [some (.ref x), a1, a2, a3] (.ref x :: S) M := (rn_at k_L_law_559).trans rfl
theorem k_L_law_560 : lk 560 C_L_law = some (.iload_n 3, (0, 0, 0, 0)) := by decide +kernel
theorem s_L_law_560 {ca : Nat → List Value → tM → tO} {M : tM} {a0 a1 a2 : Option Value} {x : Int32} {S : List Value} : rn ca C_L_law 560 [a0, a1, a2, some (.int x)] S M = rn ca C_L_law 561 [a0, a1, a2, some (.int x)] (.int x :: S) M := (rn_at k_L_law_560).trans rfl
theorem k_L_law_561 : lk 561 C_L_law = some (.iconst 4, (0, 0, 0, 0)) := by decide +kernel
theorem s_L_law_561 {ca : Nat → List Value → tM → tO} {M : tM} {L : tL} {S : List Value} : rn ca C_L_law 561 L S M = rn ca C_L_law 562 L (.int (iI 4) :: S) M := (rn_at k_L_law_561).trans rfl
theorem k_L_law_562 : lk 562 C_L_law = some (.iadd, (0, 0, 0, 0)) := by decide +kernel
theorem s_L_law_562 {ca : Nat → List Value → tM → tO} {M : tM} {L : tL} {x y : Int32} {S : List Value} : rn ca C_L_law 562 L (.int y :: .int x :: S) M = rn ca C_L_law 563 L (.int (x + y) :: S) M := (rn_at k_L_law_562).trans rfl
theorem k_L_law_563 : lk 563 C_L_law = some (.iaload, (0, 0, 0, 0)) := by decide +kernel
theorem s_L_law_563 {ca : Nat → List Value → tM → tO} {M : tM} {L : tL} {a : Nat} {i : Int32} {S : List Value} : rn ca C_L_law 563 L (.int i :: .ref a :: S) M = if (akind a = 0 ∨ akind a = 6 ∨ akind a = 7) ∧ inb i (alen M a) then rn ca C_L_law 564 L (.int (M.1 a i.toInt.toNat) :: S) M else none := (rn_at k_L_law_563).trans rnx_ite
theorem k_L_law_564 : lk 564 C_L_law = some (.invokevirtual 58, (163, 4, 11, 392)) := by decide +kernel
theorem s_L_law_564 {ca : Nat → List Value → tM → tO} {M : tM} {L : tL} {v1 v2 v3 v4 : Value} {r0 : Int32} {b : Nat} : rn ca C_L_law 564 L [v4, v3, v2, v1, .ref b, .int r0] M = if clsO b = some 11 then rnk ca C_L_law 567 L [.int r0] (ca m_X11_tube [.ref b, v1, v2, v3, v4] M) else none := (rn_at k_L_law_564).trans rnx_ite
theorem k_L_law_567 : lk 567 C_L_law = some (.if_icmp .eq 997, (1564, 0, 0, 0)) := by decide +kernel
theorem s_L_law_567 {ca : Nat → List Value → tM → tO} {M : tM} {L : tL} {x y : Int32} {S : List Value} : rn ca C_L_law 567 L (.int y :: .int x :: S) M = if x = y then rn ca C_L_law 1564 L S M else rn ca C_L_law 570 L S M := (rn_at k_L_law_567).trans rnx_ite
theorem k_L_law_570 : lk 570 C_L_law = some (.iconst 0, (0, 0, 0, 0)) := by decide +kernel
theorem s_L_law_570 {ca : Nat → List Value → tM → tO} {M : tM} {L : tL} {S : List Value} : rn ca C_L_law 570 L S M = rn ca C_L_law 571 L (.int (iI 0) :: S) M := (rn_at k_L_law_570).trans rfl
theorem k_L_law_571 : lk 571 C_L_law = some (.ireturn, (1, 0, 0, 0)) := by decide +kernel
theorem s_L_law_571 {ca : Nat → List Value → tM → tO} {M : tM} {L : tL} {x : Int32} : rn ca C_L_law 571 L [.int x] M = if x = iI 0 ∨ x = iI 1 then some (some (.int x), M) else none := (rn_at k_L_law_571).trans rnx_ite
theorem k_L_law_572 : lk 572 C_L_law = some (.aload_n 1, (0, 0, 0, 0)) := by decide +kernel
theorem s_L_law_572 {ca : Nat → List Value → tM → tO} {M : tM} {a0 a2 a3 : Option Value} {x : Nat} {S : List Value} : rn ca C_L_law 572 [a0, some (.ref x), a2, a3] S M = rn ca C_L_law 573 [a0, some (.ref x), a2, a3] (.ref x :: S) M := (rn_at k_L_law_572).trans rfl
theorem k_L_law_573 : lk 573 C_L_law = some (.aload_n 0, (0, 0, 0, 0)) := by decide +kernel
theorem s_L_law_573 {ca : Nat → List Value → tM → tO} {M : tM} {a1 a2 a3 : Option Value} {x : Nat} {S : List Value} : rn ca C_L_law 573 [some (.ref x), a1, a2, a3] S M = rn ca C_L_law 574 [some (.ref x), a1, a2, a3] (.ref x :: S) M := (rn_at k_L_law_573).trans rfl
theorem k_L_law_574 : lk 574 C_L_law = some (.iload_n 3, (0, 0, 0, 0)) := by decide +kernel
theorem s_L_law_574 {ca : Nat → List Value → tM → tO} {M : tM} {a0 a1 a2 : Option Value} {x : Int32} {S : List Value} : rn ca C_L_law 574 [a0, a1, a2, some (.int x)] S M = rn ca C_L_law 575 [a0, a1, a2, some (.int x)] (.int x :: S) M := (rn_at k_L_law_574).trans rfl
theorem k_L_law_575 : lk 575 C_L_law = some (.iconst 1, (0, 0, 0, 0)) := by decide +kernel
theorem s_L_law_575 {ca : Nat → List Value → tM → tO} {M : tM} {L : tL} {S : List Value} : rn ca C_L_law 575 L S M = rn ca C_L_law 576 L (.int (iI 1) :: S) M := (rn_at k_L_law_575).trans rfl
theorem k_L_law_576 : lk 576 C_L_law = some (.iadd, (0, 0, 0, 0)) := by decide +kernel
theorem s_L_law_576 {ca : Nat → List Value → tM → tO} {M : tM} {L : tL} {x y : Int32} {S : List Value} : rn ca C_L_law 576 L (.int y :: .int x :: S) M = rn ca C_L_law 577 L (.int (x + y) :: S) M := (rn_at k_L_law_576).trans rfl
theorem k_L_law_577 : lk 577 C_L_law = some (.iaload, (0, 0, 0, 0)) := by decide +kernel
theorem s_L_law_577 {ca : Nat → List Value → tM → tO} {M : tM} {L : tL} {a : Nat} {i : Int32} {S : List Value} : rn ca C_L_law 577 L (.int i :: .ref a :: S) M = if (akind a = 0 ∨ akind a = 6 ∨ akind a = 7) ∧ inb i (alen M a) then rn ca C_L_law 578 L (.int (M.1 a i.toInt.toNat) :: S) M else none := (rn_at k_L_law_577).trans rnx_ite
theorem k_L_law_578 : lk 578 C_L_law = some (.aload_n 0, (0, 0, 0, 0)) := by decide +kernel
theorem s_L_law_578 {ca : Nat → List Value → tM → tO} {M : tM} {a1 a2 a3 : Option Value} {x : Nat} {S : List Value} : rn ca C_L_law 578 [some (.ref x), a1, a2, a3] S M = rn ca C_L_law 579 [some (.ref x), a1, a2, a3] (.ref x :: S) M := (rn_at k_L_law_578).trans rfl
theorem k_L_law_579 : lk 579 C_L_law = some (.iload_n 3, (0, 0, 0, 0)) := by decide +kernel
theorem s_L_law_579 {ca : Nat → List Value → tM → tO} {M : tM} {a0 a1 a2 : Option Value} {x : Int32} {S : List Value} : rn ca C_L_law 579 [a0, a1, a2, some (.int x)] S M = rn ca C_L_law 580 [a0, a1, a2, some (.int x)] (.int x :: S) M := (rn_at k_L_law_579).trans rfl
theorem k_L_law_580 : lk 580 C_L_law = some (.iconst 2, (0, 0, 0, 0)) := by decide +kernel
theorem s_L_law_580 {ca : Nat → List Value → tM → tO} {M : tM} {L : tL} {S : List Value} : rn ca C_L_law 580 L S M = rn ca C_L_law 581 L (.int (iI 2) :: S) M := (rn_at k_L_law_580).trans rfl
theorem k_L_law_581 : lk 581 C_L_law = some (.iadd, (0, 0, 0, 0)) := by decide +kernel
theorem s_L_law_581 {ca : Nat → List Value → tM → tO} {M : tM} {L : tL} {x y : Int32} {S : List Value} : rn ca C_L_law 581 L (.int y :: .int x :: S) M = rn ca C_L_law 582 L (.int (x + y) :: S) M := (rn_at k_L_law_581).trans rfl
theorem k_L_law_582 : lk 582 C_L_law = some (.iaload, (0, 0, 0, 0)) := by decide +kernel
theorem s_L_law_582 {ca : Nat → List Value → tM → tO} {M : tM} {L : tL} {a : Nat} {i : Int32} {S : List Value} : rn ca C_L_law 582 L (.int i :: .ref a :: S) M = if (akind a = 0 ∨ akind a = 6 ∨ akind a = 7) ∧ inb i (alen M a) then rn ca C_L_law 583 L (.int (M.1 a i.toInt.toNat) :: S) M else none := (rn_at k_L_law_582).trans rnx_ite
theorem k_L_law_583 : lk 583 C_L_law = some (.aload_n 0, (0, 0, 0, 0)) := by decide +kernel
theorem s_L_law_583 {ca : Nat → List Value → tM → tO} {M : tM} {a1 a2 a3 : Option Value} {x : Nat} {S : List Value} : rn ca C_L_law 583 [some (.ref x), a1, a2, a3] S M = rn ca C_L_law 584 [some (.ref x), a1, a2, a3] (.ref x :: S) M := (rn_at k_L_law_583).trans rfl
theorem k_L_law_584 : lk 584 C_L_law = some (.iload_n 3, (0, 0, 0, 0)) := by decide +kernel
theorem s_L_law_584 {ca : Nat → List Value → tM → tO} {M : tM} {a0 a1 a2 : Option Value} {x : Int32} {S : List Value} : rn ca C_L_law 584 [a0, a1, a2, some (.int x)] S M = rn ca C_L_law 585 [a0, a1, a2, some (.int x)] (.int x :: S) M := (rn_at k_L_law_584).trans rfl
theorem k_L_law_585 : lk 585 C_L_law = some (.iconst 3, (0, 0, 0, 0)) := by decide +kernel
theorem s_L_law_585 {ca : Nat → List Value → tM → tO} {M : tM} {L : tL} {S : List Value} : rn ca C_L_law 585 L S M = rn ca C_L_law 586 L (.int (iI 3) :: S) M := (rn_at k_L_law_585).trans rfl
theorem k_L_law_586 : lk 586 C_L_law = some (.iadd, (0, 0, 0, 0)) := by decide +kernel
theorem s_L_law_586 {ca : Nat → List Value → tM → tO} {M : tM} {L : tL} {x y : Int32} {S : List Value} : rn ca C_L_law 586 L (.int y :: .int x :: S) M = rn ca C_L_law 587 L (.int (x + y) :: S) M := (rn_at k_L_law_586).trans rfl
theorem k_L_law_587 : lk 587 C_L_law = some (.iaload, (0, 0, 0, 0)) := by decide +kernel
theorem s_L_law_587 {ca : Nat → List Value → tM → tO} {M : tM} {L : tL} {a : Nat} {i : Int32} {S : List Value} : rn ca C_L_law 587 L (.int i :: .ref a :: S) M = if (akind a = 0 ∨ akind a = 6 ∨ akind a = 7) ∧ inb i (alen M a) then rn ca C_L_law 588 L (.int (M.1 a i.toInt.toNat) :: S) M else none := (rn_at k_L_law_587).trans rnx_ite
theorem k_L_law_588 : lk 588 C_L_law = some (.aload_n 0, (0, 0, 0, 0)) := by decide +kernel
theorem s_L_law_588 {ca : Nat → List Value → tM → tO} {M : tM} {a1 a2 a3 : Option Value} {x : Nat} {S : List Value} : rn ca C_L_law 588 [some (.ref x), a1, a2, a3] S M = rn ca C_L_law 589 [some (.ref x), a1, a2, a3] (.ref x :: S) M := (rn_at k_L_law_588).trans rfl
theorem k_L_law_589 : lk 589 C_L_law = some (.iload_n 3, (0, 0, 0, 0)) := by decide +kernel
theorem s_L_law_589 {ca : Nat → List Value → tM → tO} {M : tM} {a0 a1 a2 : Option Value} {x : Int32} {S : List Value} : rn ca C_L_law 589 [a0, a1, a2, some (.int x)] S M = rn ca C_L_law 590 [a0, a1, a2, some (.int x)] (.int x :: S) M := (rn_at k_L_law_589).trans rfl
theorem k_L_law_590 : lk 590 C_L_law = some (.iconst 4, (0, 0, 0, 0)) := by decide +kernel
theorem s_L_law_590 {ca : Nat → List Value → tM → tO} {M : tM} {L : tL} {S : List Value} : rn ca C_L_law 590 L S M = rn ca C_L_law 591 L (.int (iI 4) :: S) M := (rn_at k_L_law_590).trans rfl
theorem k_L_law_591 : lk 591 C_L_law = some (.iadd, (0, 0, 0, 0)) := by decide +kernel
theorem s_L_law_591 {ca : Nat → List Value → tM → tO} {M : tM} {L : tL} {x y : Int32} {S : List Value} : rn ca C_L_law 591 L (.int y :: .int x :: S) M = rn ca C_L_law 592 L (.int (x + y) :: S) M := (rn_at k_L_law_591).trans rfl
theorem k_L_law_592 : lk 592 C_L_law = some (.iaload, (0, 0, 0, 0)) := by decide +kernel
theorem s_L_law_592 {ca : Nat → List Value → tM → tO} {M : tM} {L : tL} {a : Nat} {i : Int32} {S : List Value} : rn ca C_L_law 592 L (.int i :: .ref a :: S) M = if (akind a = 0 ∨ akind a = 6 ∨ akind a = 7) ∧ inb i (alen M a) then rn ca C_L_law 593 L (.int (M.1 a i.toInt.toNat) :: S) M else none := (rn_at k_L_law_592).trans rnx_ite
theorem k_L_law_593 : lk 593 C_L_law = some (.invokevirtual 59, (104, 4, 10, 405)) := by decide +kernel
theorem s_L_law_593 {ca : Nat → List Value → tM → tO} {M : tM} {L : tL} {v1 v2 v3 v4 : Value} {b : Nat} : rn ca C_L_law 593 L [v4, v3, v2, v1, .ref b] M = if clsO b = some 10 then rnk ca C_L_law 596 L [] (ca m_X10_capsule [.ref b, v1, v2, v3, v4] M) else none := (rn_at k_L_law_593).trans rnx_ite
theorem k_L_law_596 : lk 596 C_L_law = some (.aload_n 2, (0, 0, 0, 0)) := by decide +kernel
theorem s_L_law_596 {ca : Nat → List Value → tM → tO} {M : tM} {a0 a1 a3 : Option Value} {x : Nat} {S : List Value} : rn ca C_L_law 596 [a0, a1, some (.ref x), a3] S M = rn ca C_L_law 597 [a0, a1, some (.ref x), a3] (.ref x :: S) M := (rn_at k_L_law_596).trans rfl
theorem k_L_law_597 : lk 597 C_L_law = some (.aload_n 0, (0, 0, 0, 0)) := by decide +kernel
theorem s_L_law_597 {ca : Nat → List Value → tM → tO} {M : tM} {a1 a2 a3 : Option Value} {x : Nat} {S : List Value} : rn ca C_L_law 597 [some (.ref x), a1, a2, a3] S M = rn ca C_L_law 598 [some (.ref x), a1, a2, a3] (.ref x :: S) M := (rn_at k_L_law_597).trans rfl
theorem k_L_law_598 : lk 598 C_L_law = some (.iload_n 3, (0, 0, 0, 0)) := by decide +kernel
theorem s_L_law_598 {ca : Nat → List Value → tM → tO} {M : tM} {a0 a1 a2 : Option Value} {x : Int32} {S : List Value} : rn ca C_L_law 598 [a0, a1, a2, some (.int x)] S M = rn ca C_L_law 599 [a0, a1, a2, some (.int x)] (.int x :: S) M := (rn_at k_L_law_598).trans rfl
theorem k_L_law_599 : lk 599 C_L_law = some (.iconst 1, (0, 0, 0, 0)) := by decide +kernel
theorem s_L_law_599 {ca : Nat → List Value → tM → tO} {M : tM} {L : tL} {S : List Value} : rn ca C_L_law 599 L S M = rn ca C_L_law 600 L (.int (iI 1) :: S) M := (rn_at k_L_law_599).trans rfl
theorem k_L_law_600 : lk 600 C_L_law = some (.iadd, (0, 0, 0, 0)) := by decide +kernel
theorem s_L_law_600 {ca : Nat → List Value → tM → tO} {M : tM} {L : tL} {x y : Int32} {S : List Value} : rn ca C_L_law 600 L (.int y :: .int x :: S) M = rn ca C_L_law 601 L (.int (x + y) :: S) M := (rn_at k_L_law_600).trans rfl
theorem k_L_law_601 : lk 601 C_L_law = some (.iaload, (0, 0, 0, 0)) := by decide +kernel
theorem s_L_law_601 {ca : Nat → List Value → tM → tO} {M : tM} {L : tL} {a : Nat} {i : Int32} {S : List Value} : rn ca C_L_law 601 L (.int i :: .ref a :: S) M = if (akind a = 0 ∨ akind a = 6 ∨ akind a = 7) ∧ inb i (alen M a) then rn ca C_L_law 602 L (.int (M.1 a i.toInt.toNat) :: S) M else none := (rn_at k_L_law_601).trans rnx_ite
theorem k_L_law_602 : lk 602 C_L_law = some (.aload_n 0, (0, 0, 0, 0)) := by decide +kernel
theorem s_L_law_602 {ca : Nat → List Value → tM → tO} {M : tM} {a1 a2 a3 : Option Value} {x : Nat} {S : List Value} : rn ca C_L_law 602 [some (.ref x), a1, a2, a3] S M = rn ca C_L_law 603 [some (.ref x), a1, a2, a3] (.ref x :: S) M := (rn_at k_L_law_602).trans rfl
theorem k_L_law_603 : lk 603 C_L_law = some (.iload_n 3, (0, 0, 0, 0)) := by decide +kernel
theorem s_L_law_603 {ca : Nat → List Value → tM → tO} {M : tM} {a0 a1 a2 : Option Value} {x : Int32} {S : List Value} : rn ca C_L_law 603 [a0, a1, a2, some (.int x)] S M = rn ca C_L_law 604 [a0, a1, a2, some (.int x)] (.int x :: S) M := (rn_at k_L_law_603).trans rfl
theorem k_L_law_604 : lk 604 C_L_law = some (.iconst 2, (0, 0, 0, 0)) := by decide +kernel
theorem s_L_law_604 {ca : Nat → List Value → tM → tO} {M : tM} {L : tL} {S : List Value} : rn ca C_L_law 604 L S M = rn ca C_L_law 605 L (.int (iI 2) :: S) M := (rn_at k_L_law_604).trans rfl
theorem k_L_law_605 : lk 605 C_L_law = some (.iadd, (0, 0, 0, 0)) := by decide +kernel
theorem s_L_law_605 {ca : Nat → List Value → tM → tO} {M : tM} {L : tL} {x y : Int32} {S : List Value} : rn ca C_L_law 605 L (.int y :: .int x :: S) M = rn ca C_L_law 606 L (.int (x + y) :: S) M := (rn_at k_L_law_605).trans rfl
theorem k_L_law_606 : lk 606 C_L_law = some (.iaload, (0, 0, 0, 0)) := by decide +kernel
theorem s_L_law_606 {ca : Nat → List Value → tM → tO} {M : tM} {L : tL} {a : Nat} {i : Int32} {S : List Value} : rn ca C_L_law 606 L (.int i :: .ref a :: S) M = if (akind a = 0 ∨ akind a = 6 ∨ akind a = 7) ∧ inb i (alen M a) then rn ca C_L_law 607 L (.int (M.1 a i.toInt.toNat) :: S) M else none := (rn_at k_L_law_606).trans rnx_ite
theorem k_L_law_607 : lk 607 C_L_law = some (.aload_n 0, (0, 0, 0, 0)) := by decide +kernel
theorem s_L_law_607 {ca : Nat → List Value → tM → tO} {M : tM} {a1 a2 a3 : Option Value} {x : Nat} {S : List Value} : rn ca C_L_law 607 [some (.ref x), a1, a2, a3] S M = rn ca C_L_law 608 [some (.ref x), a1, a2, a3] (.ref x :: S) M := (rn_at k_L_law_607).trans rfl
theorem k_L_law_608 : lk 608 C_L_law = some (.iload_n 3, (0, 0, 0, 0)) := by decide +kernel
theorem s_L_law_608 {ca : Nat → List Value → tM → tO} {M : tM} {a0 a1 a2 : Option Value} {x : Int32} {S : List Value} : rn ca C_L_law 608 [a0, a1, a2, some (.int x)] S M = rn ca C_L_law 609 [a0, a1, a2, some (.int x)] (.int x :: S) M := (rn_at k_L_law_608).trans rfl
theorem k_L_law_609 : lk 609 C_L_law = some (.iconst 3, (0, 0, 0, 0)) := by decide +kernel
theorem s_L_law_609 {ca : Nat → List Value → tM → tO} {M : tM} {L : tL} {S : List Value} : rn ca C_L_law 609 L S M = rn ca C_L_law 610 L (.int (iI 3) :: S) M := (rn_at k_L_law_609).trans rfl
theorem k_L_law_610 : lk 610 C_L_law = some (.iadd, (0, 0, 0, 0)) := by decide +kernel
theorem s_L_law_610 {ca : Nat → List Value → tM → tO} {M : tM} {L : tL} {x y : Int32} {S : List Value} : rn ca C_L_law 610 L (.int y :: .int x :: S) M = rn ca C_L_law 611 L (.int (x + y) :: S) M := (rn_at k_L_law_610).trans rfl
theorem k_L_law_611 : lk 611 C_L_law = some (.iaload, (0, 0, 0, 0)) := by decide +kernel
theorem s_L_law_611 {ca : Nat → List Value → tM → tO} {M : tM} {L : tL} {a : Nat} {i : Int32} {S : List Value} : rn ca C_L_law 611 L (.int i :: .ref a :: S) M = if (akind a = 0 ∨ akind a = 6 ∨ akind a = 7) ∧ inb i (alen M a) then rn ca C_L_law 612 L (.int (M.1 a i.toInt.toNat) :: S) M else none := (rn_at k_L_law_611).trans rnx_ite
theorem k_L_law_612 : lk 612 C_L_law = some (.aload_n 0, (0, 0, 0, 0)) := by decide +kernel
theorem s_L_law_612 {ca : Nat → List Value → tM → tO} {M : tM} {a1 a2 a3 : Option Value} {x : Nat} {S : List Value} : rn ca C_L_law 612 [some (.ref x), a1, a2, a3] S M = rn ca C_L_law 613 [some (.ref x), a1, a2, a3] (.ref x :: S) M := (rn_at k_L_law_612).trans rfl
theorem k_L_law_613 : lk 613 C_L_law = some (.iload_n 3, (0, 0, 0, 0)) := by decide +kernel
theorem s_L_law_613 {ca : Nat → List Value → tM → tO} {M : tM} {a0 a1 a2 : Option Value} {x : Int32} {S : List Value} : rn ca C_L_law 613 [a0, a1, a2, some (.int x)] S M = rn ca C_L_law 614 [a0, a1, a2, some (.int x)] (.int x :: S) M := (rn_at k_L_law_613).trans rfl
theorem k_L_law_614 : lk 614 C_L_law = some (.iconst 4, (0, 0, 0, 0)) := by decide +kernel
theorem s_L_law_614 {ca : Nat → List Value → tM → tO} {M : tM} {L : tL} {S : List Value} : rn ca C_L_law 614 L S M = rn ca C_L_law 615 L (.int (iI 4) :: S) M := (rn_at k_L_law_614).trans rfl
theorem k_L_law_615 : lk 615 C_L_law = some (.iadd, (0, 0, 0, 0)) := by decide +kernel
theorem s_L_law_615 {ca : Nat → List Value → tM → tO} {M : tM} {L : tL} {x y : Int32} {S : List Value} : rn ca C_L_law 615 L (.int y :: .int x :: S) M = rn ca C_L_law 616 L (.int (x + y) :: S) M := (rn_at k_L_law_615).trans rfl
theorem k_L_law_616 : lk 616 C_L_law = some (.iaload, (0, 0, 0, 0)) := by decide +kernel
theorem s_L_law_616 {ca : Nat → List Value → tM → tO} {M : tM} {L : tL} {a : Nat} {i : Int32} {S : List Value} : rn ca C_L_law 616 L (.int i :: .ref a :: S) M = if (akind a = 0 ∨ akind a = 6 ∨ akind a = 7) ∧ inb i (alen M a) then rn ca C_L_law 617 L (.int (M.1 a i.toInt.toNat) :: S) M else none := (rn_at k_L_law_616).trans rnx_ite
theorem k_L_law_617 : lk 617 C_L_law = some (.invokevirtual 62, (164, 4, 11, 418)) := by decide +kernel
theorem s_L_law_617 {ca : Nat → List Value → tM → tO} {M : tM} {L : tL} {v1 v2 v3 v4 : Value} {r0 : Int32} {b : Nat} : rn ca C_L_law 617 L [v4, v3, v2, v1, .ref b, .int r0] M = if clsO b = some 11 then rnk ca C_L_law 620 L [.int r0] (ca m_X11_capsule [.ref b, v1, v2, v3, v4] M) else none := (rn_at k_L_law_617).trans rnx_ite
theorem k_L_law_620 : lk 620 C_L_law = some (.if_icmp .eq 944, (1564, 0, 0, 0)) := by decide +kernel
theorem s_L_law_620 {ca : Nat → List Value → tM → tO} {M : tM} {L : tL} {x y : Int32} {S : List Value} : rn ca C_L_law 620 L (.int y :: .int x :: S) M = if x = y then rn ca C_L_law 1564 L S M else rn ca C_L_law 623 L S M := (rn_at k_L_law_620).trans rnx_ite
theorem k_L_law_623 : lk 623 C_L_law = some (.iconst 0, (0, 0, 0, 0)) := by decide +kernel
theorem s_L_law_623 {ca : Nat → List Value → tM → tO} {M : tM} {L : tL} {S : List Value} : rn ca C_L_law 623 L S M = rn ca C_L_law 624 L (.int (iI 0) :: S) M := (rn_at k_L_law_623).trans rfl
theorem k_L_law_624 : lk 624 C_L_law = some (.ireturn, (1, 0, 0, 0)) := by decide +kernel
theorem s_L_law_624 {ca : Nat → List Value → tM → tO} {M : tM} {L : tL} {x : Int32} : rn ca C_L_law 624 L [.int x] M = if x = iI 0 ∨ x = iI 1 then some (some (.int x), M) else none := (rn_at k_L_law_624).trans rnx_ite
theorem k_L_law_625 : lk 625 C_L_law = some (.aload_n 1, (0, 0, 0, 0)) := by decide +kernel
theorem s_L_law_625 {ca : Nat → List Value → tM → tO} {M : tM} {a0 a2 a3 : Option Value} {x : Nat} {S : List Value} : rn ca C_L_law 625 [a0, some (.ref x), a2, a3] S M = rn ca C_L_law 626 [a0, some (.ref x), a2, a3] (.ref x :: S) M := (rn_at k_L_law_625).trans rfl
theorem k_L_law_626 : lk 626 C_L_law = some (.aload_n 0, (0, 0, 0, 0)) := by decide +kernel
theorem s_L_law_626 {ca : Nat → List Value → tM → tO} {M : tM} {a1 a2 a3 : Option Value} {x : Nat} {S : List Value} : rn ca C_L_law 626 [some (.ref x), a1, a2, a3] S M = rn ca C_L_law 627 [some (.ref x), a1, a2, a3] (.ref x :: S) M := (rn_at k_L_law_626).trans rfl
theorem k_L_law_627 : lk 627 C_L_law = some (.iload_n 3, (0, 0, 0, 0)) := by decide +kernel
theorem s_L_law_627 {ca : Nat → List Value → tM → tO} {M : tM} {a0 a1 a2 : Option Value} {x : Int32} {S : List Value} : rn ca C_L_law 627 [a0, a1, a2, some (.int x)] S M = rn ca C_L_law 628 [a0, a1, a2, some (.int x)] (.int x :: S) M := (rn_at k_L_law_627).trans rfl
theorem k_L_law_628 : lk 628 C_L_law = some (.iconst 1, (0, 0, 0, 0)) := by decide +kernel
theorem s_L_law_628 {ca : Nat → List Value → tM → tO} {M : tM} {L : tL} {S : List Value} : rn ca C_L_law 628 L S M = rn ca C_L_law 629 L (.int (iI 1) :: S) M := (rn_at k_L_law_628).trans rfl
theorem k_L_law_629 : lk 629 C_L_law = some (.iadd, (0, 0, 0, 0)) := by decide +kernel
theorem s_L_law_629 {ca : Nat → List Value → tM → tO} {M : tM} {L : tL} {x y : Int32} {S : List Value} : rn ca C_L_law 629 L (.int y :: .int x :: S) M = rn ca C_L_law 630 L (.int (x + y) :: S) M := (rn_at k_L_law_629).trans rfl
theorem k_L_law_630 : lk 630 C_L_law = some (.iaload, (0, 0, 0, 0)) := by decide +kernel
theorem s_L_law_630 {ca : Nat → List Value → tM → tO} {M : tM} {L : tL} {a : Nat} {i : Int32} {S : List Value} : rn ca C_L_law 630 L (.int i :: .ref a :: S) M = if (akind a = 0 ∨ akind a = 6 ∨ akind a = 7) ∧ inb i (alen M a) then rn ca C_L_law 631 L (.int (M.1 a i.toInt.toNat) :: S) M else none := (rn_at k_L_law_630).trans rnx_ite
theorem k_L_law_631 : lk 631 C_L_law = some (.aload_n 0, (0, 0, 0, 0)) := by decide +kernel
theorem s_L_law_631 {ca : Nat → List Value → tM → tO} {M : tM} {a1 a2 a3 : Option Value} {x : Nat} {S : List Value} : rn ca C_L_law 631 [some (.ref x), a1, a2, a3] S M = rn ca C_L_law 632 [some (.ref x), a1, a2, a3] (.ref x :: S) M := (rn_at k_L_law_631).trans rfl
theorem k_L_law_632 : lk 632 C_L_law = some (.iload_n 3, (0, 0, 0, 0)) := by decide +kernel
theorem s_L_law_632 {ca : Nat → List Value → tM → tO} {M : tM} {a0 a1 a2 : Option Value} {x : Int32} {S : List Value} : rn ca C_L_law 632 [a0, a1, a2, some (.int x)] S M = rn ca C_L_law 633 [a0, a1, a2, some (.int x)] (.int x :: S) M := (rn_at k_L_law_632).trans rfl
theorem k_L_law_633 : lk 633 C_L_law = some (.iconst 2, (0, 0, 0, 0)) := by decide +kernel
theorem s_L_law_633 {ca : Nat → List Value → tM → tO} {M : tM} {L : tL} {S : List Value} : rn ca C_L_law 633 L S M = rn ca C_L_law 634 L (.int (iI 2) :: S) M := (rn_at k_L_law_633).trans rfl
theorem k_L_law_634 : lk 634 C_L_law = some (.iadd, (0, 0, 0, 0)) := by decide +kernel
theorem s_L_law_634 {ca : Nat → List Value → tM → tO} {M : tM} {L : tL} {x y : Int32} {S : List Value} : rn ca C_L_law 634 L (.int y :: .int x :: S) M = rn ca C_L_law 635 L (.int (x + y) :: S) M := (rn_at k_L_law_634).trans rfl
theorem k_L_law_635 : lk 635 C_L_law = some (.iaload, (0, 0, 0, 0)) := by decide +kernel
theorem s_L_law_635 {ca : Nat → List Value → tM → tO} {M : tM} {L : tL} {a : Nat} {i : Int32} {S : List Value} : rn ca C_L_law 635 L (.int i :: .ref a :: S) M = if (akind a = 0 ∨ akind a = 6 ∨ akind a = 7) ∧ inb i (alen M a) then rn ca C_L_law 636 L (.int (M.1 a i.toInt.toNat) :: S) M else none := (rn_at k_L_law_635).trans rnx_ite
theorem k_L_law_636 : lk 636 C_L_law = some (.ifCond .eq 7, (643, 0, 0, 0)) := by decide +kernel
theorem s_L_law_636 {ca : Nat → List Value → tM → tO} {M : tM} {L : tL} {x : Int32} {S : List Value} : rn ca C_L_law 636 L (.int x :: S) M = if x = iI 0 then rn ca C_L_law 643 L S M else rn ca C_L_law 639 L S M := (rn_at k_L_law_636).trans rnx_ite
theorem k_L_law_639 : lk 639 C_L_law = some (.iconst 1, (0, 0, 0, 0)) := by decide +kernel
theorem s_L_law_639 {ca : Nat → List Value → tM → tO} {M : tM} {L : tL} {S : List Value} : rn ca C_L_law 639 L S M = rn ca C_L_law 640 L (.int (iI 1) :: S) M := (rn_at k_L_law_639).trans rfl
theorem k_L_law_640 : lk 640 C_L_law = some (.goto 4, (644, 0, 0, 0)) := by decide +kernel
theorem s_L_law_640 {ca : Nat → List Value → tM → tO} {M : tM} {L : tL} {S : List Value} : rn ca C_L_law 640 L S M = rn ca C_L_law 644 L S M := (rn_at k_L_law_640).trans rfl
theorem k_L_law_643 : lk 643 C_L_law = some (.iconst 0, (0, 0, 0, 0)) := by decide +kernel
theorem s_L_law_643 {ca : Nat → List Value → tM → tO} {M : tM} {L : tL} {S : List Value} : rn ca C_L_law 643 L S M = rn ca C_L_law 644 L (.int (iI 0) :: S) M := (rn_at k_L_law_643).trans rfl
theorem k_L_law_644 : lk 644 C_L_law = some (.invokevirtual 63, (105, 2, 10, 426)) := by decide +kernel
theorem s_L_law_644 {ca : Nat → List Value → tM → tO} {M : tM} {L : tL} {v1 v2 : Value} {b : Nat} : rn ca C_L_law 644 L [v2, v1, .ref b] M = if clsO b = some 10 then rnk ca C_L_law 647 L [] (ca m_X10_shut [.ref b, v1, v2] M) else none := (rn_at k_L_law_644).trans rnx_ite
theorem k_L_law_647 : lk 647 C_L_law = some (.aload_n 2, (0, 0, 0, 0)) := by decide +kernel
theorem s_L_law_647 {ca : Nat → List Value → tM → tO} {M : tM} {a0 a1 a3 : Option Value} {x : Nat} {S : List Value} : rn ca C_L_law 647 [a0, a1, some (.ref x), a3] S M = rn ca C_L_law 648 [a0, a1, some (.ref x), a3] (.ref x :: S) M := (rn_at k_L_law_647).trans rfl
theorem k_L_law_648 : lk 648 C_L_law = some (.aload_n 0, (0, 0, 0, 0)) := by decide +kernel
theorem s_L_law_648 {ca : Nat → List Value → tM → tO} {M : tM} {a1 a2 a3 : Option Value} {x : Nat} {S : List Value} : rn ca C_L_law 648 [some (.ref x), a1, a2, a3] S M = rn ca C_L_law 649 [some (.ref x), a1, a2, a3] (.ref x :: S) M := (rn_at k_L_law_648).trans rfl
theorem k_L_law_649 : lk 649 C_L_law = some (.iload_n 3, (0, 0, 0, 0)) := by decide +kernel
theorem s_L_law_649 {ca : Nat → List Value → tM → tO} {M : tM} {a0 a1 a2 : Option Value} {x : Int32} {S : List Value} : rn ca C_L_law 649 [a0, a1, a2, some (.int x)] S M = rn ca C_L_law 650 [a0, a1, a2, some (.int x)] (.int x :: S) M := (rn_at k_L_law_649).trans rfl
theorem k_L_law_650 : lk 650 C_L_law = some (.iconst 1, (0, 0, 0, 0)) := by decide +kernel
theorem s_L_law_650 {ca : Nat → List Value → tM → tO} {M : tM} {L : tL} {S : List Value} : rn ca C_L_law 650 L S M = rn ca C_L_law 651 L (.int (iI 1) :: S) M := (rn_at k_L_law_650).trans rfl
theorem k_L_law_651 : lk 651 C_L_law = some (.iadd, (0, 0, 0, 0)) := by decide +kernel
theorem s_L_law_651 {ca : Nat → List Value → tM → tO} {M : tM} {L : tL} {x y : Int32} {S : List Value} : rn ca C_L_law 651 L (.int y :: .int x :: S) M = rn ca C_L_law 652 L (.int (x + y) :: S) M := (rn_at k_L_law_651).trans rfl
theorem k_L_law_652 : lk 652 C_L_law = some (.iaload, (0, 0, 0, 0)) := by decide +kernel
theorem s_L_law_652 {ca : Nat → List Value → tM → tO} {M : tM} {L : tL} {a : Nat} {i : Int32} {S : List Value} : rn ca C_L_law 652 L (.int i :: .ref a :: S) M = if (akind a = 0 ∨ akind a = 6 ∨ akind a = 7) ∧ inb i (alen M a) then rn ca C_L_law 653 L (.int (M.1 a i.toInt.toNat) :: S) M else none := (rn_at k_L_law_652).trans rnx_ite
theorem k_L_law_653 : lk 653 C_L_law = some (.aload_n 0, (0, 0, 0, 0)) := by decide +kernel
theorem s_L_law_653 {ca : Nat → List Value → tM → tO} {M : tM} {a1 a2 a3 : Option Value} {x : Nat} {S : List Value} : rn ca C_L_law 653 [some (.ref x), a1, a2, a3] S M = rn ca C_L_law 654 [some (.ref x), a1, a2, a3] (.ref x :: S) M := (rn_at k_L_law_653).trans rfl
theorem k_L_law_654 : lk 654 C_L_law = some (.iload_n 3, (0, 0, 0, 0)) := by decide +kernel
theorem s_L_law_654 {ca : Nat → List Value → tM → tO} {M : tM} {a0 a1 a2 : Option Value} {x : Int32} {S : List Value} : rn ca C_L_law 654 [a0, a1, a2, some (.int x)] S M = rn ca C_L_law 655 [a0, a1, a2, some (.int x)] (.int x :: S) M := (rn_at k_L_law_654).trans rfl
theorem k_L_law_655 : lk 655 C_L_law = some (.iconst 2, (0, 0, 0, 0)) := by decide +kernel
theorem s_L_law_655 {ca : Nat → List Value → tM → tO} {M : tM} {L : tL} {S : List Value} : rn ca C_L_law 655 L S M = rn ca C_L_law 656 L (.int (iI 2) :: S) M := (rn_at k_L_law_655).trans rfl
theorem k_L_law_656 : lk 656 C_L_law = some (.iadd, (0, 0, 0, 0)) := by decide +kernel
theorem s_L_law_656 {ca : Nat → List Value → tM → tO} {M : tM} {L : tL} {x y : Int32} {S : List Value} : rn ca C_L_law 656 L (.int y :: .int x :: S) M = rn ca C_L_law 657 L (.int (x + y) :: S) M := (rn_at k_L_law_656).trans rfl
theorem k_L_law_657 : lk 657 C_L_law = some (.iaload, (0, 0, 0, 0)) := by decide +kernel
theorem s_L_law_657 {ca : Nat → List Value → tM → tO} {M : tM} {L : tL} {a : Nat} {i : Int32} {S : List Value} : rn ca C_L_law 657 L (.int i :: .ref a :: S) M = if (akind a = 0 ∨ akind a = 6 ∨ akind a = 7) ∧ inb i (alen M a) then rn ca C_L_law 658 L (.int (M.1 a i.toInt.toNat) :: S) M else none := (rn_at k_L_law_657).trans rnx_ite
theorem k_L_law_658 : lk 658 C_L_law = some (.ifCond .eq 7, (665, 0, 0, 0)) := by decide +kernel
theorem s_L_law_658 {ca : Nat → List Value → tM → tO} {M : tM} {L : tL} {x : Int32} {S : List Value} : rn ca C_L_law 658 L (.int x :: S) M = if x = iI 0 then rn ca C_L_law 665 L S M else rn ca C_L_law 661 L S M := (rn_at k_L_law_658).trans rnx_ite
theorem k_L_law_661 : lk 661 C_L_law = some (.iconst 1, (0, 0, 0, 0)) := by decide +kernel
theorem s_L_law_661 {ca : Nat → List Value → tM → tO} {M : tM} {L : tL} {S : List Value} : rn ca C_L_law 661 L S M = rn ca C_L_law 662 L (.int (iI 1) :: S) M := (rn_at k_L_law_661).trans rfl
theorem k_L_law_662 : lk 662 C_L_law = some (.goto 4, (666, 0, 0, 0)) := by decide +kernel
theorem s_L_law_662 {ca : Nat → List Value → tM → tO} {M : tM} {L : tL} {S : List Value} : rn ca C_L_law 662 L S M = rn ca C_L_law 666 L S M := (rn_at k_L_law_662).trans rfl
theorem k_L_law_665 : lk 665 C_L_law = some (.iconst 0, (0, 0, 0, 0)) := by decide +kernel
theorem s_L_law_665 {ca : Nat → List Value → tM → tO} {M : tM} {L : tL} {S : List Value} : rn ca C_L_law 665 L S M = rn ca C_L_law 666 L (.int (iI 0) :: S) M := (rn_at k_L_law_665).trans rfl
theorem k_L_law_666 : lk 666 C_L_law = some (.invokevirtual 67, (165, 2, 11, 436)) := by decide +kernel
theorem s_L_law_666 {ca : Nat → List Value → tM → tO} {M : tM} {L : tL} {v1 v2 : Value} {r0 : Int32} {b : Nat} : rn ca C_L_law 666 L [v2, v1, .ref b, .int r0] M = if clsO b = some 11 then rnk ca C_L_law 669 L [.int r0] (ca m_X11_shut [.ref b, v1, v2] M) else none := (rn_at k_L_law_666).trans rnx_ite
theorem k_L_law_669 : lk 669 C_L_law = some (.if_icmp .eq 895, (1564, 0, 0, 0)) := by decide +kernel
theorem s_L_law_669 {ca : Nat → List Value → tM → tO} {M : tM} {L : tL} {x y : Int32} {S : List Value} : rn ca C_L_law 669 L (.int y :: .int x :: S) M = if x = y then rn ca C_L_law 1564 L S M else rn ca C_L_law 672 L S M := (rn_at k_L_law_669).trans rnx_ite
theorem k_L_law_672 : lk 672 C_L_law = some (.iconst 0, (0, 0, 0, 0)) := by decide +kernel
theorem s_L_law_672 {ca : Nat → List Value → tM → tO} {M : tM} {L : tL} {S : List Value} : rn ca C_L_law 672 L S M = rn ca C_L_law 673 L (.int (iI 0) :: S) M := (rn_at k_L_law_672).trans rfl
theorem k_L_law_673 : lk 673 C_L_law = some (.ireturn, (1, 0, 0, 0)) := by decide +kernel
theorem s_L_law_673 {ca : Nat → List Value → tM → tO} {M : tM} {L : tL} {x : Int32} : rn ca C_L_law 673 L [.int x] M = if x = iI 0 ∨ x = iI 1 then some (some (.int x), M) else none := (rn_at k_L_law_673).trans rnx_ite
theorem k_L_law_674 : lk 674 C_L_law = some (.aload_n 1, (0, 0, 0, 0)) := by decide +kernel
theorem s_L_law_674 {ca : Nat → List Value → tM → tO} {M : tM} {a0 a2 a3 : Option Value} {x : Nat} {S : List Value} : rn ca C_L_law 674 [a0, some (.ref x), a2, a3] S M = rn ca C_L_law 675 [a0, some (.ref x), a2, a3] (.ref x :: S) M := (rn_at k_L_law_674).trans rfl
theorem k_L_law_675 : lk 675 C_L_law = some (.aload_n 0, (0, 0, 0, 0)) := by decide +kernel
theorem s_L_law_675 {ca : Nat → List Value → tM → tO} {M : tM} {a1 a2 a3 : Option Value} {x : Nat} {S : List Value} : rn ca C_L_law 675 [some (.ref x), a1, a2, a3] S M = rn ca C_L_law 676 [some (.ref x), a1, a2, a3] (.ref x :: S) M := (rn_at k_L_law_675).trans rfl
theorem k_L_law_676 : lk 676 C_L_law = some (.iload_n 3, (0, 0, 0, 0)) := by decide +kernel
theorem s_L_law_676 {ca : Nat → List Value → tM → tO} {M : tM} {a0 a1 a2 : Option Value} {x : Int32} {S : List Value} : rn ca C_L_law 676 [a0, a1, a2, some (.int x)] S M = rn ca C_L_law 677 [a0, a1, a2, some (.int x)] (.int x :: S) M := (rn_at k_L_law_676).trans rfl
theorem k_L_law_677 : lk 677 C_L_law = some (.iconst 1, (0, 0, 0, 0)) := by decide +kernel
theorem s_L_law_677 {ca : Nat → List Value → tM → tO} {M : tM} {L : tL} {S : List Value} : rn ca C_L_law 677 L S M = rn ca C_L_law 678 L (.int (iI 1) :: S) M := (rn_at k_L_law_677).trans rfl
theorem k_L_law_678 : lk 678 C_L_law = some (.iadd, (0, 0, 0, 0)) := by decide +kernel
theorem s_L_law_678 {ca : Nat → List Value → tM → tO} {M : tM} {L : tL} {x y : Int32} {S : List Value} : rn ca C_L_law 678 L (.int y :: .int x :: S) M = rn ca C_L_law 679 L (.int (x + y) :: S) M := (rn_at k_L_law_678).trans rfl
theorem k_L_law_679 : lk 679 C_L_law = some (.iaload, (0, 0, 0, 0)) := by decide +kernel
theorem s_L_law_679 {ca : Nat → List Value → tM → tO} {M : tM} {L : tL} {a : Nat} {i : Int32} {S : List Value} : rn ca C_L_law 679 L (.int i :: .ref a :: S) M = if (akind a = 0 ∨ akind a = 6 ∨ akind a = 7) ∧ inb i (alen M a) then rn ca C_L_law 680 L (.int (M.1 a i.toInt.toNat) :: S) M else none := (rn_at k_L_law_679).trans rnx_ite
theorem k_L_law_680 : lk 680 C_L_law = some (.invokevirtual 68, (106, 1, 10, 444)) := by decide +kernel
theorem s_L_law_680 {ca : Nat → List Value → tM → tO} {M : tM} {L : tL} {v1 : Value} {b : Nat} : rn ca C_L_law 680 L [v1, .ref b] M = if clsO b = some 10 then rnk ca C_L_law 683 L [] (ca m_X10_ask [.ref b, v1] M) else none := (rn_at k_L_law_680).trans rnx_ite
theorem k_L_law_683 : lk 683 C_L_law = some (.aload_n 2, (0, 0, 0, 0)) := by decide +kernel
theorem s_L_law_683 {ca : Nat → List Value → tM → tO} {M : tM} {a0 a1 a3 : Option Value} {x : Nat} {S : List Value} : rn ca C_L_law 683 [a0, a1, some (.ref x), a3] S M = rn ca C_L_law 684 [a0, a1, some (.ref x), a3] (.ref x :: S) M := (rn_at k_L_law_683).trans rfl
theorem k_L_law_684 : lk 684 C_L_law = some (.aload_n 0, (0, 0, 0, 0)) := by decide +kernel
theorem s_L_law_684 {ca : Nat → List Value → tM → tO} {M : tM} {a1 a2 a3 : Option Value} {x : Nat} {S : List Value} : rn ca C_L_law 684 [some (.ref x), a1, a2, a3] S M = rn ca C_L_law 685 [some (.ref x), a1, a2, a3] (.ref x :: S) M := (rn_at k_L_law_684).trans rfl
theorem k_L_law_685 : lk 685 C_L_law = some (.iload_n 3, (0, 0, 0, 0)) := by decide +kernel
theorem s_L_law_685 {ca : Nat → List Value → tM → tO} {M : tM} {a0 a1 a2 : Option Value} {x : Int32} {S : List Value} : rn ca C_L_law 685 [a0, a1, a2, some (.int x)] S M = rn ca C_L_law 686 [a0, a1, a2, some (.int x)] (.int x :: S) M := (rn_at k_L_law_685).trans rfl
theorem k_L_law_686 : lk 686 C_L_law = some (.iconst 1, (0, 0, 0, 0)) := by decide +kernel
theorem s_L_law_686 {ca : Nat → List Value → tM → tO} {M : tM} {L : tL} {S : List Value} : rn ca C_L_law 686 L S M = rn ca C_L_law 687 L (.int (iI 1) :: S) M := (rn_at k_L_law_686).trans rfl
theorem k_L_law_687 : lk 687 C_L_law = some (.iadd, (0, 0, 0, 0)) := by decide +kernel
theorem s_L_law_687 {ca : Nat → List Value → tM → tO} {M : tM} {L : tL} {x y : Int32} {S : List Value} : rn ca C_L_law 687 L (.int y :: .int x :: S) M = rn ca C_L_law 688 L (.int (x + y) :: S) M := (rn_at k_L_law_687).trans rfl
theorem k_L_law_688 : lk 688 C_L_law = some (.iaload, (0, 0, 0, 0)) := by decide +kernel
theorem s_L_law_688 {ca : Nat → List Value → tM → tO} {M : tM} {L : tL} {a : Nat} {i : Int32} {S : List Value} : rn ca C_L_law 688 L (.int i :: .ref a :: S) M = if (akind a = 0 ∨ akind a = 6 ∨ akind a = 7) ∧ inb i (alen M a) then rn ca C_L_law 689 L (.int (M.1 a i.toInt.toNat) :: S) M else none := (rn_at k_L_law_688).trans rnx_ite
theorem k_L_law_689 : lk 689 C_L_law = some (.invokevirtual 71, (166, 1, 11, 448)) := by decide +kernel
theorem s_L_law_689 {ca : Nat → List Value → tM → tO} {M : tM} {L : tL} {v1 : Value} {r0 : Int32} {b : Nat} : rn ca C_L_law 689 L [v1, .ref b, .int r0] M = if clsO b = some 11 then rnk ca C_L_law 692 L [.int r0] (ca m_X11_ask [.ref b, v1] M) else none := (rn_at k_L_law_689).trans rnx_ite
theorem k_L_law_692 : lk 692 C_L_law = some (.if_icmp .eq 872, (1564, 0, 0, 0)) := by decide +kernel
theorem s_L_law_692 {ca : Nat → List Value → tM → tO} {M : tM} {L : tL} {x y : Int32} {S : List Value} : rn ca C_L_law 692 L (.int y :: .int x :: S) M = if x = y then rn ca C_L_law 1564 L S M else rn ca C_L_law 695 L S M := (rn_at k_L_law_692).trans rnx_ite
theorem k_L_law_695 : lk 695 C_L_law = some (.iconst 0, (0, 0, 0, 0)) := by decide +kernel
theorem s_L_law_695 {ca : Nat → List Value → tM → tO} {M : tM} {L : tL} {S : List Value} : rn ca C_L_law 695 L S M = rn ca C_L_law 696 L (.int (iI 0) :: S) M := (rn_at k_L_law_695).trans rfl
theorem k_L_law_696 : lk 696 C_L_law = some (.ireturn, (1, 0, 0, 0)) := by decide +kernel
theorem s_L_law_696 {ca : Nat → List Value → tM → tO} {M : tM} {L : tL} {x : Int32} : rn ca C_L_law 696 L [.int x] M = if x = iI 0 ∨ x = iI 1 then some (some (.int x), M) else none := (rn_at k_L_law_696).trans rnx_ite
theorem k_L_law_697 : lk 697 C_L_law = some (.aload_n 1, (0, 0, 0, 0)) := by decide +kernel
theorem s_L_law_697 {ca : Nat → List Value → tM → tO} {M : tM} {a0 a2 a3 : Option Value} {x : Nat} {S : List Value} : rn ca C_L_law 697 [a0, some (.ref x), a2, a3] S M = rn ca C_L_law 698 [a0, some (.ref x), a2, a3] (.ref x :: S) M := (rn_at k_L_law_697).trans rfl
theorem k_L_law_698 : lk 698 C_L_law = some (.aload_n 0, (0, 0, 0, 0)) := by decide +kernel
theorem s_L_law_698 {ca : Nat → List Value → tM → tO} {M : tM} {a1 a2 a3 : Option Value} {x : Nat} {S : List Value} : rn ca C_L_law 698 [some (.ref x), a1, a2, a3] S M = rn ca C_L_law 699 [some (.ref x), a1, a2, a3] (.ref x :: S) M := (rn_at k_L_law_698).trans rfl
theorem k_L_law_699 : lk 699 C_L_law = some (.iload_n 3, (0, 0, 0, 0)) := by decide +kernel
theorem s_L_law_699 {ca : Nat → List Value → tM → tO} {M : tM} {a0 a1 a2 : Option Value} {x : Int32} {S : List Value} : rn ca C_L_law 699 [a0, a1, a2, some (.int x)] S M = rn ca C_L_law 700 [a0, a1, a2, some (.int x)] (.int x :: S) M := (rn_at k_L_law_699).trans rfl
theorem k_L_law_700 : lk 700 C_L_law = some (.iconst 1, (0, 0, 0, 0)) := by decide +kernel
theorem s_L_law_700 {ca : Nat → List Value → tM → tO} {M : tM} {L : tL} {S : List Value} : rn ca C_L_law 700 L S M = rn ca C_L_law 701 L (.int (iI 1) :: S) M := (rn_at k_L_law_700).trans rfl
theorem k_L_law_701 : lk 701 C_L_law = some (.iadd, (0, 0, 0, 0)) := by decide +kernel
theorem s_L_law_701 {ca : Nat → List Value → tM → tO} {M : tM} {L : tL} {x y : Int32} {S : List Value} : rn ca C_L_law 701 L (.int y :: .int x :: S) M = rn ca C_L_law 702 L (.int (x + y) :: S) M := (rn_at k_L_law_701).trans rfl
theorem k_L_law_702 : lk 702 C_L_law = some (.iaload, (0, 0, 0, 0)) := by decide +kernel
theorem s_L_law_702 {ca : Nat → List Value → tM → tO} {M : tM} {L : tL} {a : Nat} {i : Int32} {S : List Value} : rn ca C_L_law 702 L (.int i :: .ref a :: S) M = if (akind a = 0 ∨ akind a = 6 ∨ akind a = 7) ∧ inb i (alen M a) then rn ca C_L_law 703 L (.int (M.1 a i.toInt.toNat) :: S) M else none := (rn_at k_L_law_702).trans rnx_ite
theorem k_L_law_703 : lk 703 C_L_law = some (.aload_n 0, (0, 0, 0, 0)) := by decide +kernel
theorem s_L_law_703 {ca : Nat → List Value → tM → tO} {M : tM} {a1 a2 a3 : Option Value} {x : Nat} {S : List Value} : rn ca C_L_law 703 [some (.ref x), a1, a2, a3] S M = rn ca C_L_law 704 [some (.ref x), a1, a2, a3] (.ref x :: S) M := (rn_at k_L_law_703).trans rfl
theorem k_L_law_704 : lk 704 C_L_law = some (.iload_n 3, (0, 0, 0, 0)) := by decide +kernel
theorem s_L_law_704 {ca : Nat → List Value → tM → tO} {M : tM} {a0 a1 a2 : Option Value} {x : Int32} {S : List Value} : rn ca C_L_law 704 [a0, a1, a2, some (.int x)] S M = rn ca C_L_law 705 [a0, a1, a2, some (.int x)] (.int x :: S) M := (rn_at k_L_law_704).trans rfl
theorem k_L_law_705 : lk 705 C_L_law = some (.iconst 2, (0, 0, 0, 0)) := by decide +kernel
theorem s_L_law_705 {ca : Nat → List Value → tM → tO} {M : tM} {L : tL} {S : List Value} : rn ca C_L_law 705 L S M = rn ca C_L_law 706 L (.int (iI 2) :: S) M := (rn_at k_L_law_705).trans rfl
theorem k_L_law_706 : lk 706 C_L_law = some (.iadd, (0, 0, 0, 0)) := by decide +kernel
theorem s_L_law_706 {ca : Nat → List Value → tM → tO} {M : tM} {L : tL} {x y : Int32} {S : List Value} : rn ca C_L_law 706 L (.int y :: .int x :: S) M = rn ca C_L_law 707 L (.int (x + y) :: S) M := (rn_at k_L_law_706).trans rfl
theorem k_L_law_707 : lk 707 C_L_law = some (.iaload, (0, 0, 0, 0)) := by decide +kernel
theorem s_L_law_707 {ca : Nat → List Value → tM → tO} {M : tM} {L : tL} {a : Nat} {i : Int32} {S : List Value} : rn ca C_L_law 707 L (.int i :: .ref a :: S) M = if (akind a = 0 ∨ akind a = 6 ∨ akind a = 7) ∧ inb i (alen M a) then rn ca C_L_law 708 L (.int (M.1 a i.toInt.toNat) :: S) M else none := (rn_at k_L_law_707).trans rnx_ite
theorem k_L_law_708 : lk 708 C_L_law = some (.invokevirtual 72, (107, 2, 10, 452)) := by decide +kernel
theorem s_L_law_708 {ca : Nat → List Value → tM → tO} {M : tM} {L : tL} {v1 v2 : Value} {b : Nat} : rn ca C_L_law 708 L [v2, v1, .ref b] M = if clsO b = some 10 then rnk ca C_L_law 711 L [] (ca m_X10_capsuleOf [.ref b, v1, v2] M) else none := (rn_at k_L_law_708).trans rnx_ite
theorem k_L_law_711 : lk 711 C_L_law = some (.aload_n 2, (0, 0, 0, 0)) := by decide +kernel
theorem s_L_law_711 {ca : Nat → List Value → tM → tO} {M : tM} {a0 a1 a3 : Option Value} {x : Nat} {S : List Value} : rn ca C_L_law 711 [a0, a1, some (.ref x), a3] S M = rn ca C_L_law 712 [a0, a1, some (.ref x), a3] (.ref x :: S) M := (rn_at k_L_law_711).trans rfl
theorem k_L_law_712 : lk 712 C_L_law = some (.aload_n 0, (0, 0, 0, 0)) := by decide +kernel
theorem s_L_law_712 {ca : Nat → List Value → tM → tO} {M : tM} {a1 a2 a3 : Option Value} {x : Nat} {S : List Value} : rn ca C_L_law 712 [some (.ref x), a1, a2, a3] S M = rn ca C_L_law 713 [some (.ref x), a1, a2, a3] (.ref x :: S) M := (rn_at k_L_law_712).trans rfl
theorem k_L_law_713 : lk 713 C_L_law = some (.iload_n 3, (0, 0, 0, 0)) := by decide +kernel
theorem s_L_law_713 {ca : Nat → List Value → tM → tO} {M : tM} {a0 a1 a2 : Option Value} {x : Int32} {S : List Value} : rn ca C_L_law 713 [a0, a1, a2, some (.int x)] S M = rn ca C_L_law 714 [a0, a1, a2, some (.int x)] (.int x :: S) M := (rn_at k_L_law_713).trans rfl
theorem k_L_law_714 : lk 714 C_L_law = some (.iconst 1, (0, 0, 0, 0)) := by decide +kernel
theorem s_L_law_714 {ca : Nat → List Value → tM → tO} {M : tM} {L : tL} {S : List Value} : rn ca C_L_law 714 L S M = rn ca C_L_law 715 L (.int (iI 1) :: S) M := (rn_at k_L_law_714).trans rfl
theorem k_L_law_715 : lk 715 C_L_law = some (.iadd, (0, 0, 0, 0)) := by decide +kernel
theorem s_L_law_715 {ca : Nat → List Value → tM → tO} {M : tM} {L : tL} {x y : Int32} {S : List Value} : rn ca C_L_law 715 L (.int y :: .int x :: S) M = rn ca C_L_law 716 L (.int (x + y) :: S) M := (rn_at k_L_law_715).trans rfl
theorem k_L_law_716 : lk 716 C_L_law = some (.iaload, (0, 0, 0, 0)) := by decide +kernel
theorem s_L_law_716 {ca : Nat → List Value → tM → tO} {M : tM} {L : tL} {a : Nat} {i : Int32} {S : List Value} : rn ca C_L_law 716 L (.int i :: .ref a :: S) M = if (akind a = 0 ∨ akind a = 6 ∨ akind a = 7) ∧ inb i (alen M a) then rn ca C_L_law 717 L (.int (M.1 a i.toInt.toNat) :: S) M else none := (rn_at k_L_law_716).trans rnx_ite
theorem k_L_law_717 : lk 717 C_L_law = some (.aload_n 0, (0, 0, 0, 0)) := by decide +kernel
theorem s_L_law_717 {ca : Nat → List Value → tM → tO} {M : tM} {a1 a2 a3 : Option Value} {x : Nat} {S : List Value} : rn ca C_L_law 717 [some (.ref x), a1, a2, a3] S M = rn ca C_L_law 718 [some (.ref x), a1, a2, a3] (.ref x :: S) M := (rn_at k_L_law_717).trans rfl
theorem k_L_law_718 : lk 718 C_L_law = some (.iload_n 3, (0, 0, 0, 0)) := by decide +kernel
theorem s_L_law_718 {ca : Nat → List Value → tM → tO} {M : tM} {a0 a1 a2 : Option Value} {x : Int32} {S : List Value} : rn ca C_L_law 718 [a0, a1, a2, some (.int x)] S M = rn ca C_L_law 719 [a0, a1, a2, some (.int x)] (.int x :: S) M := (rn_at k_L_law_718).trans rfl
theorem k_L_law_719 : lk 719 C_L_law = some (.iconst 2, (0, 0, 0, 0)) := by decide +kernel
theorem s_L_law_719 {ca : Nat → List Value → tM → tO} {M : tM} {L : tL} {S : List Value} : rn ca C_L_law 719 L S M = rn ca C_L_law 720 L (.int (iI 2) :: S) M := (rn_at k_L_law_719).trans rfl
theorem k_L_law_720 : lk 720 C_L_law = some (.iadd, (0, 0, 0, 0)) := by decide +kernel
theorem s_L_law_720 {ca : Nat → List Value → tM → tO} {M : tM} {L : tL} {x y : Int32} {S : List Value} : rn ca C_L_law 720 L (.int y :: .int x :: S) M = rn ca C_L_law 721 L (.int (x + y) :: S) M := (rn_at k_L_law_720).trans rfl
theorem k_L_law_721 : lk 721 C_L_law = some (.iaload, (0, 0, 0, 0)) := by decide +kernel
theorem s_L_law_721 {ca : Nat → List Value → tM → tO} {M : tM} {L : tL} {a : Nat} {i : Int32} {S : List Value} : rn ca C_L_law 721 L (.int i :: .ref a :: S) M = if (akind a = 0 ∨ akind a = 6 ∨ akind a = 7) ∧ inb i (alen M a) then rn ca C_L_law 722 L (.int (M.1 a i.toInt.toNat) :: S) M else none := (rn_at k_L_law_721).trans rnx_ite
theorem k_L_law_722 : lk 722 C_L_law = some (.invokevirtual 75, (167, 2, 11, 456)) := by decide +kernel
theorem s_L_law_722 {ca : Nat → List Value → tM → tO} {M : tM} {L : tL} {v1 v2 : Value} {r0 : Int32} {b : Nat} : rn ca C_L_law 722 L [v2, v1, .ref b, .int r0] M = if clsO b = some 11 then rnk ca C_L_law 725 L [.int r0] (ca m_X11_capsuleOf [.ref b, v1, v2] M) else none := (rn_at k_L_law_722).trans rnx_ite
theorem k_L_law_725 : lk 725 C_L_law = some (.if_icmp .eq 839, (1564, 0, 0, 0)) := by decide +kernel
theorem s_L_law_725 {ca : Nat → List Value → tM → tO} {M : tM} {L : tL} {x y : Int32} {S : List Value} : rn ca C_L_law 725 L (.int y :: .int x :: S) M = if x = y then rn ca C_L_law 1564 L S M else rn ca C_L_law 728 L S M := (rn_at k_L_law_725).trans rnx_ite
theorem k_L_law_728 : lk 728 C_L_law = some (.iconst 0, (0, 0, 0, 0)) := by decide +kernel
theorem s_L_law_728 {ca : Nat → List Value → tM → tO} {M : tM} {L : tL} {S : List Value} : rn ca C_L_law 728 L S M = rn ca C_L_law 729 L (.int (iI 0) :: S) M := (rn_at k_L_law_728).trans rfl
theorem k_L_law_729 : lk 729 C_L_law = some (.ireturn, (1, 0, 0, 0)) := by decide +kernel
theorem s_L_law_729 {ca : Nat → List Value → tM → tO} {M : tM} {L : tL} {x : Int32} : rn ca C_L_law 729 L [.int x] M = if x = iI 0 ∨ x = iI 1 then some (some (.int x), M) else none := (rn_at k_L_law_729).trans rnx_ite
theorem k_L_law_730 : lk 730 C_L_law = some (.aload_n 1, (0, 0, 0, 0)) := by decide +kernel
theorem s_L_law_730 {ca : Nat → List Value → tM → tO} {M : tM} {a0 a2 a3 : Option Value} {x : Nat} {S : List Value} : rn ca C_L_law 730 [a0, some (.ref x), a2, a3] S M = rn ca C_L_law 731 [a0, some (.ref x), a2, a3] (.ref x :: S) M := (rn_at k_L_law_730).trans rfl
theorem k_L_law_731 : lk 731 C_L_law = some (.aload_n 0, (0, 0, 0, 0)) := by decide +kernel
theorem s_L_law_731 {ca : Nat → List Value → tM → tO} {M : tM} {a1 a2 a3 : Option Value} {x : Nat} {S : List Value} : rn ca C_L_law 731 [some (.ref x), a1, a2, a3] S M = rn ca C_L_law 732 [some (.ref x), a1, a2, a3] (.ref x :: S) M := (rn_at k_L_law_731).trans rfl
theorem k_L_law_732 : lk 732 C_L_law = some (.iload_n 3, (0, 0, 0, 0)) := by decide +kernel
theorem s_L_law_732 {ca : Nat → List Value → tM → tO} {M : tM} {a0 a1 a2 : Option Value} {x : Int32} {S : List Value} : rn ca C_L_law 732 [a0, a1, a2, some (.int x)] S M = rn ca C_L_law 733 [a0, a1, a2, some (.int x)] (.int x :: S) M := (rn_at k_L_law_732).trans rfl
theorem k_L_law_733 : lk 733 C_L_law = some (.iconst 1, (0, 0, 0, 0)) := by decide +kernel
theorem s_L_law_733 {ca : Nat → List Value → tM → tO} {M : tM} {L : tL} {S : List Value} : rn ca C_L_law 733 L S M = rn ca C_L_law 734 L (.int (iI 1) :: S) M := (rn_at k_L_law_733).trans rfl
theorem k_L_law_734 : lk 734 C_L_law = some (.iadd, (0, 0, 0, 0)) := by decide +kernel
theorem s_L_law_734 {ca : Nat → List Value → tM → tO} {M : tM} {L : tL} {x y : Int32} {S : List Value} : rn ca C_L_law 734 L (.int y :: .int x :: S) M = rn ca C_L_law 735 L (.int (x + y) :: S) M := (rn_at k_L_law_734).trans rfl
theorem k_L_law_735 : lk 735 C_L_law = some (.iaload, (0, 0, 0, 0)) := by decide +kernel
theorem s_L_law_735 {ca : Nat → List Value → tM → tO} {M : tM} {L : tL} {a : Nat} {i : Int32} {S : List Value} : rn ca C_L_law 735 L (.int i :: .ref a :: S) M = if (akind a = 0 ∨ akind a = 6 ∨ akind a = 7) ∧ inb i (alen M a) then rn ca C_L_law 736 L (.int (M.1 a i.toInt.toNat) :: S) M else none := (rn_at k_L_law_735).trans rnx_ite
theorem k_L_law_736 : lk 736 C_L_law = some (.aload_n 0, (0, 0, 0, 0)) := by decide +kernel
theorem s_L_law_736 {ca : Nat → List Value → tM → tO} {M : tM} {a1 a2 a3 : Option Value} {x : Nat} {S : List Value} : rn ca C_L_law 736 [some (.ref x), a1, a2, a3] S M = rn ca C_L_law 737 [some (.ref x), a1, a2, a3] (.ref x :: S) M := (rn_at k_L_law_736).trans rfl
theorem k_L_law_737 : lk 737 C_L_law = some (.iload_n 3, (0, 0, 0, 0)) := by decide +kernel
theorem s_L_law_737 {ca : Nat → List Value → tM → tO} {M : tM} {a0 a1 a2 : Option Value} {x : Int32} {S : List Value} : rn ca C_L_law 737 [a0, a1, a2, some (.int x)] S M = rn ca C_L_law 738 [a0, a1, a2, some (.int x)] (.int x :: S) M := (rn_at k_L_law_737).trans rfl
theorem k_L_law_738 : lk 738 C_L_law = some (.iconst 2, (0, 0, 0, 0)) := by decide +kernel
theorem s_L_law_738 {ca : Nat → List Value → tM → tO} {M : tM} {L : tL} {S : List Value} : rn ca C_L_law 738 L S M = rn ca C_L_law 739 L (.int (iI 2) :: S) M := (rn_at k_L_law_738).trans rfl
theorem k_L_law_739 : lk 739 C_L_law = some (.iadd, (0, 0, 0, 0)) := by decide +kernel
theorem s_L_law_739 {ca : Nat → List Value → tM → tO} {M : tM} {L : tL} {x y : Int32} {S : List Value} : rn ca C_L_law 739 L (.int y :: .int x :: S) M = rn ca C_L_law 740 L (.int (x + y) :: S) M := (rn_at k_L_law_739).trans rfl
theorem k_L_law_740 : lk 740 C_L_law = some (.iaload, (0, 0, 0, 0)) := by decide +kernel
theorem s_L_law_740 {ca : Nat → List Value → tM → tO} {M : tM} {L : tL} {a : Nat} {i : Int32} {S : List Value} : rn ca C_L_law 740 L (.int i :: .ref a :: S) M = if (akind a = 0 ∨ akind a = 6 ∨ akind a = 7) ∧ inb i (alen M a) then rn ca C_L_law 741 L (.int (M.1 a i.toInt.toNat) :: S) M else none := (rn_at k_L_law_740).trans rnx_ite
theorem k_L_law_741 : lk 741 C_L_law = some (.invokevirtual 76, (108, 2, 10, 460)) := by decide +kernel
theorem s_L_law_741 {ca : Nat → List Value → tM → tO} {M : tM} {L : tL} {v1 v2 : Value} {b : Nat} : rn ca C_L_law 741 L [v2, v1, .ref b] M = if clsO b = some 10 then rnk ca C_L_law 744 L [] (ca m_X10_tubeOf [.ref b, v1, v2] M) else none := (rn_at k_L_law_741).trans rnx_ite
theorem k_L_law_744 : lk 744 C_L_law = some (.aload_n 2, (0, 0, 0, 0)) := by decide +kernel
theorem s_L_law_744 {ca : Nat → List Value → tM → tO} {M : tM} {a0 a1 a3 : Option Value} {x : Nat} {S : List Value} : rn ca C_L_law 744 [a0, a1, some (.ref x), a3] S M = rn ca C_L_law 745 [a0, a1, some (.ref x), a3] (.ref x :: S) M := (rn_at k_L_law_744).trans rfl
theorem k_L_law_745 : lk 745 C_L_law = some (.aload_n 0, (0, 0, 0, 0)) := by decide +kernel
theorem s_L_law_745 {ca : Nat → List Value → tM → tO} {M : tM} {a1 a2 a3 : Option Value} {x : Nat} {S : List Value} : rn ca C_L_law 745 [some (.ref x), a1, a2, a3] S M = rn ca C_L_law 746 [some (.ref x), a1, a2, a3] (.ref x :: S) M := (rn_at k_L_law_745).trans rfl
theorem k_L_law_746 : lk 746 C_L_law = some (.iload_n 3, (0, 0, 0, 0)) := by decide +kernel
theorem s_L_law_746 {ca : Nat → List Value → tM → tO} {M : tM} {a0 a1 a2 : Option Value} {x : Int32} {S : List Value} : rn ca C_L_law 746 [a0, a1, a2, some (.int x)] S M = rn ca C_L_law 747 [a0, a1, a2, some (.int x)] (.int x :: S) M := (rn_at k_L_law_746).trans rfl
theorem k_L_law_747 : lk 747 C_L_law = some (.iconst 1, (0, 0, 0, 0)) := by decide +kernel
theorem s_L_law_747 {ca : Nat → List Value → tM → tO} {M : tM} {L : tL} {S : List Value} : rn ca C_L_law 747 L S M = rn ca C_L_law 748 L (.int (iI 1) :: S) M := (rn_at k_L_law_747).trans rfl
theorem k_L_law_748 : lk 748 C_L_law = some (.iadd, (0, 0, 0, 0)) := by decide +kernel
theorem s_L_law_748 {ca : Nat → List Value → tM → tO} {M : tM} {L : tL} {x y : Int32} {S : List Value} : rn ca C_L_law 748 L (.int y :: .int x :: S) M = rn ca C_L_law 749 L (.int (x + y) :: S) M := (rn_at k_L_law_748).trans rfl
theorem k_L_law_749 : lk 749 C_L_law = some (.iaload, (0, 0, 0, 0)) := by decide +kernel
theorem s_L_law_749 {ca : Nat → List Value → tM → tO} {M : tM} {L : tL} {a : Nat} {i : Int32} {S : List Value} : rn ca C_L_law 749 L (.int i :: .ref a :: S) M = if (akind a = 0 ∨ akind a = 6 ∨ akind a = 7) ∧ inb i (alen M a) then rn ca C_L_law 750 L (.int (M.1 a i.toInt.toNat) :: S) M else none := (rn_at k_L_law_749).trans rnx_ite
theorem k_L_law_750 : lk 750 C_L_law = some (.aload_n 0, (0, 0, 0, 0)) := by decide +kernel
theorem s_L_law_750 {ca : Nat → List Value → tM → tO} {M : tM} {a1 a2 a3 : Option Value} {x : Nat} {S : List Value} : rn ca C_L_law 750 [some (.ref x), a1, a2, a3] S M = rn ca C_L_law 751 [some (.ref x), a1, a2, a3] (.ref x :: S) M := (rn_at k_L_law_750).trans rfl
theorem k_L_law_751 : lk 751 C_L_law = some (.iload_n 3, (0, 0, 0, 0)) := by decide +kernel
theorem s_L_law_751 {ca : Nat → List Value → tM → tO} {M : tM} {a0 a1 a2 : Option Value} {x : Int32} {S : List Value} : rn ca C_L_law 751 [a0, a1, a2, some (.int x)] S M = rn ca C_L_law 752 [a0, a1, a2, some (.int x)] (.int x :: S) M := (rn_at k_L_law_751).trans rfl
theorem k_L_law_752 : lk 752 C_L_law = some (.iconst 2, (0, 0, 0, 0)) := by decide +kernel
theorem s_L_law_752 {ca : Nat → List Value → tM → tO} {M : tM} {L : tL} {S : List Value} : rn ca C_L_law 752 L S M = rn ca C_L_law 753 L (.int (iI 2) :: S) M := (rn_at k_L_law_752).trans rfl
theorem k_L_law_753 : lk 753 C_L_law = some (.iadd, (0, 0, 0, 0)) := by decide +kernel
theorem s_L_law_753 {ca : Nat → List Value → tM → tO} {M : tM} {L : tL} {x y : Int32} {S : List Value} : rn ca C_L_law 753 L (.int y :: .int x :: S) M = rn ca C_L_law 754 L (.int (x + y) :: S) M := (rn_at k_L_law_753).trans rfl
theorem k_L_law_754 : lk 754 C_L_law = some (.iaload, (0, 0, 0, 0)) := by decide +kernel
theorem s_L_law_754 {ca : Nat → List Value → tM → tO} {M : tM} {L : tL} {a : Nat} {i : Int32} {S : List Value} : rn ca C_L_law 754 L (.int i :: .ref a :: S) M = if (akind a = 0 ∨ akind a = 6 ∨ akind a = 7) ∧ inb i (alen M a) then rn ca C_L_law 755 L (.int (M.1 a i.toInt.toNat) :: S) M else none := (rn_at k_L_law_754).trans rnx_ite
theorem k_L_law_755 : lk 755 C_L_law = some (.invokevirtual 79, (168, 2, 11, 464)) := by decide +kernel
theorem s_L_law_755 {ca : Nat → List Value → tM → tO} {M : tM} {L : tL} {v1 v2 : Value} {r0 : Int32} {b : Nat} : rn ca C_L_law 755 L [v2, v1, .ref b, .int r0] M = if clsO b = some 11 then rnk ca C_L_law 758 L [.int r0] (ca m_X11_tubeOf [.ref b, v1, v2] M) else none := (rn_at k_L_law_755).trans rnx_ite
theorem k_L_law_758 : lk 758 C_L_law = some (.if_icmp .eq 806, (1564, 0, 0, 0)) := by decide +kernel
theorem s_L_law_758 {ca : Nat → List Value → tM → tO} {M : tM} {L : tL} {x y : Int32} {S : List Value} : rn ca C_L_law 758 L (.int y :: .int x :: S) M = if x = y then rn ca C_L_law 1564 L S M else rn ca C_L_law 761 L S M := (rn_at k_L_law_758).trans rnx_ite
theorem k_L_law_761 : lk 761 C_L_law = some (.iconst 0, (0, 0, 0, 0)) := by decide +kernel
theorem s_L_law_761 {ca : Nat → List Value → tM → tO} {M : tM} {L : tL} {S : List Value} : rn ca C_L_law 761 L S M = rn ca C_L_law 762 L (.int (iI 0) :: S) M := (rn_at k_L_law_761).trans rfl
theorem k_L_law_762 : lk 762 C_L_law = some (.ireturn, (1, 0, 0, 0)) := by decide +kernel
theorem s_L_law_762 {ca : Nat → List Value → tM → tO} {M : tM} {L : tL} {x : Int32} : rn ca C_L_law 762 L [.int x] M = if x = iI 0 ∨ x = iI 1 then some (some (.int x), M) else none := (rn_at k_L_law_762).trans rnx_ite
theorem k_L_law_763 : lk 763 C_L_law = some (.aload_n 1, (0, 0, 0, 0)) := by decide +kernel
theorem s_L_law_763 {ca : Nat → List Value → tM → tO} {M : tM} {a0 a2 a3 : Option Value} {x : Nat} {S : List Value} : rn ca C_L_law 763 [a0, some (.ref x), a2, a3] S M = rn ca C_L_law 764 [a0, some (.ref x), a2, a3] (.ref x :: S) M := (rn_at k_L_law_763).trans rfl
theorem k_L_law_764 : lk 764 C_L_law = some (.aload_n 0, (0, 0, 0, 0)) := by decide +kernel
theorem s_L_law_764 {ca : Nat → List Value → tM → tO} {M : tM} {a1 a2 a3 : Option Value} {x : Nat} {S : List Value} : rn ca C_L_law 764 [some (.ref x), a1, a2, a3] S M = rn ca C_L_law 765 [some (.ref x), a1, a2, a3] (.ref x :: S) M := (rn_at k_L_law_764).trans rfl
theorem k_L_law_765 : lk 765 C_L_law = some (.iload_n 3, (0, 0, 0, 0)) := by decide +kernel
theorem s_L_law_765 {ca : Nat → List Value → tM → tO} {M : tM} {a0 a1 a2 : Option Value} {x : Int32} {S : List Value} : rn ca C_L_law 765 [a0, a1, a2, some (.int x)] S M = rn ca C_L_law 766 [a0, a1, a2, some (.int x)] (.int x :: S) M := (rn_at k_L_law_765).trans rfl
theorem k_L_law_766 : lk 766 C_L_law = some (.iconst 1, (0, 0, 0, 0)) := by decide +kernel
theorem s_L_law_766 {ca : Nat → List Value → tM → tO} {M : tM} {L : tL} {S : List Value} : rn ca C_L_law 766 L S M = rn ca C_L_law 767 L (.int (iI 1) :: S) M := (rn_at k_L_law_766).trans rfl
theorem k_L_law_767 : lk 767 C_L_law = some (.iadd, (0, 0, 0, 0)) := by decide +kernel
theorem s_L_law_767 {ca : Nat → List Value → tM → tO} {M : tM} {L : tL} {x y : Int32} {S : List Value} : rn ca C_L_law 767 L (.int y :: .int x :: S) M = rn ca C_L_law 768 L (.int (x + y) :: S) M := (rn_at k_L_law_767).trans rfl
theorem k_L_law_768 : lk 768 C_L_law = some (.iaload, (0, 0, 0, 0)) := by decide +kernel
theorem s_L_law_768 {ca : Nat → List Value → tM → tO} {M : tM} {L : tL} {a : Nat} {i : Int32} {S : List Value} : rn ca C_L_law 768 L (.int i :: .ref a :: S) M = if (akind a = 0 ∨ akind a = 6 ∨ akind a = 7) ∧ inb i (alen M a) then rn ca C_L_law 769 L (.int (M.1 a i.toInt.toNat) :: S) M else none := (rn_at k_L_law_768).trans rnx_ite
theorem k_L_law_769 : lk 769 C_L_law = some (.invokevirtual 80, (109, 1, 10, 469)) := by decide +kernel
theorem s_L_law_769 {ca : Nat → List Value → tM → tO} {M : tM} {L : tL} {v1 : Value} {b : Nat} : rn ca C_L_law 769 L [v1, .ref b] M = if clsO b = some 10 then rnk ca C_L_law 772 L [] (ca m_X10_signed [.ref b, v1] M) else none := (rn_at k_L_law_769).trans rnx_ite
theorem k_L_law_772 : lk 772 C_L_law = some (.aload_n 2, (0, 0, 0, 0)) := by decide +kernel
theorem s_L_law_772 {ca : Nat → List Value → tM → tO} {M : tM} {a0 a1 a3 : Option Value} {x : Nat} {S : List Value} : rn ca C_L_law 772 [a0, a1, some (.ref x), a3] S M = rn ca C_L_law 773 [a0, a1, some (.ref x), a3] (.ref x :: S) M := (rn_at k_L_law_772).trans rfl
theorem k_L_law_773 : lk 773 C_L_law = some (.aload_n 0, (0, 0, 0, 0)) := by decide +kernel
theorem s_L_law_773 {ca : Nat → List Value → tM → tO} {M : tM} {a1 a2 a3 : Option Value} {x : Nat} {S : List Value} : rn ca C_L_law 773 [some (.ref x), a1, a2, a3] S M = rn ca C_L_law 774 [some (.ref x), a1, a2, a3] (.ref x :: S) M := (rn_at k_L_law_773).trans rfl
theorem k_L_law_774 : lk 774 C_L_law = some (.iload_n 3, (0, 0, 0, 0)) := by decide +kernel
theorem s_L_law_774 {ca : Nat → List Value → tM → tO} {M : tM} {a0 a1 a2 : Option Value} {x : Int32} {S : List Value} : rn ca C_L_law 774 [a0, a1, a2, some (.int x)] S M = rn ca C_L_law 775 [a0, a1, a2, some (.int x)] (.int x :: S) M := (rn_at k_L_law_774).trans rfl
theorem k_L_law_775 : lk 775 C_L_law = some (.iconst 1, (0, 0, 0, 0)) := by decide +kernel
theorem s_L_law_775 {ca : Nat → List Value → tM → tO} {M : tM} {L : tL} {S : List Value} : rn ca C_L_law 775 L S M = rn ca C_L_law 776 L (.int (iI 1) :: S) M := (rn_at k_L_law_775).trans rfl
theorem k_L_law_776 : lk 776 C_L_law = some (.iadd, (0, 0, 0, 0)) := by decide +kernel
theorem s_L_law_776 {ca : Nat → List Value → tM → tO} {M : tM} {L : tL} {x y : Int32} {S : List Value} : rn ca C_L_law 776 L (.int y :: .int x :: S) M = rn ca C_L_law 777 L (.int (x + y) :: S) M := (rn_at k_L_law_776).trans rfl
theorem k_L_law_777 : lk 777 C_L_law = some (.iaload, (0, 0, 0, 0)) := by decide +kernel
theorem s_L_law_777 {ca : Nat → List Value → tM → tO} {M : tM} {L : tL} {a : Nat} {i : Int32} {S : List Value} : rn ca C_L_law 777 L (.int i :: .ref a :: S) M = if (akind a = 0 ∨ akind a = 6 ∨ akind a = 7) ∧ inb i (alen M a) then rn ca C_L_law 778 L (.int (M.1 a i.toInt.toNat) :: S) M else none := (rn_at k_L_law_777).trans rnx_ite
theorem k_L_law_778 : lk 778 C_L_law = some (.invokevirtual 83, (169, 1, 11, 473)) := by decide +kernel
theorem s_L_law_778 {ca : Nat → List Value → tM → tO} {M : tM} {L : tL} {v1 : Value} {r0 : Int32} {b : Nat} : rn ca C_L_law 778 L [v1, .ref b, .int r0] M = if clsO b = some 11 then rnk ca C_L_law 781 L [.int r0] (ca m_X11_signed [.ref b, v1] M) else none := (rn_at k_L_law_778).trans rnx_ite
theorem k_L_law_781 : lk 781 C_L_law = some (.if_icmp .eq 783, (1564, 0, 0, 0)) := by decide +kernel
theorem s_L_law_781 {ca : Nat → List Value → tM → tO} {M : tM} {L : tL} {x y : Int32} {S : List Value} : rn ca C_L_law 781 L (.int y :: .int x :: S) M = if x = y then rn ca C_L_law 1564 L S M else rn ca C_L_law 784 L S M := (rn_at k_L_law_781).trans rnx_ite
theorem k_L_law_784 : lk 784 C_L_law = some (.iconst 0, (0, 0, 0, 0)) := by decide +kernel
theorem s_L_law_784 {ca : Nat → List Value → tM → tO} {M : tM} {L : tL} {S : List Value} : rn ca C_L_law 784 L S M = rn ca C_L_law 785 L (.int (iI 0) :: S) M := (rn_at k_L_law_784).trans rfl
theorem k_L_law_785 : lk 785 C_L_law = some (.ireturn, (1, 0, 0, 0)) := by decide +kernel
theorem s_L_law_785 {ca : Nat → List Value → tM → tO} {M : tM} {L : tL} {x : Int32} : rn ca C_L_law 785 L [.int x] M = if x = iI 0 ∨ x = iI 1 then some (some (.int x), M) else none := (rn_at k_L_law_785).trans rnx_ite
theorem k_L_law_786 : lk 786 C_L_law = some (.aload_n 1, (0, 0, 0, 0)) := by decide +kernel
theorem s_L_law_786 {ca : Nat → List Value → tM → tO} {M : tM} {a0 a2 a3 : Option Value} {x : Nat} {S : List Value} : rn ca C_L_law 786 [a0, some (.ref x), a2, a3] S M = rn ca C_L_law 787 [a0, some (.ref x), a2, a3] (.ref x :: S) M := (rn_at k_L_law_786).trans rfl
theorem k_L_law_787 : lk 787 C_L_law = some (.aload_n 0, (0, 0, 0, 0)) := by decide +kernel
theorem s_L_law_787 {ca : Nat → List Value → tM → tO} {M : tM} {a1 a2 a3 : Option Value} {x : Nat} {S : List Value} : rn ca C_L_law 787 [some (.ref x), a1, a2, a3] S M = rn ca C_L_law 788 [some (.ref x), a1, a2, a3] (.ref x :: S) M := (rn_at k_L_law_787).trans rfl
theorem k_L_law_788 : lk 788 C_L_law = some (.iload_n 3, (0, 0, 0, 0)) := by decide +kernel
theorem s_L_law_788 {ca : Nat → List Value → tM → tO} {M : tM} {a0 a1 a2 : Option Value} {x : Int32} {S : List Value} : rn ca C_L_law 788 [a0, a1, a2, some (.int x)] S M = rn ca C_L_law 789 [a0, a1, a2, some (.int x)] (.int x :: S) M := (rn_at k_L_law_788).trans rfl
theorem k_L_law_789 : lk 789 C_L_law = some (.iconst 1, (0, 0, 0, 0)) := by decide +kernel
theorem s_L_law_789 {ca : Nat → List Value → tM → tO} {M : tM} {L : tL} {S : List Value} : rn ca C_L_law 789 L S M = rn ca C_L_law 790 L (.int (iI 1) :: S) M := (rn_at k_L_law_789).trans rfl
theorem k_L_law_790 : lk 790 C_L_law = some (.iadd, (0, 0, 0, 0)) := by decide +kernel
theorem s_L_law_790 {ca : Nat → List Value → tM → tO} {M : tM} {L : tL} {x y : Int32} {S : List Value} : rn ca C_L_law 790 L (.int y :: .int x :: S) M = rn ca C_L_law 791 L (.int (x + y) :: S) M := (rn_at k_L_law_790).trans rfl
theorem k_L_law_791 : lk 791 C_L_law = some (.iaload, (0, 0, 0, 0)) := by decide +kernel
theorem s_L_law_791 {ca : Nat → List Value → tM → tO} {M : tM} {L : tL} {a : Nat} {i : Int32} {S : List Value} : rn ca C_L_law 791 L (.int i :: .ref a :: S) M = if (akind a = 0 ∨ akind a = 6 ∨ akind a = 7) ∧ inb i (alen M a) then rn ca C_L_law 792 L (.int (M.1 a i.toInt.toNat) :: S) M else none := (rn_at k_L_law_791).trans rnx_ite
theorem k_L_law_792 : lk 792 C_L_law = some (.invokevirtual 84, (110, 1, 10, 477)) := by decide +kernel
theorem s_L_law_792 {ca : Nat → List Value → tM → tO} {M : tM} {L : tL} {v1 : Value} {b : Nat} : rn ca C_L_law 792 L [v1, .ref b] M = if clsO b = some 10 then rnk ca C_L_law 795 L [] (ca m_X10_plan [.ref b, v1] M) else none := (rn_at k_L_law_792).trans rnx_ite
theorem k_L_law_795 : lk 795 C_L_law = some (.aload_n 2, (0, 0, 0, 0)) := by decide +kernel
theorem s_L_law_795 {ca : Nat → List Value → tM → tO} {M : tM} {a0 a1 a3 : Option Value} {x : Nat} {S : List Value} : rn ca C_L_law 795 [a0, a1, some (.ref x), a3] S M = rn ca C_L_law 796 [a0, a1, some (.ref x), a3] (.ref x :: S) M := (rn_at k_L_law_795).trans rfl
theorem k_L_law_796 : lk 796 C_L_law = some (.aload_n 0, (0, 0, 0, 0)) := by decide +kernel
theorem s_L_law_796 {ca : Nat → List Value → tM → tO} {M : tM} {a1 a2 a3 : Option Value} {x : Nat} {S : List Value} : rn ca C_L_law 796 [some (.ref x), a1, a2, a3] S M = rn ca C_L_law 797 [some (.ref x), a1, a2, a3] (.ref x :: S) M := (rn_at k_L_law_796).trans rfl
theorem k_L_law_797 : lk 797 C_L_law = some (.iload_n 3, (0, 0, 0, 0)) := by decide +kernel
theorem s_L_law_797 {ca : Nat → List Value → tM → tO} {M : tM} {a0 a1 a2 : Option Value} {x : Int32} {S : List Value} : rn ca C_L_law 797 [a0, a1, a2, some (.int x)] S M = rn ca C_L_law 798 [a0, a1, a2, some (.int x)] (.int x :: S) M := (rn_at k_L_law_797).trans rfl
theorem k_L_law_798 : lk 798 C_L_law = some (.iconst 1, (0, 0, 0, 0)) := by decide +kernel
theorem s_L_law_798 {ca : Nat → List Value → tM → tO} {M : tM} {L : tL} {S : List Value} : rn ca C_L_law 798 L S M = rn ca C_L_law 799 L (.int (iI 1) :: S) M := (rn_at k_L_law_798).trans rfl
theorem k_L_law_799 : lk 799 C_L_law = some (.iadd, (0, 0, 0, 0)) := by decide +kernel
theorem s_L_law_799 {ca : Nat → List Value → tM → tO} {M : tM} {L : tL} {x y : Int32} {S : List Value} : rn ca C_L_law 799 L (.int y :: .int x :: S) M = rn ca C_L_law 800 L (.int (x + y) :: S) M := (rn_at k_L_law_799).trans rfl
theorem k_L_law_800 : lk 800 C_L_law = some (.iaload, (0, 0, 0, 0)) := by decide +kernel
theorem s_L_law_800 {ca : Nat → List Value → tM → tO} {M : tM} {L : tL} {a : Nat} {i : Int32} {S : List Value} : rn ca C_L_law 800 L (.int i :: .ref a :: S) M = if (akind a = 0 ∨ akind a = 6 ∨ akind a = 7) ∧ inb i (alen M a) then rn ca C_L_law 801 L (.int (M.1 a i.toInt.toNat) :: S) M else none := (rn_at k_L_law_800).trans rnx_ite
theorem k_L_law_801 : lk 801 C_L_law = some (.invokevirtual 87, (187, 1, 11, 610)) := by decide +kernel
theorem s_L_law_801 {ca : Nat → List Value → tM → tO} {M : tM} {L : tL} {v1 : Value} {r0 : Int32} {b : Nat} : rn ca C_L_law 801 L [v1, .ref b, .int r0] M = if clsO b = some 11 then rnk ca C_L_law 804 L [.int r0] (ca m_X11_plan [.ref b, v1] M) else none := (rn_at k_L_law_801).trans rnx_ite
theorem k_L_law_804 : lk 804 C_L_law = some (.if_icmp .eq 760, (1564, 0, 0, 0)) := by decide +kernel
theorem s_L_law_804 {ca : Nat → List Value → tM → tO} {M : tM} {L : tL} {x y : Int32} {S : List Value} : rn ca C_L_law 804 L (.int y :: .int x :: S) M = if x = y then rn ca C_L_law 1564 L S M else rn ca C_L_law 807 L S M := (rn_at k_L_law_804).trans rnx_ite
theorem k_L_law_807 : lk 807 C_L_law = some (.iconst 0, (0, 0, 0, 0)) := by decide +kernel
theorem s_L_law_807 {ca : Nat → List Value → tM → tO} {M : tM} {L : tL} {S : List Value} : rn ca C_L_law 807 L S M = rn ca C_L_law 808 L (.int (iI 0) :: S) M := (rn_at k_L_law_807).trans rfl
theorem k_L_law_808 : lk 808 C_L_law = some (.ireturn, (1, 0, 0, 0)) := by decide +kernel
theorem s_L_law_808 {ca : Nat → List Value → tM → tO} {M : tM} {L : tL} {x : Int32} : rn ca C_L_law 808 L [.int x] M = if x = iI 0 ∨ x = iI 1 then some (some (.int x), M) else none := (rn_at k_L_law_808).trans rnx_ite
theorem k_L_law_809 : lk 809 C_L_law = some (.aload_n 1, (0, 0, 0, 0)) := by decide +kernel
theorem s_L_law_809 {ca : Nat → List Value → tM → tO} {M : tM} {a0 a2 a3 : Option Value} {x : Nat} {S : List Value} : rn ca C_L_law 809 [a0, some (.ref x), a2, a3] S M = rn ca C_L_law 810 [a0, some (.ref x), a2, a3] (.ref x :: S) M := (rn_at k_L_law_809).trans rfl
theorem k_L_law_810 : lk 810 C_L_law = some (.invokevirtual 88, (111, 0, 10, 651)) := by decide +kernel
theorem s_L_law_810 {ca : Nat → List Value → tM → tO} {M : tM} {L : tL} {b : Nat} : rn ca C_L_law 810 L [.ref b] M = if clsO b = some 10 then rnk ca C_L_law 813 L [] (ca m_X10_fault [.ref b] M) else none := (rn_at k_L_law_810).trans rnx_ite
theorem k_L_law_813 : lk 813 C_L_law = some (.aload_n 2, (0, 0, 0, 0)) := by decide +kernel
theorem s_L_law_813 {ca : Nat → List Value → tM → tO} {M : tM} {a0 a1 a3 : Option Value} {x : Nat} {S : List Value} : rn ca C_L_law 813 [a0, a1, some (.ref x), a3] S M = rn ca C_L_law 814 [a0, a1, some (.ref x), a3] (.ref x :: S) M := (rn_at k_L_law_813).trans rfl
theorem k_L_law_814 : lk 814 C_L_law = some (.invokevirtual 91, (188, 0, 11, 655)) := by decide +kernel
theorem s_L_law_814 {ca : Nat → List Value → tM → tO} {M : tM} {L : tL} {r0 : Int32} {b : Nat} : rn ca C_L_law 814 L [.ref b, .int r0] M = if clsO b = some 11 then rnk ca C_L_law 817 L [.int r0] (ca m_X11_fault [.ref b] M) else none := (rn_at k_L_law_814).trans rnx_ite
theorem k_L_law_817 : lk 817 C_L_law = some (.if_icmp .eq 747, (1564, 0, 0, 0)) := by decide +kernel
theorem s_L_law_817 {ca : Nat → List Value → tM → tO} {M : tM} {L : tL} {x y : Int32} {S : List Value} : rn ca C_L_law 817 L (.int y :: .int x :: S) M = if x = y then rn ca C_L_law 1564 L S M else rn ca C_L_law 820 L S M := (rn_at k_L_law_817).trans rnx_ite
theorem k_L_law_820 : lk 820 C_L_law = some (.iconst 0, (0, 0, 0, 0)) := by decide +kernel
theorem s_L_law_820 {ca : Nat → List Value → tM → tO} {M : tM} {L : tL} {S : List Value} : rn ca C_L_law 820 L S M = rn ca C_L_law 821 L (.int (iI 0) :: S) M := (rn_at k_L_law_820).trans rfl
theorem k_L_law_821 : lk 821 C_L_law = some (.ireturn, (1, 0, 0, 0)) := by decide +kernel
theorem s_L_law_821 {ca : Nat → List Value → tM → tO} {M : tM} {L : tL} {x : Int32} : rn ca C_L_law 821 L [.int x] M = if x = iI 0 ∨ x = iI 1 then some (some (.int x), M) else none := (rn_at k_L_law_821).trans rnx_ite
theorem k_L_law_822 : lk 822 C_L_law = some (.aload_n 1, (0, 0, 0, 0)) := by decide +kernel
theorem s_L_law_822 {ca : Nat → List Value → tM → tO} {M : tM} {a0 a2 a3 : Option Value} {x : Nat} {S : List Value} : rn ca C_L_law 822 [a0, some (.ref x), a2, a3] S M = rn ca C_L_law 823 [a0, some (.ref x), a2, a3] (.ref x :: S) M := (rn_at k_L_law_822).trans rfl
theorem k_L_law_823 : lk 823 C_L_law = some (.aload_n 0, (0, 0, 0, 0)) := by decide +kernel
theorem s_L_law_823 {ca : Nat → List Value → tM → tO} {M : tM} {a1 a2 a3 : Option Value} {x : Nat} {S : List Value} : rn ca C_L_law 823 [some (.ref x), a1, a2, a3] S M = rn ca C_L_law 824 [some (.ref x), a1, a2, a3] (.ref x :: S) M := (rn_at k_L_law_823).trans rfl
theorem k_L_law_824 : lk 824 C_L_law = some (.iload_n 3, (0, 0, 0, 0)) := by decide +kernel
theorem s_L_law_824 {ca : Nat → List Value → tM → tO} {M : tM} {a0 a1 a2 : Option Value} {x : Int32} {S : List Value} : rn ca C_L_law 824 [a0, a1, a2, some (.int x)] S M = rn ca C_L_law 825 [a0, a1, a2, some (.int x)] (.int x :: S) M := (rn_at k_L_law_824).trans rfl
theorem k_L_law_825 : lk 825 C_L_law = some (.iconst 1, (0, 0, 0, 0)) := by decide +kernel
theorem s_L_law_825 {ca : Nat → List Value → tM → tO} {M : tM} {L : tL} {S : List Value} : rn ca C_L_law 825 L S M = rn ca C_L_law 826 L (.int (iI 1) :: S) M := (rn_at k_L_law_825).trans rfl
theorem k_L_law_826 : lk 826 C_L_law = some (.iadd, (0, 0, 0, 0)) := by decide +kernel
theorem s_L_law_826 {ca : Nat → List Value → tM → tO} {M : tM} {L : tL} {x y : Int32} {S : List Value} : rn ca C_L_law 826 L (.int y :: .int x :: S) M = rn ca C_L_law 827 L (.int (x + y) :: S) M := (rn_at k_L_law_826).trans rfl
theorem k_L_law_827 : lk 827 C_L_law = some (.iaload, (0, 0, 0, 0)) := by decide +kernel
theorem s_L_law_827 {ca : Nat → List Value → tM → tO} {M : tM} {L : tL} {a : Nat} {i : Int32} {S : List Value} : rn ca C_L_law 827 L (.int i :: .ref a :: S) M = if (akind a = 0 ∨ akind a = 6 ∨ akind a = 7) ∧ inb i (alen M a) then rn ca C_L_law 828 L (.int (M.1 a i.toInt.toNat) :: S) M else none := (rn_at k_L_law_827).trans rnx_ite
theorem k_L_law_828 : lk 828 C_L_law = some (.aload_n 0, (0, 0, 0, 0)) := by decide +kernel
theorem s_L_law_828 {ca : Nat → List Value → tM → tO} {M : tM} {a1 a2 a3 : Option Value} {x : Nat} {S : List Value} : rn ca C_L_law 828 [some (.ref x), a1, a2, a3] S M = rn ca C_L_law 829 [some (.ref x), a1, a2, a3] (.ref x :: S) M := (rn_at k_L_law_828).trans rfl
theorem k_L_law_829 : lk 829 C_L_law = some (.iload_n 3, (0, 0, 0, 0)) := by decide +kernel
theorem s_L_law_829 {ca : Nat → List Value → tM → tO} {M : tM} {a0 a1 a2 : Option Value} {x : Int32} {S : List Value} : rn ca C_L_law 829 [a0, a1, a2, some (.int x)] S M = rn ca C_L_law 830 [a0, a1, a2, some (.int x)] (.int x :: S) M := (rn_at k_L_law_829).trans rfl
theorem k_L_law_830 : lk 830 C_L_law = some (.iconst 2, (0, 0, 0, 0)) := by decide +kernel
theorem s_L_law_830 {ca : Nat → List Value → tM → tO} {M : tM} {L : tL} {S : List Value} : rn ca C_L_law 830 L S M = rn ca C_L_law 831 L (.int (iI 2) :: S) M := (rn_at k_L_law_830).trans rfl
theorem k_L_law_831 : lk 831 C_L_law = some (.iadd, (0, 0, 0, 0)) := by decide +kernel
theorem s_L_law_831 {ca : Nat → List Value → tM → tO} {M : tM} {L : tL} {x y : Int32} {S : List Value} : rn ca C_L_law 831 L (.int y :: .int x :: S) M = rn ca C_L_law 832 L (.int (x + y) :: S) M := (rn_at k_L_law_831).trans rfl
theorem k_L_law_832 : lk 832 C_L_law = some (.iaload, (0, 0, 0, 0)) := by decide +kernel
theorem s_L_law_832 {ca : Nat → List Value → tM → tO} {M : tM} {L : tL} {a : Nat} {i : Int32} {S : List Value} : rn ca C_L_law 832 L (.int i :: .ref a :: S) M = if (akind a = 0 ∨ akind a = 6 ∨ akind a = 7) ∧ inb i (alen M a) then rn ca C_L_law 833 L (.int (M.1 a i.toInt.toNat) :: S) M else none := (rn_at k_L_law_832).trans rnx_ite
theorem k_L_law_833 : lk 833 C_L_law = some (.invokevirtual 92, (112, 2, 10, 659)) := by decide +kernel
theorem s_L_law_833 {ca : Nat → List Value → tM → tO} {M : tM} {L : tL} {v1 v2 : Value} {b : Nat} : rn ca C_L_law 833 L [v2, v1, .ref b] M = if clsO b = some 10 then rnk ca C_L_law 836 L [] (ca m_X10_time [.ref b, v1, v2] M) else none := (rn_at k_L_law_833).trans rnx_ite
theorem k_L_law_836 : lk 836 C_L_law = some (.aload_n 2, (0, 0, 0, 0)) := by decide +kernel
theorem s_L_law_836 {ca : Nat → List Value → tM → tO} {M : tM} {a0 a1 a3 : Option Value} {x : Nat} {S : List Value} : rn ca C_L_law 836 [a0, a1, some (.ref x), a3] S M = rn ca C_L_law 837 [a0, a1, some (.ref x), a3] (.ref x :: S) M := (rn_at k_L_law_836).trans rfl
theorem k_L_law_837 : lk 837 C_L_law = some (.aload_n 0, (0, 0, 0, 0)) := by decide +kernel
theorem s_L_law_837 {ca : Nat → List Value → tM → tO} {M : tM} {a1 a2 a3 : Option Value} {x : Nat} {S : List Value} : rn ca C_L_law 837 [some (.ref x), a1, a2, a3] S M = rn ca C_L_law 838 [some (.ref x), a1, a2, a3] (.ref x :: S) M := (rn_at k_L_law_837).trans rfl
theorem k_L_law_838 : lk 838 C_L_law = some (.iload_n 3, (0, 0, 0, 0)) := by decide +kernel
theorem s_L_law_838 {ca : Nat → List Value → tM → tO} {M : tM} {a0 a1 a2 : Option Value} {x : Int32} {S : List Value} : rn ca C_L_law 838 [a0, a1, a2, some (.int x)] S M = rn ca C_L_law 839 [a0, a1, a2, some (.int x)] (.int x :: S) M := (rn_at k_L_law_838).trans rfl
theorem k_L_law_839 : lk 839 C_L_law = some (.iconst 1, (0, 0, 0, 0)) := by decide +kernel
theorem s_L_law_839 {ca : Nat → List Value → tM → tO} {M : tM} {L : tL} {S : List Value} : rn ca C_L_law 839 L S M = rn ca C_L_law 840 L (.int (iI 1) :: S) M := (rn_at k_L_law_839).trans rfl
theorem k_L_law_840 : lk 840 C_L_law = some (.iadd, (0, 0, 0, 0)) := by decide +kernel
theorem s_L_law_840 {ca : Nat → List Value → tM → tO} {M : tM} {L : tL} {x y : Int32} {S : List Value} : rn ca C_L_law 840 L (.int y :: .int x :: S) M = rn ca C_L_law 841 L (.int (x + y) :: S) M := (rn_at k_L_law_840).trans rfl
theorem k_L_law_841 : lk 841 C_L_law = some (.iaload, (0, 0, 0, 0)) := by decide +kernel
theorem s_L_law_841 {ca : Nat → List Value → tM → tO} {M : tM} {L : tL} {a : Nat} {i : Int32} {S : List Value} : rn ca C_L_law 841 L (.int i :: .ref a :: S) M = if (akind a = 0 ∨ akind a = 6 ∨ akind a = 7) ∧ inb i (alen M a) then rn ca C_L_law 842 L (.int (M.1 a i.toInt.toNat) :: S) M else none := (rn_at k_L_law_841).trans rnx_ite
theorem k_L_law_842 : lk 842 C_L_law = some (.aload_n 0, (0, 0, 0, 0)) := by decide +kernel
theorem s_L_law_842 {ca : Nat → List Value → tM → tO} {M : tM} {a1 a2 a3 : Option Value} {x : Nat} {S : List Value} : rn ca C_L_law 842 [some (.ref x), a1, a2, a3] S M = rn ca C_L_law 843 [some (.ref x), a1, a2, a3] (.ref x :: S) M := (rn_at k_L_law_842).trans rfl
theorem k_L_law_843 : lk 843 C_L_law = some (.iload_n 3, (0, 0, 0, 0)) := by decide +kernel
theorem s_L_law_843 {ca : Nat → List Value → tM → tO} {M : tM} {a0 a1 a2 : Option Value} {x : Int32} {S : List Value} : rn ca C_L_law 843 [a0, a1, a2, some (.int x)] S M = rn ca C_L_law 844 [a0, a1, a2, some (.int x)] (.int x :: S) M := (rn_at k_L_law_843).trans rfl
theorem k_L_law_844 : lk 844 C_L_law = some (.iconst 2, (0, 0, 0, 0)) := by decide +kernel
theorem s_L_law_844 {ca : Nat → List Value → tM → tO} {M : tM} {L : tL} {S : List Value} : rn ca C_L_law 844 L S M = rn ca C_L_law 845 L (.int (iI 2) :: S) M := (rn_at k_L_law_844).trans rfl
theorem k_L_law_845 : lk 845 C_L_law = some (.iadd, (0, 0, 0, 0)) := by decide +kernel
theorem s_L_law_845 {ca : Nat → List Value → tM → tO} {M : tM} {L : tL} {x y : Int32} {S : List Value} : rn ca C_L_law 845 L (.int y :: .int x :: S) M = rn ca C_L_law 846 L (.int (x + y) :: S) M := (rn_at k_L_law_845).trans rfl
theorem k_L_law_846 : lk 846 C_L_law = some (.iaload, (0, 0, 0, 0)) := by decide +kernel
theorem s_L_law_846 {ca : Nat → List Value → tM → tO} {M : tM} {L : tL} {a : Nat} {i : Int32} {S : List Value} : rn ca C_L_law 846 L (.int i :: .ref a :: S) M = if (akind a = 0 ∨ akind a = 6 ∨ akind a = 7) ∧ inb i (alen M a) then rn ca C_L_law 847 L (.int (M.1 a i.toInt.toNat) :: S) M else none := (rn_at k_L_law_846).trans rnx_ite
theorem k_L_law_847 : lk 847 C_L_law = some (.invokevirtual 95, (191, 2, 11, 674)) := by decide +kernel
theorem s_L_law_847 {ca : Nat → List Value → tM → tO} {M : tM} {L : tL} {v1 v2 : Value} {r0 : Int32} {b : Nat} : rn ca C_L_law 847 L [v2, v1, .ref b, .int r0] M = if clsO b = some 11 then rnk ca C_L_law 850 L [.int r0] (ca m_X11_time [.ref b, v1, v2] M) else none := (rn_at k_L_law_847).trans rnx_ite
theorem k_L_law_850 : lk 850 C_L_law = some (.if_icmp .eq 714, (1564, 0, 0, 0)) := by decide +kernel
theorem s_L_law_850 {ca : Nat → List Value → tM → tO} {M : tM} {L : tL} {x y : Int32} {S : List Value} : rn ca C_L_law 850 L (.int y :: .int x :: S) M = if x = y then rn ca C_L_law 1564 L S M else rn ca C_L_law 853 L S M := (rn_at k_L_law_850).trans rnx_ite
theorem k_L_law_853 : lk 853 C_L_law = some (.iconst 0, (0, 0, 0, 0)) := by decide +kernel
theorem s_L_law_853 {ca : Nat → List Value → tM → tO} {M : tM} {L : tL} {S : List Value} : rn ca C_L_law 853 L S M = rn ca C_L_law 854 L (.int (iI 0) :: S) M := (rn_at k_L_law_853).trans rfl
theorem k_L_law_854 : lk 854 C_L_law = some (.ireturn, (1, 0, 0, 0)) := by decide +kernel
theorem s_L_law_854 {ca : Nat → List Value → tM → tO} {M : tM} {L : tL} {x : Int32} : rn ca C_L_law 854 L [.int x] M = if x = iI 0 ∨ x = iI 1 then some (some (.int x), M) else none := (rn_at k_L_law_854).trans rnx_ite
theorem k_L_law_855 : lk 855 C_L_law = some (.aload_n 1, (0, 0, 0, 0)) := by decide +kernel
theorem s_L_law_855 {ca : Nat → List Value → tM → tO} {M : tM} {a0 a2 a3 : Option Value} {x : Nat} {S : List Value} : rn ca C_L_law 855 [a0, some (.ref x), a2, a3] S M = rn ca C_L_law 856 [a0, some (.ref x), a2, a3] (.ref x :: S) M := (rn_at k_L_law_855).trans rfl
theorem k_L_law_856 : lk 856 C_L_law = some (.aload_n 0, (0, 0, 0, 0)) := by decide +kernel
theorem s_L_law_856 {ca : Nat → List Value → tM → tO} {M : tM} {a1 a2 a3 : Option Value} {x : Nat} {S : List Value} : rn ca C_L_law 856 [some (.ref x), a1, a2, a3] S M = rn ca C_L_law 857 [some (.ref x), a1, a2, a3] (.ref x :: S) M := (rn_at k_L_law_856).trans rfl
theorem k_L_law_857 : lk 857 C_L_law = some (.iload_n 3, (0, 0, 0, 0)) := by decide +kernel
theorem s_L_law_857 {ca : Nat → List Value → tM → tO} {M : tM} {a0 a1 a2 : Option Value} {x : Int32} {S : List Value} : rn ca C_L_law 857 [a0, a1, a2, some (.int x)] S M = rn ca C_L_law 858 [a0, a1, a2, some (.int x)] (.int x :: S) M := (rn_at k_L_law_857).trans rfl
theorem k_L_law_858 : lk 858 C_L_law = some (.iconst 1, (0, 0, 0, 0)) := by decide +kernel
theorem s_L_law_858 {ca : Nat → List Value → tM → tO} {M : tM} {L : tL} {S : List Value} : rn ca C_L_law 858 L S M = rn ca C_L_law 859 L (.int (iI 1) :: S) M := (rn_at k_L_law_858).trans rfl
theorem k_L_law_859 : lk 859 C_L_law = some (.iadd, (0, 0, 0, 0)) := by decide +kernel
theorem s_L_law_859 {ca : Nat → List Value → tM → tO} {M : tM} {L : tL} {x y : Int32} {S : List Value} : rn ca C_L_law 859 L (.int y :: .int x :: S) M = rn ca C_L_law 860 L (.int (x + y) :: S) M := (rn_at k_L_law_859).trans rfl
theorem k_L_law_860 : lk 860 C_L_law = some (.iaload, (0, 0, 0, 0)) := by decide +kernel
theorem s_L_law_860 {ca : Nat → List Value → tM → tO} {M : tM} {L : tL} {a : Nat} {i : Int32} {S : List Value} : rn ca C_L_law 860 L (.int i :: .ref a :: S) M = if (akind a = 0 ∨ akind a = 6 ∨ akind a = 7) ∧ inb i (alen M a) then rn ca C_L_law 861 L (.int (M.1 a i.toInt.toNat) :: S) M else none := (rn_at k_L_law_860).trans rnx_ite
theorem k_L_law_861 : lk 861 C_L_law = some (.aload_n 0, (0, 0, 0, 0)) := by decide +kernel
theorem s_L_law_861 {ca : Nat → List Value → tM → tO} {M : tM} {a1 a2 a3 : Option Value} {x : Nat} {S : List Value} : rn ca C_L_law 861 [some (.ref x), a1, a2, a3] S M = rn ca C_L_law 862 [some (.ref x), a1, a2, a3] (.ref x :: S) M := (rn_at k_L_law_861).trans rfl
theorem k_L_law_862 : lk 862 C_L_law = some (.iload_n 3, (0, 0, 0, 0)) := by decide +kernel
theorem s_L_law_862 {ca : Nat → List Value → tM → tO} {M : tM} {a0 a1 a2 : Option Value} {x : Int32} {S : List Value} : rn ca C_L_law 862 [a0, a1, a2, some (.int x)] S M = rn ca C_L_law 863 [a0, a1, a2, some (.int x)] (.int x :: S) M := (rn_at k_L_law_862).trans rfl
theorem k_L_law_863 : lk 863 C_L_law = some (.iconst 2, (0, 0, 0, 0)) := by decide +kernel
theorem s_L_law_863 {ca : Nat → List Value → tM → tO} {M : tM} {L : tL} {S : List Value} : rn ca C_L_law 863 L S M = rn ca C_L_law 864 L (.int (iI 2) :: S) M := (rn_at k_L_law_863).trans rfl
theorem k_L_law_864 : lk 864 C_L_law = some (.iadd, (0, 0, 0, 0)) := by decide +kernel
theorem s_L_law_864 {ca : Nat → List Value → tM → tO} {M : tM} {L : tL} {x y : Int32} {S : List Value} : rn ca C_L_law 864 L (.int y :: .int x :: S) M = rn ca C_L_law 865 L (.int (x + y) :: S) M := (rn_at k_L_law_864).trans rfl
theorem k_L_law_865 : lk 865 C_L_law = some (.iaload, (0, 0, 0, 0)) := by decide +kernel
theorem s_L_law_865 {ca : Nat → List Value → tM → tO} {M : tM} {L : tL} {a : Nat} {i : Int32} {S : List Value} : rn ca C_L_law 865 L (.int i :: .ref a :: S) M = if (akind a = 0 ∨ akind a = 6 ∨ akind a = 7) ∧ inb i (alen M a) then rn ca C_L_law 866 L (.int (M.1 a i.toInt.toNat) :: S) M else none := (rn_at k_L_law_865).trans rnx_ite
theorem k_L_law_866 : lk 866 C_L_law = some (.aload_n 0, (0, 0, 0, 0)) := by decide +kernel
theorem s_L_law_866 {ca : Nat → List Value → tM → tO} {M : tM} {a1 a2 a3 : Option Value} {x : Nat} {S : List Value} : rn ca C_L_law 866 [some (.ref x), a1, a2, a3] S M = rn ca C_L_law 867 [some (.ref x), a1, a2, a3] (.ref x :: S) M := (rn_at k_L_law_866).trans rfl
theorem k_L_law_867 : lk 867 C_L_law = some (.iload_n 3, (0, 0, 0, 0)) := by decide +kernel
theorem s_L_law_867 {ca : Nat → List Value → tM → tO} {M : tM} {a0 a1 a2 : Option Value} {x : Int32} {S : List Value} : rn ca C_L_law 867 [a0, a1, a2, some (.int x)] S M = rn ca C_L_law 868 [a0, a1, a2, some (.int x)] (.int x :: S) M := (rn_at k_L_law_867).trans rfl
theorem k_L_law_868 : lk 868 C_L_law = some (.iconst 3, (0, 0, 0, 0)) := by decide +kernel
theorem s_L_law_868 {ca : Nat → List Value → tM → tO} {M : tM} {L : tL} {S : List Value} : rn ca C_L_law 868 L S M = rn ca C_L_law 869 L (.int (iI 3) :: S) M := (rn_at k_L_law_868).trans rfl
theorem k_L_law_869 : lk 869 C_L_law = some (.iadd, (0, 0, 0, 0)) := by decide +kernel
theorem s_L_law_869 {ca : Nat → List Value → tM → tO} {M : tM} {L : tL} {x y : Int32} {S : List Value} : rn ca C_L_law 869 L (.int y :: .int x :: S) M = rn ca C_L_law 870 L (.int (x + y) :: S) M := (rn_at k_L_law_869).trans rfl
theorem k_L_law_870 : lk 870 C_L_law = some (.iaload, (0, 0, 0, 0)) := by decide +kernel
theorem s_L_law_870 {ca : Nat → List Value → tM → tO} {M : tM} {L : tL} {a : Nat} {i : Int32} {S : List Value} : rn ca C_L_law 870 L (.int i :: .ref a :: S) M = if (akind a = 0 ∨ akind a = 6 ∨ akind a = 7) ∧ inb i (alen M a) then rn ca C_L_law 871 L (.int (M.1 a i.toInt.toNat) :: S) M else none := (rn_at k_L_law_870).trans rnx_ite
theorem k_L_law_871 : lk 871 C_L_law = some (.invokevirtual 96, (113, 3, 10, 691)) := by decide +kernel
theorem s_L_law_871 {ca : Nat → List Value → tM → tO} {M : tM} {L : tL} {v1 v2 v3 : Value} {b : Nat} : rn ca C_L_law 871 L [v3, v2, v1, .ref b] M = if clsO b = some 10 then rnk ca C_L_law 874 L [] (ca m_X10_way [.ref b, v1, v2, v3] M) else none := (rn_at k_L_law_871).trans rnx_ite
theorem k_L_law_874 : lk 874 C_L_law = some (.aload_n 2, (0, 0, 0, 0)) := by decide +kernel
theorem s_L_law_874 {ca : Nat → List Value → tM → tO} {M : tM} {a0 a1 a3 : Option Value} {x : Nat} {S : List Value} : rn ca C_L_law 874 [a0, a1, some (.ref x), a3] S M = rn ca C_L_law 875 [a0, a1, some (.ref x), a3] (.ref x :: S) M := (rn_at k_L_law_874).trans rfl
theorem k_L_law_875 : lk 875 C_L_law = some (.aload_n 0, (0, 0, 0, 0)) := by decide +kernel
theorem s_L_law_875 {ca : Nat → List Value → tM → tO} {M : tM} {a1 a2 a3 : Option Value} {x : Nat} {S : List Value} : rn ca C_L_law 875 [some (.ref x), a1, a2, a3] S M = rn ca C_L_law 876 [some (.ref x), a1, a2, a3] (.ref x :: S) M := (rn_at k_L_law_875).trans rfl
theorem k_L_law_876 : lk 876 C_L_law = some (.iload_n 3, (0, 0, 0, 0)) := by decide +kernel
theorem s_L_law_876 {ca : Nat → List Value → tM → tO} {M : tM} {a0 a1 a2 : Option Value} {x : Int32} {S : List Value} : rn ca C_L_law 876 [a0, a1, a2, some (.int x)] S M = rn ca C_L_law 877 [a0, a1, a2, some (.int x)] (.int x :: S) M := (rn_at k_L_law_876).trans rfl
theorem k_L_law_877 : lk 877 C_L_law = some (.iconst 1, (0, 0, 0, 0)) := by decide +kernel
theorem s_L_law_877 {ca : Nat → List Value → tM → tO} {M : tM} {L : tL} {S : List Value} : rn ca C_L_law 877 L S M = rn ca C_L_law 878 L (.int (iI 1) :: S) M := (rn_at k_L_law_877).trans rfl
theorem k_L_law_878 : lk 878 C_L_law = some (.iadd, (0, 0, 0, 0)) := by decide +kernel
theorem s_L_law_878 {ca : Nat → List Value → tM → tO} {M : tM} {L : tL} {x y : Int32} {S : List Value} : rn ca C_L_law 878 L (.int y :: .int x :: S) M = rn ca C_L_law 879 L (.int (x + y) :: S) M := (rn_at k_L_law_878).trans rfl
theorem k_L_law_879 : lk 879 C_L_law = some (.iaload, (0, 0, 0, 0)) := by decide +kernel
theorem s_L_law_879 {ca : Nat → List Value → tM → tO} {M : tM} {L : tL} {a : Nat} {i : Int32} {S : List Value} : rn ca C_L_law 879 L (.int i :: .ref a :: S) M = if (akind a = 0 ∨ akind a = 6 ∨ akind a = 7) ∧ inb i (alen M a) then rn ca C_L_law 880 L (.int (M.1 a i.toInt.toNat) :: S) M else none := (rn_at k_L_law_879).trans rnx_ite
theorem k_L_law_880 : lk 880 C_L_law = some (.aload_n 0, (0, 0, 0, 0)) := by decide +kernel
theorem s_L_law_880 {ca : Nat → List Value → tM → tO} {M : tM} {a1 a2 a3 : Option Value} {x : Nat} {S : List Value} : rn ca C_L_law 880 [some (.ref x), a1, a2, a3] S M = rn ca C_L_law 881 [some (.ref x), a1, a2, a3] (.ref x :: S) M := (rn_at k_L_law_880).trans rfl
theorem k_L_law_881 : lk 881 C_L_law = some (.iload_n 3, (0, 0, 0, 0)) := by decide +kernel
theorem s_L_law_881 {ca : Nat → List Value → tM → tO} {M : tM} {a0 a1 a2 : Option Value} {x : Int32} {S : List Value} : rn ca C_L_law 881 [a0, a1, a2, some (.int x)] S M = rn ca C_L_law 882 [a0, a1, a2, some (.int x)] (.int x :: S) M := (rn_at k_L_law_881).trans rfl
theorem k_L_law_882 : lk 882 C_L_law = some (.iconst 2, (0, 0, 0, 0)) := by decide +kernel
theorem s_L_law_882 {ca : Nat → List Value → tM → tO} {M : tM} {L : tL} {S : List Value} : rn ca C_L_law 882 L S M = rn ca C_L_law 883 L (.int (iI 2) :: S) M := (rn_at k_L_law_882).trans rfl
theorem k_L_law_883 : lk 883 C_L_law = some (.iadd, (0, 0, 0, 0)) := by decide +kernel
theorem s_L_law_883 {ca : Nat → List Value → tM → tO} {M : tM} {L : tL} {x y : Int32} {S : List Value} : rn ca C_L_law 883 L (.int y :: .int x :: S) M = rn ca C_L_law 884 L (.int (x + y) :: S) M := (rn_at k_L_law_883).trans rfl
theorem k_L_law_884 : lk 884 C_L_law = some (.iaload, (0, 0, 0, 0)) := by decide +kernel
theorem s_L_law_884 {ca : Nat → List Value → tM → tO} {M : tM} {L : tL} {a : Nat} {i : Int32} {S : List Value} : rn ca C_L_law 884 L (.int i :: .ref a :: S) M = if (akind a = 0 ∨ akind a = 6 ∨ akind a = 7) ∧ inb i (alen M a) then rn ca C_L_law 885 L (.int (M.1 a i.toInt.toNat) :: S) M else none := (rn_at k_L_law_884).trans rnx_ite
theorem k_L_law_885 : lk 885 C_L_law = some (.aload_n 0, (0, 0, 0, 0)) := by decide +kernel
theorem s_L_law_885 {ca : Nat → List Value → tM → tO} {M : tM} {a1 a2 a3 : Option Value} {x : Nat} {S : List Value} : rn ca C_L_law 885 [some (.ref x), a1, a2, a3] S M = rn ca C_L_law 886 [some (.ref x), a1, a2, a3] (.ref x :: S) M := (rn_at k_L_law_885).trans rfl
theorem k_L_law_886 : lk 886 C_L_law = some (.iload_n 3, (0, 0, 0, 0)) := by decide +kernel
theorem s_L_law_886 {ca : Nat → List Value → tM → tO} {M : tM} {a0 a1 a2 : Option Value} {x : Int32} {S : List Value} : rn ca C_L_law 886 [a0, a1, a2, some (.int x)] S M = rn ca C_L_law 887 [a0, a1, a2, some (.int x)] (.int x :: S) M := (rn_at k_L_law_886).trans rfl
theorem k_L_law_887 : lk 887 C_L_law = some (.iconst 3, (0, 0, 0, 0)) := by decide +kernel
theorem s_L_law_887 {ca : Nat → List Value → tM → tO} {M : tM} {L : tL} {S : List Value} : rn ca C_L_law 887 L S M = rn ca C_L_law 888 L (.int (iI 3) :: S) M := (rn_at k_L_law_887).trans rfl
theorem k_L_law_888 : lk 888 C_L_law = some (.iadd, (0, 0, 0, 0)) := by decide +kernel
theorem s_L_law_888 {ca : Nat → List Value → tM → tO} {M : tM} {L : tL} {x y : Int32} {S : List Value} : rn ca C_L_law 888 L (.int y :: .int x :: S) M = rn ca C_L_law 889 L (.int (x + y) :: S) M := (rn_at k_L_law_888).trans rfl
theorem k_L_law_889 : lk 889 C_L_law = some (.iaload, (0, 0, 0, 0)) := by decide +kernel
theorem s_L_law_889 {ca : Nat → List Value → tM → tO} {M : tM} {L : tL} {a : Nat} {i : Int32} {S : List Value} : rn ca C_L_law 889 L (.int i :: .ref a :: S) M = if (akind a = 0 ∨ akind a = 6 ∨ akind a = 7) ∧ inb i (alen M a) then rn ca C_L_law 890 L (.int (M.1 a i.toInt.toNat) :: S) M else none := (rn_at k_L_law_889).trans rnx_ite
theorem k_L_law_890 : lk 890 C_L_law = some (.invokevirtual 99, (199, 3, 11, 744)) := by decide +kernel
theorem s_L_law_890 {ca : Nat → List Value → tM → tO} {M : tM} {L : tL} {v1 v2 v3 : Value} {r0 : Int32} {b : Nat} : rn ca C_L_law 890 L [v3, v2, v1, .ref b, .int r0] M = if clsO b = some 11 then rnk ca C_L_law 893 L [.int r0] (ca m_X11_way_ [.ref b, v1, v2, v3] M) else none := (rn_at k_L_law_890).trans rnx_ite
theorem k_L_law_893 : lk 893 C_L_law = some (.if_icmp .eq 671, (1564, 0, 0, 0)) := by decide +kernel
theorem s_L_law_893 {ca : Nat → List Value → tM → tO} {M : tM} {L : tL} {x y : Int32} {S : List Value} : rn ca C_L_law 893 L (.int y :: .int x :: S) M = if x = y then rn ca C_L_law 1564 L S M else rn ca C_L_law 896 L S M := (rn_at k_L_law_893).trans rnx_ite
theorem k_L_law_896 : lk 896 C_L_law = some (.iconst 0, (0, 0, 0, 0)) := by decide +kernel
theorem s_L_law_896 {ca : Nat → List Value → tM → tO} {M : tM} {L : tL} {S : List Value} : rn ca C_L_law 896 L S M = rn ca C_L_law 897 L (.int (iI 0) :: S) M := (rn_at k_L_law_896).trans rfl
theorem k_L_law_897 : lk 897 C_L_law = some (.ireturn, (1, 0, 0, 0)) := by decide +kernel
theorem s_L_law_897 {ca : Nat → List Value → tM → tO} {M : tM} {L : tL} {x : Int32} : rn ca C_L_law 897 L [.int x] M = if x = iI 0 ∨ x = iI 1 then some (some (.int x), M) else none := (rn_at k_L_law_897).trans rnx_ite
theorem k_L_law_898 : lk 898 C_L_law = some (.aload_n 1, (0, 0, 0, 0)) := by decide +kernel
theorem s_L_law_898 {ca : Nat → List Value → tM → tO} {M : tM} {a0 a2 a3 : Option Value} {x : Nat} {S : List Value} : rn ca C_L_law 898 [a0, some (.ref x), a2, a3] S M = rn ca C_L_law 899 [a0, some (.ref x), a2, a3] (.ref x :: S) M := (rn_at k_L_law_898).trans rfl
theorem k_L_law_899 : lk 899 C_L_law = some (.aload_n 0, (0, 0, 0, 0)) := by decide +kernel
theorem s_L_law_899 {ca : Nat → List Value → tM → tO} {M : tM} {a1 a2 a3 : Option Value} {x : Nat} {S : List Value} : rn ca C_L_law 899 [some (.ref x), a1, a2, a3] S M = rn ca C_L_law 900 [some (.ref x), a1, a2, a3] (.ref x :: S) M := (rn_at k_L_law_899).trans rfl
theorem k_L_law_900 : lk 900 C_L_law = some (.iload_n 3, (0, 0, 0, 0)) := by decide +kernel
theorem s_L_law_900 {ca : Nat → List Value → tM → tO} {M : tM} {a0 a1 a2 : Option Value} {x : Int32} {S : List Value} : rn ca C_L_law 900 [a0, a1, a2, some (.int x)] S M = rn ca C_L_law 901 [a0, a1, a2, some (.int x)] (.int x :: S) M := (rn_at k_L_law_900).trans rfl
theorem k_L_law_901 : lk 901 C_L_law = some (.iconst 1, (0, 0, 0, 0)) := by decide +kernel
theorem s_L_law_901 {ca : Nat → List Value → tM → tO} {M : tM} {L : tL} {S : List Value} : rn ca C_L_law 901 L S M = rn ca C_L_law 902 L (.int (iI 1) :: S) M := (rn_at k_L_law_901).trans rfl
theorem k_L_law_902 : lk 902 C_L_law = some (.iadd, (0, 0, 0, 0)) := by decide +kernel
theorem s_L_law_902 {ca : Nat → List Value → tM → tO} {M : tM} {L : tL} {x y : Int32} {S : List Value} : rn ca C_L_law 902 L (.int y :: .int x :: S) M = rn ca C_L_law 903 L (.int (x + y) :: S) M := (rn_at k_L_law_902).trans rfl
theorem k_L_law_903 : lk 903 C_L_law = some (.iaload, (0, 0, 0, 0)) := by decide +kernel
theorem s_L_law_903 {ca : Nat → List Value → tM → tO} {M : tM} {L : tL} {a : Nat} {i : Int32} {S : List Value} : rn ca C_L_law 903 L (.int i :: .ref a :: S) M = if (akind a = 0 ∨ akind a = 6 ∨ akind a = 7) ∧ inb i (alen M a) then rn ca C_L_law 904 L (.int (M.1 a i.toInt.toNat) :: S) M else none := (rn_at k_L_law_903).trans rnx_ite
theorem k_L_law_904 : lk 904 C_L_law = some (.aload_n 0, (0, 0, 0, 0)) := by decide +kernel
theorem s_L_law_904 {ca : Nat → List Value → tM → tO} {M : tM} {a1 a2 a3 : Option Value} {x : Nat} {S : List Value} : rn ca C_L_law 904 [some (.ref x), a1, a2, a3] S M = rn ca C_L_law 905 [some (.ref x), a1, a2, a3] (.ref x :: S) M := (rn_at k_L_law_904).trans rfl
theorem k_L_law_905 : lk 905 C_L_law = some (.iload_n 3, (0, 0, 0, 0)) := by decide +kernel
theorem s_L_law_905 {ca : Nat → List Value → tM → tO} {M : tM} {a0 a1 a2 : Option Value} {x : Int32} {S : List Value} : rn ca C_L_law 905 [a0, a1, a2, some (.int x)] S M = rn ca C_L_law 906 [a0, a1, a2, some (.int x)] (.int x :: S) M := (rn_at k_L_law_905).trans rfl
theorem k_L_law_906 : lk 906 C_L_law = some (.iconst 2, (0, 0, 0, 0)) := by decide +kernel
theorem s_L_law_906 {ca : Nat → List Value → tM → tO} {M : tM} {L : tL} {S : List Value} : rn ca C_L_law 906 L S M = rn ca C_L_law 907 L (.int (iI 2) :: S) M := (rn_at k_L_law_906).trans rfl
theorem k_L_law_907 : lk 907 C_L_law = some (.iadd, (0, 0, 0, 0)) := by decide +kernel
theorem s_L_law_907 {ca : Nat → List Value → tM → tO} {M : tM} {L : tL} {x y : Int32} {S : List Value} : rn ca C_L_law 907 L (.int y :: .int x :: S) M = rn ca C_L_law 908 L (.int (x + y) :: S) M := (rn_at k_L_law_907).trans rfl
theorem k_L_law_908 : lk 908 C_L_law = some (.iaload, (0, 0, 0, 0)) := by decide +kernel
theorem s_L_law_908 {ca : Nat → List Value → tM → tO} {M : tM} {L : tL} {a : Nat} {i : Int32} {S : List Value} : rn ca C_L_law 908 L (.int i :: .ref a :: S) M = if (akind a = 0 ∨ akind a = 6 ∨ akind a = 7) ∧ inb i (alen M a) then rn ca C_L_law 909 L (.int (M.1 a i.toInt.toNat) :: S) M else none := (rn_at k_L_law_908).trans rnx_ite
theorem k_L_law_909 : lk 909 C_L_law = some (.invokevirtual 100, (114, 2, 10, 797)) := by decide +kernel
theorem s_L_law_909 {ca : Nat → List Value → tM → tO} {M : tM} {L : tL} {v1 v2 : Value} {b : Nat} : rn ca C_L_law 909 L [v2, v1, .ref b] M = if clsO b = some 10 then rnk ca C_L_law 912 L [] (ca m_X10_within [.ref b, v1, v2] M) else none := (rn_at k_L_law_909).trans rnx_ite
theorem k_L_law_912 : lk 912 C_L_law = some (.aload_n 2, (0, 0, 0, 0)) := by decide +kernel
theorem s_L_law_912 {ca : Nat → List Value → tM → tO} {M : tM} {a0 a1 a3 : Option Value} {x : Nat} {S : List Value} : rn ca C_L_law 912 [a0, a1, some (.ref x), a3] S M = rn ca C_L_law 913 [a0, a1, some (.ref x), a3] (.ref x :: S) M := (rn_at k_L_law_912).trans rfl
theorem k_L_law_913 : lk 913 C_L_law = some (.aload_n 0, (0, 0, 0, 0)) := by decide +kernel
theorem s_L_law_913 {ca : Nat → List Value → tM → tO} {M : tM} {a1 a2 a3 : Option Value} {x : Nat} {S : List Value} : rn ca C_L_law 913 [some (.ref x), a1, a2, a3] S M = rn ca C_L_law 914 [some (.ref x), a1, a2, a3] (.ref x :: S) M := (rn_at k_L_law_913).trans rfl
theorem k_L_law_914 : lk 914 C_L_law = some (.iload_n 3, (0, 0, 0, 0)) := by decide +kernel
theorem s_L_law_914 {ca : Nat → List Value → tM → tO} {M : tM} {a0 a1 a2 : Option Value} {x : Int32} {S : List Value} : rn ca C_L_law 914 [a0, a1, a2, some (.int x)] S M = rn ca C_L_law 915 [a0, a1, a2, some (.int x)] (.int x :: S) M := (rn_at k_L_law_914).trans rfl
theorem k_L_law_915 : lk 915 C_L_law = some (.iconst 1, (0, 0, 0, 0)) := by decide +kernel
theorem s_L_law_915 {ca : Nat → List Value → tM → tO} {M : tM} {L : tL} {S : List Value} : rn ca C_L_law 915 L S M = rn ca C_L_law 916 L (.int (iI 1) :: S) M := (rn_at k_L_law_915).trans rfl
theorem k_L_law_916 : lk 916 C_L_law = some (.iadd, (0, 0, 0, 0)) := by decide +kernel
theorem s_L_law_916 {ca : Nat → List Value → tM → tO} {M : tM} {L : tL} {x y : Int32} {S : List Value} : rn ca C_L_law 916 L (.int y :: .int x :: S) M = rn ca C_L_law 917 L (.int (x + y) :: S) M := (rn_at k_L_law_916).trans rfl
theorem k_L_law_917 : lk 917 C_L_law = some (.iaload, (0, 0, 0, 0)) := by decide +kernel
theorem s_L_law_917 {ca : Nat → List Value → tM → tO} {M : tM} {L : tL} {a : Nat} {i : Int32} {S : List Value} : rn ca C_L_law 917 L (.int i :: .ref a :: S) M = if (akind a = 0 ∨ akind a = 6 ∨ akind a = 7) ∧ inb i (alen M a) then rn ca C_L_law 918 L (.int (M.1 a i.toInt.toNat) :: S) M else none := (rn_at k_L_law_917).trans rnx_ite
theorem k_L_law_918 : lk 918 C_L_law = some (.aload_n 0, (0, 0, 0, 0)) := by decide +kernel
theorem s_L_law_918 {ca : Nat → List Value → tM → tO} {M : tM} {a1 a2 a3 : Option Value} {x : Nat} {S : List Value} : rn ca C_L_law 918 [some (.ref x), a1, a2, a3] S M = rn ca C_L_law 919 [some (.ref x), a1, a2, a3] (.ref x :: S) M := (rn_at k_L_law_918).trans rfl
theorem k_L_law_919 : lk 919 C_L_law = some (.iload_n 3, (0, 0, 0, 0)) := by decide +kernel
theorem s_L_law_919 {ca : Nat → List Value → tM → tO} {M : tM} {a0 a1 a2 : Option Value} {x : Int32} {S : List Value} : rn ca C_L_law 919 [a0, a1, a2, some (.int x)] S M = rn ca C_L_law 920 [a0, a1, a2, some (.int x)] (.int x :: S) M := (rn_at k_L_law_919).trans rfl
theorem k_L_law_920 : lk 920 C_L_law = some (.iconst 2, (0, 0, 0, 0)) := by decide +kernel
theorem s_L_law_920 {ca : Nat → List Value → tM → tO} {M : tM} {L : tL} {S : List Value} : rn ca C_L_law 920 L S M = rn ca C_L_law 921 L (.int (iI 2) :: S) M := (rn_at k_L_law_920).trans rfl
theorem k_L_law_921 : lk 921 C_L_law = some (.iadd, (0, 0, 0, 0)) := by decide +kernel
theorem s_L_law_921 {ca : Nat → List Value → tM → tO} {M : tM} {L : tL} {x y : Int32} {S : List Value} : rn ca C_L_law 921 L (.int y :: .int x :: S) M = rn ca C_L_law 922 L (.int (x + y) :: S) M := (rn_at k_L_law_921).trans rfl
theorem k_L_law_922 : lk 922 C_L_law = some (.iaload, (0, 0, 0, 0)) := by decide +kernel
theorem s_L_law_922 {ca : Nat → List Value → tM → tO} {M : tM} {L : tL} {a : Nat} {i : Int32} {S : List Value} : rn ca C_L_law 922 L (.int i :: .ref a :: S) M = if (akind a = 0 ∨ akind a = 6 ∨ akind a = 7) ∧ inb i (alen M a) then rn ca C_L_law 923 L (.int (M.1 a i.toInt.toNat) :: S) M else none := (rn_at k_L_law_922).trans rnx_ite
theorem k_L_law_923 : lk 923 C_L_law = some (.invokevirtual 103, (200, 2, 11, 811)) := by decide +kernel
theorem s_L_law_923 {ca : Nat → List Value → tM → tO} {M : tM} {L : tL} {v1 v2 : Value} {r0 : Int32} {b : Nat} : rn ca C_L_law 923 L [v2, v1, .ref b, .int r0] M = if clsO b = some 11 then rnk ca C_L_law 926 L [.int r0] (ca m_X11_within [.ref b, v1, v2] M) else none := (rn_at k_L_law_923).trans rnx_ite
theorem k_L_law_926 : lk 926 C_L_law = some (.if_icmp .eq 638, (1564, 0, 0, 0)) := by decide +kernel
theorem s_L_law_926 {ca : Nat → List Value → tM → tO} {M : tM} {L : tL} {x y : Int32} {S : List Value} : rn ca C_L_law 926 L (.int y :: .int x :: S) M = if x = y then rn ca C_L_law 1564 L S M else rn ca C_L_law 929 L S M := (rn_at k_L_law_926).trans rnx_ite
theorem k_L_law_929 : lk 929 C_L_law = some (.iconst 0, (0, 0, 0, 0)) := by decide +kernel
theorem s_L_law_929 {ca : Nat → List Value → tM → tO} {M : tM} {L : tL} {S : List Value} : rn ca C_L_law 929 L S M = rn ca C_L_law 930 L (.int (iI 0) :: S) M := (rn_at k_L_law_929).trans rfl
theorem k_L_law_930 : lk 930 C_L_law = some (.ireturn, (1, 0, 0, 0)) := by decide +kernel
theorem s_L_law_930 {ca : Nat → List Value → tM → tO} {M : tM} {L : tL} {x : Int32} : rn ca C_L_law 930 L [.int x] M = if x = iI 0 ∨ x = iI 1 then some (some (.int x), M) else none := (rn_at k_L_law_930).trans rnx_ite
theorem k_L_law_931 : lk 931 C_L_law = some (.aload_n 1, (0, 0, 0, 0)) := by decide +kernel
theorem s_L_law_931 {ca : Nat → List Value → tM → tO} {M : tM} {a0 a2 a3 : Option Value} {x : Nat} {S : List Value} : rn ca C_L_law 931 [a0, some (.ref x), a2, a3] S M = rn ca C_L_law 932 [a0, some (.ref x), a2, a3] (.ref x :: S) M := (rn_at k_L_law_931).trans rfl
theorem k_L_law_932 : lk 932 C_L_law = some (.aload_n 0, (0, 0, 0, 0)) := by decide +kernel
theorem s_L_law_932 {ca : Nat → List Value → tM → tO} {M : tM} {a1 a2 a3 : Option Value} {x : Nat} {S : List Value} : rn ca C_L_law 932 [some (.ref x), a1, a2, a3] S M = rn ca C_L_law 933 [some (.ref x), a1, a2, a3] (.ref x :: S) M := (rn_at k_L_law_932).trans rfl
theorem k_L_law_933 : lk 933 C_L_law = some (.iload_n 3, (0, 0, 0, 0)) := by decide +kernel
theorem s_L_law_933 {ca : Nat → List Value → tM → tO} {M : tM} {a0 a1 a2 : Option Value} {x : Int32} {S : List Value} : rn ca C_L_law 933 [a0, a1, a2, some (.int x)] S M = rn ca C_L_law 934 [a0, a1, a2, some (.int x)] (.int x :: S) M := (rn_at k_L_law_933).trans rfl
theorem k_L_law_934 : lk 934 C_L_law = some (.iconst 1, (0, 0, 0, 0)) := by decide +kernel
theorem s_L_law_934 {ca : Nat → List Value → tM → tO} {M : tM} {L : tL} {S : List Value} : rn ca C_L_law 934 L S M = rn ca C_L_law 935 L (.int (iI 1) :: S) M := (rn_at k_L_law_934).trans rfl
theorem k_L_law_935 : lk 935 C_L_law = some (.iadd, (0, 0, 0, 0)) := by decide +kernel
theorem s_L_law_935 {ca : Nat → List Value → tM → tO} {M : tM} {L : tL} {x y : Int32} {S : List Value} : rn ca C_L_law 935 L (.int y :: .int x :: S) M = rn ca C_L_law 936 L (.int (x + y) :: S) M := (rn_at k_L_law_935).trans rfl
theorem k_L_law_936 : lk 936 C_L_law = some (.iaload, (0, 0, 0, 0)) := by decide +kernel
theorem s_L_law_936 {ca : Nat → List Value → tM → tO} {M : tM} {L : tL} {a : Nat} {i : Int32} {S : List Value} : rn ca C_L_law 936 L (.int i :: .ref a :: S) M = if (akind a = 0 ∨ akind a = 6 ∨ akind a = 7) ∧ inb i (alen M a) then rn ca C_L_law 937 L (.int (M.1 a i.toInt.toNat) :: S) M else none := (rn_at k_L_law_936).trans rnx_ite
theorem k_L_law_937 : lk 937 C_L_law = some (.aload_n 0, (0, 0, 0, 0)) := by decide +kernel
theorem s_L_law_937 {ca : Nat → List Value → tM → tO} {M : tM} {a1 a2 a3 : Option Value} {x : Nat} {S : List Value} : rn ca C_L_law 937 [some (.ref x), a1, a2, a3] S M = rn ca C_L_law 938 [some (.ref x), a1, a2, a3] (.ref x :: S) M := (rn_at k_L_law_937).trans rfl
theorem k_L_law_938 : lk 938 C_L_law = some (.iload_n 3, (0, 0, 0, 0)) := by decide +kernel
theorem s_L_law_938 {ca : Nat → List Value → tM → tO} {M : tM} {a0 a1 a2 : Option Value} {x : Int32} {S : List Value} : rn ca C_L_law 938 [a0, a1, a2, some (.int x)] S M = rn ca C_L_law 939 [a0, a1, a2, some (.int x)] (.int x :: S) M := (rn_at k_L_law_938).trans rfl
theorem k_L_law_939 : lk 939 C_L_law = some (.iconst 2, (0, 0, 0, 0)) := by decide +kernel
theorem s_L_law_939 {ca : Nat → List Value → tM → tO} {M : tM} {L : tL} {S : List Value} : rn ca C_L_law 939 L S M = rn ca C_L_law 940 L (.int (iI 2) :: S) M := (rn_at k_L_law_939).trans rfl
theorem k_L_law_940 : lk 940 C_L_law = some (.iadd, (0, 0, 0, 0)) := by decide +kernel
theorem s_L_law_940 {ca : Nat → List Value → tM → tO} {M : tM} {L : tL} {x y : Int32} {S : List Value} : rn ca C_L_law 940 L (.int y :: .int x :: S) M = rn ca C_L_law 941 L (.int (x + y) :: S) M := (rn_at k_L_law_940).trans rfl
theorem k_L_law_941 : lk 941 C_L_law = some (.iaload, (0, 0, 0, 0)) := by decide +kernel
theorem s_L_law_941 {ca : Nat → List Value → tM → tO} {M : tM} {L : tL} {a : Nat} {i : Int32} {S : List Value} : rn ca C_L_law 941 L (.int i :: .ref a :: S) M = if (akind a = 0 ∨ akind a = 6 ∨ akind a = 7) ∧ inb i (alen M a) then rn ca C_L_law 942 L (.int (M.1 a i.toInt.toNat) :: S) M else none := (rn_at k_L_law_941).trans rnx_ite
theorem k_L_law_942 : lk 942 C_L_law = some (.aload_n 0, (0, 0, 0, 0)) := by decide +kernel
theorem s_L_law_942 {ca : Nat → List Value → tM → tO} {M : tM} {a1 a2 a3 : Option Value} {x : Nat} {S : List Value} : rn ca C_L_law 942 [some (.ref x), a1, a2, a3] S M = rn ca C_L_law 943 [some (.ref x), a1, a2, a3] (.ref x :: S) M := (rn_at k_L_law_942).trans rfl
theorem k_L_law_943 : lk 943 C_L_law = some (.iload_n 3, (0, 0, 0, 0)) := by decide +kernel
theorem s_L_law_943 {ca : Nat → List Value → tM → tO} {M : tM} {a0 a1 a2 : Option Value} {x : Int32} {S : List Value} : rn ca C_L_law 943 [a0, a1, a2, some (.int x)] S M = rn ca C_L_law 944 [a0, a1, a2, some (.int x)] (.int x :: S) M := (rn_at k_L_law_943).trans rfl
theorem k_L_law_944 : lk 944 C_L_law = some (.iconst 3, (0, 0, 0, 0)) := by decide +kernel
theorem s_L_law_944 {ca : Nat → List Value → tM → tO} {M : tM} {L : tL} {S : List Value} : rn ca C_L_law 944 L S M = rn ca C_L_law 945 L (.int (iI 3) :: S) M := (rn_at k_L_law_944).trans rfl
theorem k_L_law_945 : lk 945 C_L_law = some (.iadd, (0, 0, 0, 0)) := by decide +kernel
theorem s_L_law_945 {ca : Nat → List Value → tM → tO} {M : tM} {L : tL} {x y : Int32} {S : List Value} : rn ca C_L_law 945 L (.int y :: .int x :: S) M = rn ca C_L_law 946 L (.int (x + y) :: S) M := (rn_at k_L_law_945).trans rfl
theorem k_L_law_946 : lk 946 C_L_law = some (.iaload, (0, 0, 0, 0)) := by decide +kernel
theorem s_L_law_946 {ca : Nat → List Value → tM → tO} {M : tM} {L : tL} {a : Nat} {i : Int32} {S : List Value} : rn ca C_L_law 946 L (.int i :: .ref a :: S) M = if (akind a = 0 ∨ akind a = 6 ∨ akind a = 7) ∧ inb i (alen M a) then rn ca C_L_law 947 L (.int (M.1 a i.toInt.toNat) :: S) M else none := (rn_at k_L_law_946).trans rnx_ite
theorem k_L_law_947 : lk 947 C_L_law = some (.aload_n 0, (0, 0, 0, 0)) := by decide +kernel
theorem s_L_law_947 {ca : Nat → List Value → tM → tO} {M : tM} {a1 a2 a3 : Option Value} {x : Nat} {S : List Value} : rn ca C_L_law 947 [some (.ref x), a1, a2, a3] S M = rn ca C_L_law 948 [some (.ref x), a1, a2, a3] (.ref x :: S) M := (rn_at k_L_law_947).trans rfl
theorem k_L_law_948 : lk 948 C_L_law = some (.iload_n 3, (0, 0, 0, 0)) := by decide +kernel
theorem s_L_law_948 {ca : Nat → List Value → tM → tO} {M : tM} {a0 a1 a2 : Option Value} {x : Int32} {S : List Value} : rn ca C_L_law 948 [a0, a1, a2, some (.int x)] S M = rn ca C_L_law 949 [a0, a1, a2, some (.int x)] (.int x :: S) M := (rn_at k_L_law_948).trans rfl
theorem k_L_law_949 : lk 949 C_L_law = some (.iconst 4, (0, 0, 0, 0)) := by decide +kernel
theorem s_L_law_949 {ca : Nat → List Value → tM → tO} {M : tM} {L : tL} {S : List Value} : rn ca C_L_law 949 L S M = rn ca C_L_law 950 L (.int (iI 4) :: S) M := (rn_at k_L_law_949).trans rfl
theorem k_L_law_950 : lk 950 C_L_law = some (.iadd, (0, 0, 0, 0)) := by decide +kernel
theorem s_L_law_950 {ca : Nat → List Value → tM → tO} {M : tM} {L : tL} {x y : Int32} {S : List Value} : rn ca C_L_law 950 L (.int y :: .int x :: S) M = rn ca C_L_law 951 L (.int (x + y) :: S) M := (rn_at k_L_law_950).trans rfl
theorem k_L_law_951 : lk 951 C_L_law = some (.iaload, (0, 0, 0, 0)) := by decide +kernel
theorem s_L_law_951 {ca : Nat → List Value → tM → tO} {M : tM} {L : tL} {a : Nat} {i : Int32} {S : List Value} : rn ca C_L_law 951 L (.int i :: .ref a :: S) M = if (akind a = 0 ∨ akind a = 6 ∨ akind a = 7) ∧ inb i (alen M a) then rn ca C_L_law 952 L (.int (M.1 a i.toInt.toNat) :: S) M else none := (rn_at k_L_law_951).trans rnx_ite
theorem k_L_law_952 : lk 952 C_L_law = some (.invokevirtual 104, (115, 4, 10, 817)) := by decide +kernel
theorem s_L_law_952 {ca : Nat → List Value → tM → tO} {M : tM} {L : tL} {v1 v2 v3 v4 : Value} {b : Nat} : rn ca C_L_law 952 L [v4, v3, v2, v1, .ref b] M = if clsO b = some 10 then rnk ca C_L_law 955 L [] (ca m_X10_round [.ref b, v1, v2, v3, v4] M) else none := (rn_at k_L_law_952).trans rnx_ite
theorem k_L_law_955 : lk 955 C_L_law = some (.aload_n 2, (0, 0, 0, 0)) := by decide +kernel
theorem s_L_law_955 {ca : Nat → List Value → tM → tO} {M : tM} {a0 a1 a3 : Option Value} {x : Nat} {S : List Value} : rn ca C_L_law 955 [a0, a1, some (.ref x), a3] S M = rn ca C_L_law 956 [a0, a1, some (.ref x), a3] (.ref x :: S) M := (rn_at k_L_law_955).trans rfl
theorem k_L_law_956 : lk 956 C_L_law = some (.aload_n 0, (0, 0, 0, 0)) := by decide +kernel
theorem s_L_law_956 {ca : Nat → List Value → tM → tO} {M : tM} {a1 a2 a3 : Option Value} {x : Nat} {S : List Value} : rn ca C_L_law 956 [some (.ref x), a1, a2, a3] S M = rn ca C_L_law 957 [some (.ref x), a1, a2, a3] (.ref x :: S) M := (rn_at k_L_law_956).trans rfl
theorem k_L_law_957 : lk 957 C_L_law = some (.iload_n 3, (0, 0, 0, 0)) := by decide +kernel
theorem s_L_law_957 {ca : Nat → List Value → tM → tO} {M : tM} {a0 a1 a2 : Option Value} {x : Int32} {S : List Value} : rn ca C_L_law 957 [a0, a1, a2, some (.int x)] S M = rn ca C_L_law 958 [a0, a1, a2, some (.int x)] (.int x :: S) M := (rn_at k_L_law_957).trans rfl
theorem k_L_law_958 : lk 958 C_L_law = some (.iconst 1, (0, 0, 0, 0)) := by decide +kernel
theorem s_L_law_958 {ca : Nat → List Value → tM → tO} {M : tM} {L : tL} {S : List Value} : rn ca C_L_law 958 L S M = rn ca C_L_law 959 L (.int (iI 1) :: S) M := (rn_at k_L_law_958).trans rfl
theorem k_L_law_959 : lk 959 C_L_law = some (.iadd, (0, 0, 0, 0)) := by decide +kernel
theorem s_L_law_959 {ca : Nat → List Value → tM → tO} {M : tM} {L : tL} {x y : Int32} {S : List Value} : rn ca C_L_law 959 L (.int y :: .int x :: S) M = rn ca C_L_law 960 L (.int (x + y) :: S) M := (rn_at k_L_law_959).trans rfl
theorem k_L_law_960 : lk 960 C_L_law = some (.iaload, (0, 0, 0, 0)) := by decide +kernel
theorem s_L_law_960 {ca : Nat → List Value → tM → tO} {M : tM} {L : tL} {a : Nat} {i : Int32} {S : List Value} : rn ca C_L_law 960 L (.int i :: .ref a :: S) M = if (akind a = 0 ∨ akind a = 6 ∨ akind a = 7) ∧ inb i (alen M a) then rn ca C_L_law 961 L (.int (M.1 a i.toInt.toNat) :: S) M else none := (rn_at k_L_law_960).trans rnx_ite
theorem k_L_law_961 : lk 961 C_L_law = some (.aload_n 0, (0, 0, 0, 0)) := by decide +kernel
theorem s_L_law_961 {ca : Nat → List Value → tM → tO} {M : tM} {a1 a2 a3 : Option Value} {x : Nat} {S : List Value} : rn ca C_L_law 961 [some (.ref x), a1, a2, a3] S M = rn ca C_L_law 962 [some (.ref x), a1, a2, a3] (.ref x :: S) M := (rn_at k_L_law_961).trans rfl
theorem k_L_law_962 : lk 962 C_L_law = some (.iload_n 3, (0, 0, 0, 0)) := by decide +kernel
theorem s_L_law_962 {ca : Nat → List Value → tM → tO} {M : tM} {a0 a1 a2 : Option Value} {x : Int32} {S : List Value} : rn ca C_L_law 962 [a0, a1, a2, some (.int x)] S M = rn ca C_L_law 963 [a0, a1, a2, some (.int x)] (.int x :: S) M := (rn_at k_L_law_962).trans rfl
theorem k_L_law_963 : lk 963 C_L_law = some (.iconst 2, (0, 0, 0, 0)) := by decide +kernel
theorem s_L_law_963 {ca : Nat → List Value → tM → tO} {M : tM} {L : tL} {S : List Value} : rn ca C_L_law 963 L S M = rn ca C_L_law 964 L (.int (iI 2) :: S) M := (rn_at k_L_law_963).trans rfl
theorem k_L_law_964 : lk 964 C_L_law = some (.iadd, (0, 0, 0, 0)) := by decide +kernel
theorem s_L_law_964 {ca : Nat → List Value → tM → tO} {M : tM} {L : tL} {x y : Int32} {S : List Value} : rn ca C_L_law 964 L (.int y :: .int x :: S) M = rn ca C_L_law 965 L (.int (x + y) :: S) M := (rn_at k_L_law_964).trans rfl
theorem k_L_law_965 : lk 965 C_L_law = some (.iaload, (0, 0, 0, 0)) := by decide +kernel
theorem s_L_law_965 {ca : Nat → List Value → tM → tO} {M : tM} {L : tL} {a : Nat} {i : Int32} {S : List Value} : rn ca C_L_law 965 L (.int i :: .ref a :: S) M = if (akind a = 0 ∨ akind a = 6 ∨ akind a = 7) ∧ inb i (alen M a) then rn ca C_L_law 966 L (.int (M.1 a i.toInt.toNat) :: S) M else none := (rn_at k_L_law_965).trans rnx_ite
theorem k_L_law_966 : lk 966 C_L_law = some (.aload_n 0, (0, 0, 0, 0)) := by decide +kernel
theorem s_L_law_966 {ca : Nat → List Value → tM → tO} {M : tM} {a1 a2 a3 : Option Value} {x : Nat} {S : List Value} : rn ca C_L_law 966 [some (.ref x), a1, a2, a3] S M = rn ca C_L_law 967 [some (.ref x), a1, a2, a3] (.ref x :: S) M := (rn_at k_L_law_966).trans rfl
theorem k_L_law_967 : lk 967 C_L_law = some (.iload_n 3, (0, 0, 0, 0)) := by decide +kernel
theorem s_L_law_967 {ca : Nat → List Value → tM → tO} {M : tM} {a0 a1 a2 : Option Value} {x : Int32} {S : List Value} : rn ca C_L_law 967 [a0, a1, a2, some (.int x)] S M = rn ca C_L_law 968 [a0, a1, a2, some (.int x)] (.int x :: S) M := (rn_at k_L_law_967).trans rfl
theorem k_L_law_968 : lk 968 C_L_law = some (.iconst 3, (0, 0, 0, 0)) := by decide +kernel
theorem s_L_law_968 {ca : Nat → List Value → tM → tO} {M : tM} {L : tL} {S : List Value} : rn ca C_L_law 968 L S M = rn ca C_L_law 969 L (.int (iI 3) :: S) M := (rn_at k_L_law_968).trans rfl
theorem k_L_law_969 : lk 969 C_L_law = some (.iadd, (0, 0, 0, 0)) := by decide +kernel
theorem s_L_law_969 {ca : Nat → List Value → tM → tO} {M : tM} {L : tL} {x y : Int32} {S : List Value} : rn ca C_L_law 969 L (.int y :: .int x :: S) M = rn ca C_L_law 970 L (.int (x + y) :: S) M := (rn_at k_L_law_969).trans rfl
theorem k_L_law_970 : lk 970 C_L_law = some (.iaload, (0, 0, 0, 0)) := by decide +kernel
theorem s_L_law_970 {ca : Nat → List Value → tM → tO} {M : tM} {L : tL} {a : Nat} {i : Int32} {S : List Value} : rn ca C_L_law 970 L (.int i :: .ref a :: S) M = if (akind a = 0 ∨ akind a = 6 ∨ akind a = 7) ∧ inb i (alen M a) then rn ca C_L_law 971 L (.int (M.1 a i.toInt.toNat) :: S) M else none := (rn_at k_L_law_970).trans rnx_ite
theorem k_L_law_971 : lk 971 C_L_law = some (.aload_n 0, (0, 0, 0, 0)) := by decide +kernel
theorem s_L_law_971 {ca : Nat → List Value → tM → tO} {M : tM} {a1 a2 a3 : Option Value} {x : Nat} {S : List Value} : rn ca C_L_law 971 [some (.ref x), a1, a2, a3] S M = rn ca C_L_law 972 [some (.ref x), a1, a2, a3] (.ref x :: S) M := (rn_at k_L_law_971).trans rfl
theorem k_L_law_972 : lk 972 C_L_law = some (.iload_n 3, (0, 0, 0, 0)) := by decide +kernel
theorem s_L_law_972 {ca : Nat → List Value → tM → tO} {M : tM} {a0 a1 a2 : Option Value} {x : Int32} {S : List Value} : rn ca C_L_law 972 [a0, a1, a2, some (.int x)] S M = rn ca C_L_law 973 [a0, a1, a2, some (.int x)] (.int x :: S) M := (rn_at k_L_law_972).trans rfl
theorem k_L_law_973 : lk 973 C_L_law = some (.iconst 4, (0, 0, 0, 0)) := by decide +kernel
theorem s_L_law_973 {ca : Nat → List Value → tM → tO} {M : tM} {L : tL} {S : List Value} : rn ca C_L_law 973 L S M = rn ca C_L_law 974 L (.int (iI 4) :: S) M := (rn_at k_L_law_973).trans rfl
theorem k_L_law_974 : lk 974 C_L_law = some (.iadd, (0, 0, 0, 0)) := by decide +kernel
theorem s_L_law_974 {ca : Nat → List Value → tM → tO} {M : tM} {L : tL} {x y : Int32} {S : List Value} : rn ca C_L_law 974 L (.int y :: .int x :: S) M = rn ca C_L_law 975 L (.int (x + y) :: S) M := (rn_at k_L_law_974).trans rfl
theorem k_L_law_975 : lk 975 C_L_law = some (.iaload, (0, 0, 0, 0)) := by decide +kernel
theorem s_L_law_975 {ca : Nat → List Value → tM → tO} {M : tM} {L : tL} {a : Nat} {i : Int32} {S : List Value} : rn ca C_L_law 975 L (.int i :: .ref a :: S) M = if (akind a = 0 ∨ akind a = 6 ∨ akind a = 7) ∧ inb i (alen M a) then rn ca C_L_law 976 L (.int (M.1 a i.toInt.toNat) :: S) M else none := (rn_at k_L_law_975).trans rnx_ite
theorem k_L_law_976 : lk 976 C_L_law = some (.invokevirtual 107, (203, 4, 11, 855)) := by decide +kernel
theorem s_L_law_976 {ca : Nat → List Value → tM → tO} {M : tM} {L : tL} {v1 v2 v3 v4 : Value} {r0 : Int32} {b : Nat} : rn ca C_L_law 976 L [v4, v3, v2, v1, .ref b, .int r0] M = if clsO b = some 11 then rnk ca C_L_law 979 L [.int r0] (ca m_X11_round [.ref b, v1, v2, v3, v4] M) else none := (rn_at k_L_law_976).trans rnx_ite
theorem k_L_law_979 : lk 979 C_L_law = some (.if_icmp .eq 585, (1564, 0, 0, 0)) := by decide +kernel
theorem s_L_law_979 {ca : Nat → List Value → tM → tO} {M : tM} {L : tL} {x y : Int32} {S : List Value} : rn ca C_L_law 979 L (.int y :: .int x :: S) M = if x = y then rn ca C_L_law 1564 L S M else rn ca C_L_law 982 L S M := (rn_at k_L_law_979).trans rnx_ite
theorem k_L_law_982 : lk 982 C_L_law = some (.iconst 0, (0, 0, 0, 0)) := by decide +kernel
theorem s_L_law_982 {ca : Nat → List Value → tM → tO} {M : tM} {L : tL} {S : List Value} : rn ca C_L_law 982 L S M = rn ca C_L_law 983 L (.int (iI 0) :: S) M := (rn_at k_L_law_982).trans rfl
theorem k_L_law_983 : lk 983 C_L_law = some (.ireturn, (1, 0, 0, 0)) := by decide +kernel
theorem s_L_law_983 {ca : Nat → List Value → tM → tO} {M : tM} {L : tL} {x : Int32} : rn ca C_L_law 983 L [.int x] M = if x = iI 0 ∨ x = iI 1 then some (some (.int x), M) else none := (rn_at k_L_law_983).trans rnx_ite
theorem k_L_law_984 : lk 984 C_L_law = some (.aload_n 1, (0, 0, 0, 0)) := by decide +kernel
theorem s_L_law_984 {ca : Nat → List Value → tM → tO} {M : tM} {a0 a2 a3 : Option Value} {x : Nat} {S : List Value} : rn ca C_L_law 984 [a0, some (.ref x), a2, a3] S M = rn ca C_L_law 985 [a0, some (.ref x), a2, a3] (.ref x :: S) M := (rn_at k_L_law_984).trans rfl
theorem k_L_law_985 : lk 985 C_L_law = some (.aload_n 0, (0, 0, 0, 0)) := by decide +kernel
theorem s_L_law_985 {ca : Nat → List Value → tM → tO} {M : tM} {a1 a2 a3 : Option Value} {x : Nat} {S : List Value} : rn ca C_L_law 985 [some (.ref x), a1, a2, a3] S M = rn ca C_L_law 986 [some (.ref x), a1, a2, a3] (.ref x :: S) M := (rn_at k_L_law_985).trans rfl
theorem k_L_law_986 : lk 986 C_L_law = some (.iload_n 3, (0, 0, 0, 0)) := by decide +kernel
theorem s_L_law_986 {ca : Nat → List Value → tM → tO} {M : tM} {a0 a1 a2 : Option Value} {x : Int32} {S : List Value} : rn ca C_L_law 986 [a0, a1, a2, some (.int x)] S M = rn ca C_L_law 987 [a0, a1, a2, some (.int x)] (.int x :: S) M := (rn_at k_L_law_986).trans rfl
theorem k_L_law_987 : lk 987 C_L_law = some (.iconst 1, (0, 0, 0, 0)) := by decide +kernel
theorem s_L_law_987 {ca : Nat → List Value → tM → tO} {M : tM} {L : tL} {S : List Value} : rn ca C_L_law 987 L S M = rn ca C_L_law 988 L (.int (iI 1) :: S) M := (rn_at k_L_law_987).trans rfl
theorem k_L_law_988 : lk 988 C_L_law = some (.iadd, (0, 0, 0, 0)) := by decide +kernel
theorem s_L_law_988 {ca : Nat → List Value → tM → tO} {M : tM} {L : tL} {x y : Int32} {S : List Value} : rn ca C_L_law 988 L (.int y :: .int x :: S) M = rn ca C_L_law 989 L (.int (x + y) :: S) M := (rn_at k_L_law_988).trans rfl
theorem k_L_law_989 : lk 989 C_L_law = some (.iaload, (0, 0, 0, 0)) := by decide +kernel
theorem s_L_law_989 {ca : Nat → List Value → tM → tO} {M : tM} {L : tL} {a : Nat} {i : Int32} {S : List Value} : rn ca C_L_law 989 L (.int i :: .ref a :: S) M = if (akind a = 0 ∨ akind a = 6 ∨ akind a = 7) ∧ inb i (alen M a) then rn ca C_L_law 990 L (.int (M.1 a i.toInt.toNat) :: S) M else none := (rn_at k_L_law_989).trans rnx_ite
theorem k_L_law_990 : lk 990 C_L_law = some (.aload_n 0, (0, 0, 0, 0)) := by decide +kernel
theorem s_L_law_990 {ca : Nat → List Value → tM → tO} {M : tM} {a1 a2 a3 : Option Value} {x : Nat} {S : List Value} : rn ca C_L_law 990 [some (.ref x), a1, a2, a3] S M = rn ca C_L_law 991 [some (.ref x), a1, a2, a3] (.ref x :: S) M := (rn_at k_L_law_990).trans rfl
theorem k_L_law_991 : lk 991 C_L_law = some (.iload_n 3, (0, 0, 0, 0)) := by decide +kernel
theorem s_L_law_991 {ca : Nat → List Value → tM → tO} {M : tM} {a0 a1 a2 : Option Value} {x : Int32} {S : List Value} : rn ca C_L_law 991 [a0, a1, a2, some (.int x)] S M = rn ca C_L_law 992 [a0, a1, a2, some (.int x)] (.int x :: S) M := (rn_at k_L_law_991).trans rfl
theorem k_L_law_992 : lk 992 C_L_law = some (.iconst 2, (0, 0, 0, 0)) := by decide +kernel
theorem s_L_law_992 {ca : Nat → List Value → tM → tO} {M : tM} {L : tL} {S : List Value} : rn ca C_L_law 992 L S M = rn ca C_L_law 993 L (.int (iI 2) :: S) M := (rn_at k_L_law_992).trans rfl
theorem k_L_law_993 : lk 993 C_L_law = some (.iadd, (0, 0, 0, 0)) := by decide +kernel
theorem s_L_law_993 {ca : Nat → List Value → tM → tO} {M : tM} {L : tL} {x y : Int32} {S : List Value} : rn ca C_L_law 993 L (.int y :: .int x :: S) M = rn ca C_L_law 994 L (.int (x + y) :: S) M := (rn_at k_L_law_993).trans rfl
theorem k_L_law_994 : lk 994 C_L_law = some (.iaload, (0, 0, 0, 0)) := by decide +kernel
theorem s_L_law_994 {ca : Nat → List Value → tM → tO} {M : tM} {L : tL} {a : Nat} {i : Int32} {S : List Value} : rn ca C_L_law 994 L (.int i :: .ref a :: S) M = if (akind a = 0 ∨ akind a = 6 ∨ akind a = 7) ∧ inb i (alen M a) then rn ca C_L_law 995 L (.int (M.1 a i.toInt.toNat) :: S) M else none := (rn_at k_L_law_994).trans rnx_ite
theorem k_L_law_995 : lk 995 C_L_law = some (.aload_n 0, (0, 0, 0, 0)) := by decide +kernel
theorem s_L_law_995 {ca : Nat → List Value → tM → tO} {M : tM} {a1 a2 a3 : Option Value} {x : Nat} {S : List Value} : rn ca C_L_law 995 [some (.ref x), a1, a2, a3] S M = rn ca C_L_law 996 [some (.ref x), a1, a2, a3] (.ref x :: S) M := (rn_at k_L_law_995).trans rfl
theorem k_L_law_996 : lk 996 C_L_law = some (.iload_n 3, (0, 0, 0, 0)) := by decide +kernel
theorem s_L_law_996 {ca : Nat → List Value → tM → tO} {M : tM} {a0 a1 a2 : Option Value} {x : Int32} {S : List Value} : rn ca C_L_law 996 [a0, a1, a2, some (.int x)] S M = rn ca C_L_law 997 [a0, a1, a2, some (.int x)] (.int x :: S) M := (rn_at k_L_law_996).trans rfl
theorem k_L_law_997 : lk 997 C_L_law = some (.iconst 3, (0, 0, 0, 0)) := by decide +kernel
theorem s_L_law_997 {ca : Nat → List Value → tM → tO} {M : tM} {L : tL} {S : List Value} : rn ca C_L_law 997 L S M = rn ca C_L_law 998 L (.int (iI 3) :: S) M := (rn_at k_L_law_997).trans rfl
theorem k_L_law_998 : lk 998 C_L_law = some (.iadd, (0, 0, 0, 0)) := by decide +kernel
theorem s_L_law_998 {ca : Nat → List Value → tM → tO} {M : tM} {L : tL} {x y : Int32} {S : List Value} : rn ca C_L_law 998 L (.int y :: .int x :: S) M = rn ca C_L_law 999 L (.int (x + y) :: S) M := (rn_at k_L_law_998).trans rfl
theorem k_L_law_999 : lk 999 C_L_law = some (.iaload, (0, 0, 0, 0)) := by decide +kernel
theorem s_L_law_999 {ca : Nat → List Value → tM → tO} {M : tM} {L : tL} {a : Nat} {i : Int32} {S : List Value} : rn ca C_L_law 999 L (.int i :: .ref a :: S) M = if (akind a = 0 ∨ akind a = 6 ∨ akind a = 7) ∧ inb i (alen M a) then rn ca C_L_law 1000 L (.int (M.1 a i.toInt.toNat) :: S) M else none := (rn_at k_L_law_999).trans rnx_ite
theorem k_L_law_1000 : lk 1000 C_L_law = some (.invokevirtual 108, (116, 3, 10, 867)) := by decide +kernel
theorem s_L_law_1000 {ca : Nat → List Value → tM → tO} {M : tM} {L : tL} {v1 v2 v3 : Value} {b : Nat} : rn ca C_L_law 1000 L [v3, v2, v1, .ref b] M = if clsO b = some 10 then rnk ca C_L_law 1003 L [] (ca m_X10_meet [.ref b, v1, v2, v3] M) else none := (rn_at k_L_law_1000).trans rnx_ite
theorem k_L_law_1003 : lk 1003 C_L_law = some (.aload_n 2, (0, 0, 0, 0)) := by decide +kernel
theorem s_L_law_1003 {ca : Nat → List Value → tM → tO} {M : tM} {a0 a1 a3 : Option Value} {x : Nat} {S : List Value} : rn ca C_L_law 1003 [a0, a1, some (.ref x), a3] S M = rn ca C_L_law 1004 [a0, a1, some (.ref x), a3] (.ref x :: S) M := (rn_at k_L_law_1003).trans rfl
theorem k_L_law_1004 : lk 1004 C_L_law = some (.aload_n 0, (0, 0, 0, 0)) := by decide +kernel
theorem s_L_law_1004 {ca : Nat → List Value → tM → tO} {M : tM} {a1 a2 a3 : Option Value} {x : Nat} {S : List Value} : rn ca C_L_law 1004 [some (.ref x), a1, a2, a3] S M = rn ca C_L_law 1005 [some (.ref x), a1, a2, a3] (.ref x :: S) M := (rn_at k_L_law_1004).trans rfl
theorem k_L_law_1005 : lk 1005 C_L_law = some (.iload_n 3, (0, 0, 0, 0)) := by decide +kernel
theorem s_L_law_1005 {ca : Nat → List Value → tM → tO} {M : tM} {a0 a1 a2 : Option Value} {x : Int32} {S : List Value} : rn ca C_L_law 1005 [a0, a1, a2, some (.int x)] S M = rn ca C_L_law 1006 [a0, a1, a2, some (.int x)] (.int x :: S) M := (rn_at k_L_law_1005).trans rfl
theorem k_L_law_1006 : lk 1006 C_L_law = some (.iconst 1, (0, 0, 0, 0)) := by decide +kernel
theorem s_L_law_1006 {ca : Nat → List Value → tM → tO} {M : tM} {L : tL} {S : List Value} : rn ca C_L_law 1006 L S M = rn ca C_L_law 1007 L (.int (iI 1) :: S) M := (rn_at k_L_law_1006).trans rfl
theorem k_L_law_1007 : lk 1007 C_L_law = some (.iadd, (0, 0, 0, 0)) := by decide +kernel
theorem s_L_law_1007 {ca : Nat → List Value → tM → tO} {M : tM} {L : tL} {x y : Int32} {S : List Value} : rn ca C_L_law 1007 L (.int y :: .int x :: S) M = rn ca C_L_law 1008 L (.int (x + y) :: S) M := (rn_at k_L_law_1007).trans rfl
theorem k_L_law_1008 : lk 1008 C_L_law = some (.iaload, (0, 0, 0, 0)) := by decide +kernel
theorem s_L_law_1008 {ca : Nat → List Value → tM → tO} {M : tM} {L : tL} {a : Nat} {i : Int32} {S : List Value} : rn ca C_L_law 1008 L (.int i :: .ref a :: S) M = if (akind a = 0 ∨ akind a = 6 ∨ akind a = 7) ∧ inb i (alen M a) then rn ca C_L_law 1009 L (.int (M.1 a i.toInt.toNat) :: S) M else none := (rn_at k_L_law_1008).trans rnx_ite
theorem k_L_law_1009 : lk 1009 C_L_law = some (.aload_n 0, (0, 0, 0, 0)) := by decide +kernel
theorem s_L_law_1009 {ca : Nat → List Value → tM → tO} {M : tM} {a1 a2 a3 : Option Value} {x : Nat} {S : List Value} : rn ca C_L_law 1009 [some (.ref x), a1, a2, a3] S M = rn ca C_L_law 1010 [some (.ref x), a1, a2, a3] (.ref x :: S) M := (rn_at k_L_law_1009).trans rfl
theorem k_L_law_1010 : lk 1010 C_L_law = some (.iload_n 3, (0, 0, 0, 0)) := by decide +kernel
theorem s_L_law_1010 {ca : Nat → List Value → tM → tO} {M : tM} {a0 a1 a2 : Option Value} {x : Int32} {S : List Value} : rn ca C_L_law 1010 [a0, a1, a2, some (.int x)] S M = rn ca C_L_law 1011 [a0, a1, a2, some (.int x)] (.int x :: S) M := (rn_at k_L_law_1010).trans rfl
theorem k_L_law_1011 : lk 1011 C_L_law = some (.iconst 2, (0, 0, 0, 0)) := by decide +kernel
theorem s_L_law_1011 {ca : Nat → List Value → tM → tO} {M : tM} {L : tL} {S : List Value} : rn ca C_L_law 1011 L S M = rn ca C_L_law 1012 L (.int (iI 2) :: S) M := (rn_at k_L_law_1011).trans rfl
theorem k_L_law_1012 : lk 1012 C_L_law = some (.iadd, (0, 0, 0, 0)) := by decide +kernel
theorem s_L_law_1012 {ca : Nat → List Value → tM → tO} {M : tM} {L : tL} {x y : Int32} {S : List Value} : rn ca C_L_law 1012 L (.int y :: .int x :: S) M = rn ca C_L_law 1013 L (.int (x + y) :: S) M := (rn_at k_L_law_1012).trans rfl
theorem k_L_law_1013 : lk 1013 C_L_law = some (.iaload, (0, 0, 0, 0)) := by decide +kernel
theorem s_L_law_1013 {ca : Nat → List Value → tM → tO} {M : tM} {L : tL} {a : Nat} {i : Int32} {S : List Value} : rn ca C_L_law 1013 L (.int i :: .ref a :: S) M = if (akind a = 0 ∨ akind a = 6 ∨ akind a = 7) ∧ inb i (alen M a) then rn ca C_L_law 1014 L (.int (M.1 a i.toInt.toNat) :: S) M else none := (rn_at k_L_law_1013).trans rnx_ite
theorem k_L_law_1014 : lk 1014 C_L_law = some (.aload_n 0, (0, 0, 0, 0)) := by decide +kernel
theorem s_L_law_1014 {ca : Nat → List Value → tM → tO} {M : tM} {a1 a2 a3 : Option Value} {x : Nat} {S : List Value} : rn ca C_L_law 1014 [some (.ref x), a1, a2, a3] S M = rn ca C_L_law 1015 [some (.ref x), a1, a2, a3] (.ref x :: S) M := (rn_at k_L_law_1014).trans rfl
theorem k_L_law_1015 : lk 1015 C_L_law = some (.iload_n 3, (0, 0, 0, 0)) := by decide +kernel
theorem s_L_law_1015 {ca : Nat → List Value → tM → tO} {M : tM} {a0 a1 a2 : Option Value} {x : Int32} {S : List Value} : rn ca C_L_law 1015 [a0, a1, a2, some (.int x)] S M = rn ca C_L_law 1016 [a0, a1, a2, some (.int x)] (.int x :: S) M := (rn_at k_L_law_1015).trans rfl
theorem k_L_law_1016 : lk 1016 C_L_law = some (.iconst 3, (0, 0, 0, 0)) := by decide +kernel
theorem s_L_law_1016 {ca : Nat → List Value → tM → tO} {M : tM} {L : tL} {S : List Value} : rn ca C_L_law 1016 L S M = rn ca C_L_law 1017 L (.int (iI 3) :: S) M := (rn_at k_L_law_1016).trans rfl
theorem k_L_law_1017 : lk 1017 C_L_law = some (.iadd, (0, 0, 0, 0)) := by decide +kernel
theorem s_L_law_1017 {ca : Nat → List Value → tM → tO} {M : tM} {L : tL} {x y : Int32} {S : List Value} : rn ca C_L_law 1017 L (.int y :: .int x :: S) M = rn ca C_L_law 1018 L (.int (x + y) :: S) M := (rn_at k_L_law_1017).trans rfl
theorem k_L_law_1018 : lk 1018 C_L_law = some (.iaload, (0, 0, 0, 0)) := by decide +kernel
theorem s_L_law_1018 {ca : Nat → List Value → tM → tO} {M : tM} {L : tL} {a : Nat} {i : Int32} {S : List Value} : rn ca C_L_law 1018 L (.int i :: .ref a :: S) M = if (akind a = 0 ∨ akind a = 6 ∨ akind a = 7) ∧ inb i (alen M a) then rn ca C_L_law 1019 L (.int (M.1 a i.toInt.toNat) :: S) M else none := (rn_at k_L_law_1018).trans rnx_ite
theorem k_L_law_1019 : lk 1019 C_L_law = some (.invokevirtual 111, (204, 3, 11, 885)) := by decide +kernel
theorem s_L_law_1019 {ca : Nat → List Value → tM → tO} {M : tM} {L : tL} {v1 v2 v3 : Value} {r0 : Int32} {b : Nat} : rn ca C_L_law 1019 L [v3, v2, v1, .ref b, .int r0] M = if clsO b = some 11 then rnk ca C_L_law 1022 L [.int r0] (ca m_X11_meet [.ref b, v1, v2, v3] M) else none := (rn_at k_L_law_1019).trans rnx_ite
theorem k_L_law_1022 : lk 1022 C_L_law = some (.if_icmp .eq 542, (1564, 0, 0, 0)) := by decide +kernel
theorem s_L_law_1022 {ca : Nat → List Value → tM → tO} {M : tM} {L : tL} {x y : Int32} {S : List Value} : rn ca C_L_law 1022 L (.int y :: .int x :: S) M = if x = y then rn ca C_L_law 1564 L S M else rn ca C_L_law 1025 L S M := (rn_at k_L_law_1022).trans rnx_ite
theorem k_L_law_1025 : lk 1025 C_L_law = some (.iconst 0, (0, 0, 0, 0)) := by decide +kernel
theorem s_L_law_1025 {ca : Nat → List Value → tM → tO} {M : tM} {L : tL} {S : List Value} : rn ca C_L_law 1025 L S M = rn ca C_L_law 1026 L (.int (iI 0) :: S) M := (rn_at k_L_law_1025).trans rfl
theorem k_L_law_1026 : lk 1026 C_L_law = some (.ireturn, (1, 0, 0, 0)) := by decide +kernel
theorem s_L_law_1026 {ca : Nat → List Value → tM → tO} {M : tM} {L : tL} {x : Int32} : rn ca C_L_law 1026 L [.int x] M = if x = iI 0 ∨ x = iI 1 then some (some (.int x), M) else none := (rn_at k_L_law_1026).trans rnx_ite
theorem k_L_law_1027 : lk 1027 C_L_law = some (.aload_n 1, (0, 0, 0, 0)) := by decide +kernel
theorem s_L_law_1027 {ca : Nat → List Value → tM → tO} {M : tM} {a0 a2 a3 : Option Value} {x : Nat} {S : List Value} : rn ca C_L_law 1027 [a0, some (.ref x), a2, a3] S M = rn ca C_L_law 1028 [a0, some (.ref x), a2, a3] (.ref x :: S) M := (rn_at k_L_law_1027).trans rfl
theorem k_L_law_1028 : lk 1028 C_L_law = some (.aload_n 0, (0, 0, 0, 0)) := by decide +kernel
theorem s_L_law_1028 {ca : Nat → List Value → tM → tO} {M : tM} {a1 a2 a3 : Option Value} {x : Nat} {S : List Value} : rn ca C_L_law 1028 [some (.ref x), a1, a2, a3] S M = rn ca C_L_law 1029 [some (.ref x), a1, a2, a3] (.ref x :: S) M := (rn_at k_L_law_1028).trans rfl
theorem k_L_law_1029 : lk 1029 C_L_law = some (.iload_n 3, (0, 0, 0, 0)) := by decide +kernel
theorem s_L_law_1029 {ca : Nat → List Value → tM → tO} {M : tM} {a0 a1 a2 : Option Value} {x : Int32} {S : List Value} : rn ca C_L_law 1029 [a0, a1, a2, some (.int x)] S M = rn ca C_L_law 1030 [a0, a1, a2, some (.int x)] (.int x :: S) M := (rn_at k_L_law_1029).trans rfl
theorem k_L_law_1030 : lk 1030 C_L_law = some (.iconst 1, (0, 0, 0, 0)) := by decide +kernel
theorem s_L_law_1030 {ca : Nat → List Value → tM → tO} {M : tM} {L : tL} {S : List Value} : rn ca C_L_law 1030 L S M = rn ca C_L_law 1031 L (.int (iI 1) :: S) M := (rn_at k_L_law_1030).trans rfl
theorem k_L_law_1031 : lk 1031 C_L_law = some (.iadd, (0, 0, 0, 0)) := by decide +kernel
theorem s_L_law_1031 {ca : Nat → List Value → tM → tO} {M : tM} {L : tL} {x y : Int32} {S : List Value} : rn ca C_L_law 1031 L (.int y :: .int x :: S) M = rn ca C_L_law 1032 L (.int (x + y) :: S) M := (rn_at k_L_law_1031).trans rfl
theorem k_L_law_1032 : lk 1032 C_L_law = some (.iaload, (0, 0, 0, 0)) := by decide +kernel
theorem s_L_law_1032 {ca : Nat → List Value → tM → tO} {M : tM} {L : tL} {a : Nat} {i : Int32} {S : List Value} : rn ca C_L_law 1032 L (.int i :: .ref a :: S) M = if (akind a = 0 ∨ akind a = 6 ∨ akind a = 7) ∧ inb i (alen M a) then rn ca C_L_law 1033 L (.int (M.1 a i.toInt.toNat) :: S) M else none := (rn_at k_L_law_1032).trans rnx_ite
theorem k_L_law_1033 : lk 1033 C_L_law = some (.aload_n 0, (0, 0, 0, 0)) := by decide +kernel
theorem s_L_law_1033 {ca : Nat → List Value → tM → tO} {M : tM} {a1 a2 a3 : Option Value} {x : Nat} {S : List Value} : rn ca C_L_law 1033 [some (.ref x), a1, a2, a3] S M = rn ca C_L_law 1034 [some (.ref x), a1, a2, a3] (.ref x :: S) M := (rn_at k_L_law_1033).trans rfl
theorem k_L_law_1034 : lk 1034 C_L_law = some (.iload_n 3, (0, 0, 0, 0)) := by decide +kernel
theorem s_L_law_1034 {ca : Nat → List Value → tM → tO} {M : tM} {a0 a1 a2 : Option Value} {x : Int32} {S : List Value} : rn ca C_L_law 1034 [a0, a1, a2, some (.int x)] S M = rn ca C_L_law 1035 [a0, a1, a2, some (.int x)] (.int x :: S) M := (rn_at k_L_law_1034).trans rfl
theorem k_L_law_1035 : lk 1035 C_L_law = some (.iconst 2, (0, 0, 0, 0)) := by decide +kernel
theorem s_L_law_1035 {ca : Nat → List Value → tM → tO} {M : tM} {L : tL} {S : List Value} : rn ca C_L_law 1035 L S M = rn ca C_L_law 1036 L (.int (iI 2) :: S) M := (rn_at k_L_law_1035).trans rfl
theorem k_L_law_1036 : lk 1036 C_L_law = some (.iadd, (0, 0, 0, 0)) := by decide +kernel
theorem s_L_law_1036 {ca : Nat → List Value → tM → tO} {M : tM} {L : tL} {x y : Int32} {S : List Value} : rn ca C_L_law 1036 L (.int y :: .int x :: S) M = rn ca C_L_law 1037 L (.int (x + y) :: S) M := (rn_at k_L_law_1036).trans rfl
theorem k_L_law_1037 : lk 1037 C_L_law = some (.iaload, (0, 0, 0, 0)) := by decide +kernel
theorem s_L_law_1037 {ca : Nat → List Value → tM → tO} {M : tM} {L : tL} {a : Nat} {i : Int32} {S : List Value} : rn ca C_L_law 1037 L (.int i :: .ref a :: S) M = if (akind a = 0 ∨ akind a = 6 ∨ akind a = 7) ∧ inb i (alen M a) then rn ca C_L_law 1038 L (.int (M.1 a i.toInt.toNat) :: S) M else none := (rn_at k_L_law_1037).trans rnx_ite
theorem k_L_law_1038 : lk 1038 C_L_law = some (.aload_n 0, (0, 0, 0, 0)) := by decide +kernel
theorem s_L_law_1038 {ca : Nat → List Value → tM → tO} {M : tM} {a1 a2 a3 : Option Value} {x : Nat} {S : List Value} : rn ca C_L_law 1038 [some (.ref x), a1, a2, a3] S M = rn ca C_L_law 1039 [some (.ref x), a1, a2, a3] (.ref x :: S) M := (rn_at k_L_law_1038).trans rfl
theorem k_L_law_1039 : lk 1039 C_L_law = some (.iload_n 3, (0, 0, 0, 0)) := by decide +kernel
theorem s_L_law_1039 {ca : Nat → List Value → tM → tO} {M : tM} {a0 a1 a2 : Option Value} {x : Int32} {S : List Value} : rn ca C_L_law 1039 [a0, a1, a2, some (.int x)] S M = rn ca C_L_law 1040 [a0, a1, a2, some (.int x)] (.int x :: S) M := (rn_at k_L_law_1039).trans rfl
theorem k_L_law_1040 : lk 1040 C_L_law = some (.iconst 3, (0, 0, 0, 0)) := by decide +kernel
theorem s_L_law_1040 {ca : Nat → List Value → tM → tO} {M : tM} {L : tL} {S : List Value} : rn ca C_L_law 1040 L S M = rn ca C_L_law 1041 L (.int (iI 3) :: S) M := (rn_at k_L_law_1040).trans rfl
theorem k_L_law_1041 : lk 1041 C_L_law = some (.iadd, (0, 0, 0, 0)) := by decide +kernel
theorem s_L_law_1041 {ca : Nat → List Value → tM → tO} {M : tM} {L : tL} {x y : Int32} {S : List Value} : rn ca C_L_law 1041 L (.int y :: .int x :: S) M = rn ca C_L_law 1042 L (.int (x + y) :: S) M := (rn_at k_L_law_1041).trans rfl
theorem k_L_law_1042 : lk 1042 C_L_law = some (.iaload, (0, 0, 0, 0)) := by decide +kernel
theorem s_L_law_1042 {ca : Nat → List Value → tM → tO} {M : tM} {L : tL} {a : Nat} {i : Int32} {S : List Value} : rn ca C_L_law 1042 L (.int i :: .ref a :: S) M = if (akind a = 0 ∨ akind a = 6 ∨ akind a = 7) ∧ inb i (alen M a) then rn ca C_L_law 1043 L (.int (M.1 a i.toInt.toNat) :: S) M else none := (rn_at k_L_law_1042).trans rnx_ite
theorem k_L_law_1043 : lk 1043 C_L_law = some (.invokevirtual 112, (117, 3, 10, 889)) := by decide +kernel
theorem s_L_law_1043 {ca : Nat → List Value → tM → tO} {M : tM} {L : tL} {v1 v2 v3 : Value} {b : Nat} : rn ca C_L_law 1043 L [v3, v2, v1, .ref b] M = if clsO b = some 10 then rnk ca C_L_law 1046 L [] (ca m_X10_cut [.ref b, v1, v2, v3] M) else none := (rn_at k_L_law_1043).trans rnx_ite
theorem k_L_law_1046 : lk 1046 C_L_law = some (.aload_n 2, (0, 0, 0, 0)) := by decide +kernel
theorem s_L_law_1046 {ca : Nat → List Value → tM → tO} {M : tM} {a0 a1 a3 : Option Value} {x : Nat} {S : List Value} : rn ca C_L_law 1046 [a0, a1, some (.ref x), a3] S M = rn ca C_L_law 1047 [a0, a1, some (.ref x), a3] (.ref x :: S) M := (rn_at k_L_law_1046).trans rfl
theorem k_L_law_1047 : lk 1047 C_L_law = some (.aload_n 0, (0, 0, 0, 0)) := by decide +kernel
theorem s_L_law_1047 {ca : Nat → List Value → tM → tO} {M : tM} {a1 a2 a3 : Option Value} {x : Nat} {S : List Value} : rn ca C_L_law 1047 [some (.ref x), a1, a2, a3] S M = rn ca C_L_law 1048 [some (.ref x), a1, a2, a3] (.ref x :: S) M := (rn_at k_L_law_1047).trans rfl
theorem k_L_law_1048 : lk 1048 C_L_law = some (.iload_n 3, (0, 0, 0, 0)) := by decide +kernel
theorem s_L_law_1048 {ca : Nat → List Value → tM → tO} {M : tM} {a0 a1 a2 : Option Value} {x : Int32} {S : List Value} : rn ca C_L_law 1048 [a0, a1, a2, some (.int x)] S M = rn ca C_L_law 1049 [a0, a1, a2, some (.int x)] (.int x :: S) M := (rn_at k_L_law_1048).trans rfl
theorem k_L_law_1049 : lk 1049 C_L_law = some (.iconst 1, (0, 0, 0, 0)) := by decide +kernel
theorem s_L_law_1049 {ca : Nat → List Value → tM → tO} {M : tM} {L : tL} {S : List Value} : rn ca C_L_law 1049 L S M = rn ca C_L_law 1050 L (.int (iI 1) :: S) M := (rn_at k_L_law_1049).trans rfl
theorem k_L_law_1050 : lk 1050 C_L_law = some (.iadd, (0, 0, 0, 0)) := by decide +kernel
theorem s_L_law_1050 {ca : Nat → List Value → tM → tO} {M : tM} {L : tL} {x y : Int32} {S : List Value} : rn ca C_L_law 1050 L (.int y :: .int x :: S) M = rn ca C_L_law 1051 L (.int (x + y) :: S) M := (rn_at k_L_law_1050).trans rfl
theorem k_L_law_1051 : lk 1051 C_L_law = some (.iaload, (0, 0, 0, 0)) := by decide +kernel
theorem s_L_law_1051 {ca : Nat → List Value → tM → tO} {M : tM} {L : tL} {a : Nat} {i : Int32} {S : List Value} : rn ca C_L_law 1051 L (.int i :: .ref a :: S) M = if (akind a = 0 ∨ akind a = 6 ∨ akind a = 7) ∧ inb i (alen M a) then rn ca C_L_law 1052 L (.int (M.1 a i.toInt.toNat) :: S) M else none := (rn_at k_L_law_1051).trans rnx_ite
theorem k_L_law_1052 : lk 1052 C_L_law = some (.aload_n 0, (0, 0, 0, 0)) := by decide +kernel
theorem s_L_law_1052 {ca : Nat → List Value → tM → tO} {M : tM} {a1 a2 a3 : Option Value} {x : Nat} {S : List Value} : rn ca C_L_law 1052 [some (.ref x), a1, a2, a3] S M = rn ca C_L_law 1053 [some (.ref x), a1, a2, a3] (.ref x :: S) M := (rn_at k_L_law_1052).trans rfl
theorem k_L_law_1053 : lk 1053 C_L_law = some (.iload_n 3, (0, 0, 0, 0)) := by decide +kernel
theorem s_L_law_1053 {ca : Nat → List Value → tM → tO} {M : tM} {a0 a1 a2 : Option Value} {x : Int32} {S : List Value} : rn ca C_L_law 1053 [a0, a1, a2, some (.int x)] S M = rn ca C_L_law 1054 [a0, a1, a2, some (.int x)] (.int x :: S) M := (rn_at k_L_law_1053).trans rfl
theorem k_L_law_1054 : lk 1054 C_L_law = some (.iconst 2, (0, 0, 0, 0)) := by decide +kernel
theorem s_L_law_1054 {ca : Nat → List Value → tM → tO} {M : tM} {L : tL} {S : List Value} : rn ca C_L_law 1054 L S M = rn ca C_L_law 1055 L (.int (iI 2) :: S) M := (rn_at k_L_law_1054).trans rfl
theorem k_L_law_1055 : lk 1055 C_L_law = some (.iadd, (0, 0, 0, 0)) := by decide +kernel
theorem s_L_law_1055 {ca : Nat → List Value → tM → tO} {M : tM} {L : tL} {x y : Int32} {S : List Value} : rn ca C_L_law 1055 L (.int y :: .int x :: S) M = rn ca C_L_law 1056 L (.int (x + y) :: S) M := (rn_at k_L_law_1055).trans rfl
theorem k_L_law_1056 : lk 1056 C_L_law = some (.iaload, (0, 0, 0, 0)) := by decide +kernel
theorem s_L_law_1056 {ca : Nat → List Value → tM → tO} {M : tM} {L : tL} {a : Nat} {i : Int32} {S : List Value} : rn ca C_L_law 1056 L (.int i :: .ref a :: S) M = if (akind a = 0 ∨ akind a = 6 ∨ akind a = 7) ∧ inb i (alen M a) then rn ca C_L_law 1057 L (.int (M.1 a i.toInt.toNat) :: S) M else none := (rn_at k_L_law_1056).trans rnx_ite
theorem k_L_law_1057 : lk 1057 C_L_law = some (.aload_n 0, (0, 0, 0, 0)) := by decide +kernel
theorem s_L_law_1057 {ca : Nat → List Value → tM → tO} {M : tM} {a1 a2 a3 : Option Value} {x : Nat} {S : List Value} : rn ca C_L_law 1057 [some (.ref x), a1, a2, a3] S M = rn ca C_L_law 1058 [some (.ref x), a1, a2, a3] (.ref x :: S) M := (rn_at k_L_law_1057).trans rfl
theorem k_L_law_1058 : lk 1058 C_L_law = some (.iload_n 3, (0, 0, 0, 0)) := by decide +kernel
theorem s_L_law_1058 {ca : Nat → List Value → tM → tO} {M : tM} {a0 a1 a2 : Option Value} {x : Int32} {S : List Value} : rn ca C_L_law 1058 [a0, a1, a2, some (.int x)] S M = rn ca C_L_law 1059 [a0, a1, a2, some (.int x)] (.int x :: S) M := (rn_at k_L_law_1058).trans rfl
theorem k_L_law_1059 : lk 1059 C_L_law = some (.iconst 3, (0, 0, 0, 0)) := by decide +kernel
theorem s_L_law_1059 {ca : Nat → List Value → tM → tO} {M : tM} {L : tL} {S : List Value} : rn ca C_L_law 1059 L S M = rn ca C_L_law 1060 L (.int (iI 3) :: S) M := (rn_at k_L_law_1059).trans rfl
theorem k_L_law_1060 : lk 1060 C_L_law = some (.iadd, (0, 0, 0, 0)) := by decide +kernel
theorem s_L_law_1060 {ca : Nat → List Value → tM → tO} {M : tM} {L : tL} {x y : Int32} {S : List Value} : rn ca C_L_law 1060 L (.int y :: .int x :: S) M = rn ca C_L_law 1061 L (.int (x + y) :: S) M := (rn_at k_L_law_1060).trans rfl
theorem k_L_law_1061 : lk 1061 C_L_law = some (.iaload, (0, 0, 0, 0)) := by decide +kernel
theorem s_L_law_1061 {ca : Nat → List Value → tM → tO} {M : tM} {L : tL} {a : Nat} {i : Int32} {S : List Value} : rn ca C_L_law 1061 L (.int i :: .ref a :: S) M = if (akind a = 0 ∨ akind a = 6 ∨ akind a = 7) ∧ inb i (alen M a) then rn ca C_L_law 1062 L (.int (M.1 a i.toInt.toNat) :: S) M else none := (rn_at k_L_law_1061).trans rnx_ite
theorem k_L_law_1062 : lk 1062 C_L_law = some (.invokevirtual 115, (208, 3, 11, 920)) := by decide +kernel
theorem s_L_law_1062 {ca : Nat → List Value → tM → tO} {M : tM} {L : tL} {v1 v2 v3 : Value} {r0 : Int32} {b : Nat} : rn ca C_L_law 1062 L [v3, v2, v1, .ref b, .int r0] M = if clsO b = some 11 then rnk ca C_L_law 1065 L [.int r0] (ca m_X11_cut [.ref b, v1, v2, v3] M) else none := (rn_at k_L_law_1062).trans rnx_ite
theorem k_L_law_1065 : lk 1065 C_L_law = some (.if_icmp .eq 499, (1564, 0, 0, 0)) := by decide +kernel
theorem s_L_law_1065 {ca : Nat → List Value → tM → tO} {M : tM} {L : tL} {x y : Int32} {S : List Value} : rn ca C_L_law 1065 L (.int y :: .int x :: S) M = if x = y then rn ca C_L_law 1564 L S M else rn ca C_L_law 1068 L S M := (rn_at k_L_law_1065).trans rnx_ite
theorem k_L_law_1068 : lk 1068 C_L_law = some (.iconst 0, (0, 0, 0, 0)) := by decide +kernel
theorem s_L_law_1068 {ca : Nat → List Value → tM → tO} {M : tM} {L : tL} {S : List Value} : rn ca C_L_law 1068 L S M = rn ca C_L_law 1069 L (.int (iI 0) :: S) M := (rn_at k_L_law_1068).trans rfl
theorem k_L_law_1069 : lk 1069 C_L_law = some (.ireturn, (1, 0, 0, 0)) := by decide +kernel
theorem s_L_law_1069 {ca : Nat → List Value → tM → tO} {M : tM} {L : tL} {x : Int32} : rn ca C_L_law 1069 L [.int x] M = if x = iI 0 ∨ x = iI 1 then some (some (.int x), M) else none := (rn_at k_L_law_1069).trans rnx_ite
theorem k_L_law_1070 : lk 1070 C_L_law = some (.aload_n 1, (0, 0, 0, 0)) := by decide +kernel
theorem s_L_law_1070 {ca : Nat → List Value → tM → tO} {M : tM} {a0 a2 a3 : Option Value} {x : Nat} {S : List Value} : rn ca C_L_law 1070 [a0, some (.ref x), a2, a3] S M = rn ca C_L_law 1071 [a0, some (.ref x), a2, a3] (.ref x :: S) M := (rn_at k_L_law_1070).trans rfl
theorem k_L_law_1071 : lk 1071 C_L_law = some (.aload_n 0, (0, 0, 0, 0)) := by decide +kernel
theorem s_L_law_1071 {ca : Nat → List Value → tM → tO} {M : tM} {a1 a2 a3 : Option Value} {x : Nat} {S : List Value} : rn ca C_L_law 1071 [some (.ref x), a1, a2, a3] S M = rn ca C_L_law 1072 [some (.ref x), a1, a2, a3] (.ref x :: S) M := (rn_at k_L_law_1071).trans rfl
theorem k_L_law_1072 : lk 1072 C_L_law = some (.iload_n 3, (0, 0, 0, 0)) := by decide +kernel
theorem s_L_law_1072 {ca : Nat → List Value → tM → tO} {M : tM} {a0 a1 a2 : Option Value} {x : Int32} {S : List Value} : rn ca C_L_law 1072 [a0, a1, a2, some (.int x)] S M = rn ca C_L_law 1073 [a0, a1, a2, some (.int x)] (.int x :: S) M := (rn_at k_L_law_1072).trans rfl
theorem k_L_law_1073 : lk 1073 C_L_law = some (.iconst 1, (0, 0, 0, 0)) := by decide +kernel
theorem s_L_law_1073 {ca : Nat → List Value → tM → tO} {M : tM} {L : tL} {S : List Value} : rn ca C_L_law 1073 L S M = rn ca C_L_law 1074 L (.int (iI 1) :: S) M := (rn_at k_L_law_1073).trans rfl
theorem k_L_law_1074 : lk 1074 C_L_law = some (.iadd, (0, 0, 0, 0)) := by decide +kernel
theorem s_L_law_1074 {ca : Nat → List Value → tM → tO} {M : tM} {L : tL} {x y : Int32} {S : List Value} : rn ca C_L_law 1074 L (.int y :: .int x :: S) M = rn ca C_L_law 1075 L (.int (x + y) :: S) M := (rn_at k_L_law_1074).trans rfl
theorem k_L_law_1075 : lk 1075 C_L_law = some (.iaload, (0, 0, 0, 0)) := by decide +kernel
theorem s_L_law_1075 {ca : Nat → List Value → tM → tO} {M : tM} {L : tL} {a : Nat} {i : Int32} {S : List Value} : rn ca C_L_law 1075 L (.int i :: .ref a :: S) M = if (akind a = 0 ∨ akind a = 6 ∨ akind a = 7) ∧ inb i (alen M a) then rn ca C_L_law 1076 L (.int (M.1 a i.toInt.toNat) :: S) M else none := (rn_at k_L_law_1075).trans rnx_ite
theorem k_L_law_1076 : lk 1076 C_L_law = some (.aload_n 0, (0, 0, 0, 0)) := by decide +kernel
theorem s_L_law_1076 {ca : Nat → List Value → tM → tO} {M : tM} {a1 a2 a3 : Option Value} {x : Nat} {S : List Value} : rn ca C_L_law 1076 [some (.ref x), a1, a2, a3] S M = rn ca C_L_law 1077 [some (.ref x), a1, a2, a3] (.ref x :: S) M := (rn_at k_L_law_1076).trans rfl
theorem k_L_law_1077 : lk 1077 C_L_law = some (.iload_n 3, (0, 0, 0, 0)) := by decide +kernel
theorem s_L_law_1077 {ca : Nat → List Value → tM → tO} {M : tM} {a0 a1 a2 : Option Value} {x : Int32} {S : List Value} : rn ca C_L_law 1077 [a0, a1, a2, some (.int x)] S M = rn ca C_L_law 1078 [a0, a1, a2, some (.int x)] (.int x :: S) M := (rn_at k_L_law_1077).trans rfl
theorem k_L_law_1078 : lk 1078 C_L_law = some (.iconst 2, (0, 0, 0, 0)) := by decide +kernel
theorem s_L_law_1078 {ca : Nat → List Value → tM → tO} {M : tM} {L : tL} {S : List Value} : rn ca C_L_law 1078 L S M = rn ca C_L_law 1079 L (.int (iI 2) :: S) M := (rn_at k_L_law_1078).trans rfl
theorem k_L_law_1079 : lk 1079 C_L_law = some (.iadd, (0, 0, 0, 0)) := by decide +kernel
theorem s_L_law_1079 {ca : Nat → List Value → tM → tO} {M : tM} {L : tL} {x y : Int32} {S : List Value} : rn ca C_L_law 1079 L (.int y :: .int x :: S) M = rn ca C_L_law 1080 L (.int (x + y) :: S) M := (rn_at k_L_law_1079).trans rfl
theorem k_L_law_1080 : lk 1080 C_L_law = some (.iaload, (0, 0, 0, 0)) := by decide +kernel
theorem s_L_law_1080 {ca : Nat → List Value → tM → tO} {M : tM} {L : tL} {a : Nat} {i : Int32} {S : List Value} : rn ca C_L_law 1080 L (.int i :: .ref a :: S) M = if (akind a = 0 ∨ akind a = 6 ∨ akind a = 7) ∧ inb i (alen M a) then rn ca C_L_law 1081 L (.int (M.1 a i.toInt.toNat) :: S) M else none := (rn_at k_L_law_1080).trans rnx_ite
theorem k_L_law_1081 : lk 1081 C_L_law = some (.invokevirtual 116, (118, 2, 10, 936)) := by decide +kernel
theorem s_L_law_1081 {ca : Nat → List Value → tM → tO} {M : tM} {L : tL} {v1 v2 : Value} {b : Nat} : rn ca C_L_law 1081 L [v2, v1, .ref b] M = if clsO b = some 10 then rnk ca C_L_law 1084 L [] (ca m_X10_stuck [.ref b, v1, v2] M) else none := (rn_at k_L_law_1081).trans rnx_ite
theorem k_L_law_1084 : lk 1084 C_L_law = some (.aload_n 2, (0, 0, 0, 0)) := by decide +kernel
theorem s_L_law_1084 {ca : Nat → List Value → tM → tO} {M : tM} {a0 a1 a3 : Option Value} {x : Nat} {S : List Value} : rn ca C_L_law 1084 [a0, a1, some (.ref x), a3] S M = rn ca C_L_law 1085 [a0, a1, some (.ref x), a3] (.ref x :: S) M := (rn_at k_L_law_1084).trans rfl
theorem k_L_law_1085 : lk 1085 C_L_law = some (.aload_n 0, (0, 0, 0, 0)) := by decide +kernel
theorem s_L_law_1085 {ca : Nat → List Value → tM → tO} {M : tM} {a1 a2 a3 : Option Value} {x : Nat} {S : List Value} : rn ca C_L_law 1085 [some (.ref x), a1, a2, a3] S M = rn ca C_L_law 1086 [some (.ref x), a1, a2, a3] (.ref x :: S) M := (rn_at k_L_law_1085).trans rfl
theorem k_L_law_1086 : lk 1086 C_L_law = some (.iload_n 3, (0, 0, 0, 0)) := by decide +kernel
theorem s_L_law_1086 {ca : Nat → List Value → tM → tO} {M : tM} {a0 a1 a2 : Option Value} {x : Int32} {S : List Value} : rn ca C_L_law 1086 [a0, a1, a2, some (.int x)] S M = rn ca C_L_law 1087 [a0, a1, a2, some (.int x)] (.int x :: S) M := (rn_at k_L_law_1086).trans rfl
theorem k_L_law_1087 : lk 1087 C_L_law = some (.iconst 1, (0, 0, 0, 0)) := by decide +kernel
theorem s_L_law_1087 {ca : Nat → List Value → tM → tO} {M : tM} {L : tL} {S : List Value} : rn ca C_L_law 1087 L S M = rn ca C_L_law 1088 L (.int (iI 1) :: S) M := (rn_at k_L_law_1087).trans rfl
theorem k_L_law_1088 : lk 1088 C_L_law = some (.iadd, (0, 0, 0, 0)) := by decide +kernel
theorem s_L_law_1088 {ca : Nat → List Value → tM → tO} {M : tM} {L : tL} {x y : Int32} {S : List Value} : rn ca C_L_law 1088 L (.int y :: .int x :: S) M = rn ca C_L_law 1089 L (.int (x + y) :: S) M := (rn_at k_L_law_1088).trans rfl
theorem k_L_law_1089 : lk 1089 C_L_law = some (.iaload, (0, 0, 0, 0)) := by decide +kernel
theorem s_L_law_1089 {ca : Nat → List Value → tM → tO} {M : tM} {L : tL} {a : Nat} {i : Int32} {S : List Value} : rn ca C_L_law 1089 L (.int i :: .ref a :: S) M = if (akind a = 0 ∨ akind a = 6 ∨ akind a = 7) ∧ inb i (alen M a) then rn ca C_L_law 1090 L (.int (M.1 a i.toInt.toNat) :: S) M else none := (rn_at k_L_law_1089).trans rnx_ite
theorem k_L_law_1090 : lk 1090 C_L_law = some (.aload_n 0, (0, 0, 0, 0)) := by decide +kernel
theorem s_L_law_1090 {ca : Nat → List Value → tM → tO} {M : tM} {a1 a2 a3 : Option Value} {x : Nat} {S : List Value} : rn ca C_L_law 1090 [some (.ref x), a1, a2, a3] S M = rn ca C_L_law 1091 [some (.ref x), a1, a2, a3] (.ref x :: S) M := (rn_at k_L_law_1090).trans rfl
theorem k_L_law_1091 : lk 1091 C_L_law = some (.iload_n 3, (0, 0, 0, 0)) := by decide +kernel
theorem s_L_law_1091 {ca : Nat → List Value → tM → tO} {M : tM} {a0 a1 a2 : Option Value} {x : Int32} {S : List Value} : rn ca C_L_law 1091 [a0, a1, a2, some (.int x)] S M = rn ca C_L_law 1092 [a0, a1, a2, some (.int x)] (.int x :: S) M := (rn_at k_L_law_1091).trans rfl
theorem k_L_law_1092 : lk 1092 C_L_law = some (.iconst 2, (0, 0, 0, 0)) := by decide +kernel
theorem s_L_law_1092 {ca : Nat → List Value → tM → tO} {M : tM} {L : tL} {S : List Value} : rn ca C_L_law 1092 L S M = rn ca C_L_law 1093 L (.int (iI 2) :: S) M := (rn_at k_L_law_1092).trans rfl
theorem k_L_law_1093 : lk 1093 C_L_law = some (.iadd, (0, 0, 0, 0)) := by decide +kernel
theorem s_L_law_1093 {ca : Nat → List Value → tM → tO} {M : tM} {L : tL} {x y : Int32} {S : List Value} : rn ca C_L_law 1093 L (.int y :: .int x :: S) M = rn ca C_L_law 1094 L (.int (x + y) :: S) M := (rn_at k_L_law_1093).trans rfl
theorem k_L_law_1094 : lk 1094 C_L_law = some (.iaload, (0, 0, 0, 0)) := by decide +kernel
theorem s_L_law_1094 {ca : Nat → List Value → tM → tO} {M : tM} {L : tL} {a : Nat} {i : Int32} {S : List Value} : rn ca C_L_law 1094 L (.int i :: .ref a :: S) M = if (akind a = 0 ∨ akind a = 6 ∨ akind a = 7) ∧ inb i (alen M a) then rn ca C_L_law 1095 L (.int (M.1 a i.toInt.toNat) :: S) M else none := (rn_at k_L_law_1094).trans rnx_ite
theorem k_L_law_1095 : lk 1095 C_L_law = some (.invokevirtual 119, (213, 2, 11, 971)) := by decide +kernel
theorem s_L_law_1095 {ca : Nat → List Value → tM → tO} {M : tM} {L : tL} {v1 v2 : Value} {r0 : Int32} {b : Nat} : rn ca C_L_law 1095 L [v2, v1, .ref b, .int r0] M = if clsO b = some 11 then rnk ca C_L_law 1098 L [.int r0] (ca m_X11_stuck [.ref b, v1, v2] M) else none := (rn_at k_L_law_1095).trans rnx_ite
theorem k_L_law_1098 : lk 1098 C_L_law = some (.if_icmp .eq 466, (1564, 0, 0, 0)) := by decide +kernel
theorem s_L_law_1098 {ca : Nat → List Value → tM → tO} {M : tM} {L : tL} {x y : Int32} {S : List Value} : rn ca C_L_law 1098 L (.int y :: .int x :: S) M = if x = y then rn ca C_L_law 1564 L S M else rn ca C_L_law 1101 L S M := (rn_at k_L_law_1098).trans rnx_ite
theorem k_L_law_1101 : lk 1101 C_L_law = some (.iconst 0, (0, 0, 0, 0)) := by decide +kernel
theorem s_L_law_1101 {ca : Nat → List Value → tM → tO} {M : tM} {L : tL} {S : List Value} : rn ca C_L_law 1101 L S M = rn ca C_L_law 1102 L (.int (iI 0) :: S) M := (rn_at k_L_law_1101).trans rfl
theorem k_L_law_1102 : lk 1102 C_L_law = some (.ireturn, (1, 0, 0, 0)) := by decide +kernel
theorem s_L_law_1102 {ca : Nat → List Value → tM → tO} {M : tM} {L : tL} {x : Int32} : rn ca C_L_law 1102 L [.int x] M = if x = iI 0 ∨ x = iI 1 then some (some (.int x), M) else none := (rn_at k_L_law_1102).trans rnx_ite
theorem k_L_law_1103 : lk 1103 C_L_law = some (.aload_n 1, (0, 0, 0, 0)) := by decide +kernel
theorem s_L_law_1103 {ca : Nat → List Value → tM → tO} {M : tM} {a0 a2 a3 : Option Value} {x : Nat} {S : List Value} : rn ca C_L_law 1103 [a0, some (.ref x), a2, a3] S M = rn ca C_L_law 1104 [a0, some (.ref x), a2, a3] (.ref x :: S) M := (rn_at k_L_law_1103).trans rfl
theorem k_L_law_1104 : lk 1104 C_L_law = some (.aload_n 0, (0, 0, 0, 0)) := by decide +kernel
theorem s_L_law_1104 {ca : Nat → List Value → tM → tO} {M : tM} {a1 a2 a3 : Option Value} {x : Nat} {S : List Value} : rn ca C_L_law 1104 [some (.ref x), a1, a2, a3] S M = rn ca C_L_law 1105 [some (.ref x), a1, a2, a3] (.ref x :: S) M := (rn_at k_L_law_1104).trans rfl
theorem k_L_law_1105 : lk 1105 C_L_law = some (.iload_n 3, (0, 0, 0, 0)) := by decide +kernel
theorem s_L_law_1105 {ca : Nat → List Value → tM → tO} {M : tM} {a0 a1 a2 : Option Value} {x : Int32} {S : List Value} : rn ca C_L_law 1105 [a0, a1, a2, some (.int x)] S M = rn ca C_L_law 1106 [a0, a1, a2, some (.int x)] (.int x :: S) M := (rn_at k_L_law_1105).trans rfl
theorem k_L_law_1106 : lk 1106 C_L_law = some (.iconst 1, (0, 0, 0, 0)) := by decide +kernel
theorem s_L_law_1106 {ca : Nat → List Value → tM → tO} {M : tM} {L : tL} {S : List Value} : rn ca C_L_law 1106 L S M = rn ca C_L_law 1107 L (.int (iI 1) :: S) M := (rn_at k_L_law_1106).trans rfl
theorem k_L_law_1107 : lk 1107 C_L_law = some (.iadd, (0, 0, 0, 0)) := by decide +kernel
theorem s_L_law_1107 {ca : Nat → List Value → tM → tO} {M : tM} {L : tL} {x y : Int32} {S : List Value} : rn ca C_L_law 1107 L (.int y :: .int x :: S) M = rn ca C_L_law 1108 L (.int (x + y) :: S) M := (rn_at k_L_law_1107).trans rfl
theorem k_L_law_1108 : lk 1108 C_L_law = some (.iaload, (0, 0, 0, 0)) := by decide +kernel
theorem s_L_law_1108 {ca : Nat → List Value → tM → tO} {M : tM} {L : tL} {a : Nat} {i : Int32} {S : List Value} : rn ca C_L_law 1108 L (.int i :: .ref a :: S) M = if (akind a = 0 ∨ akind a = 6 ∨ akind a = 7) ∧ inb i (alen M a) then rn ca C_L_law 1109 L (.int (M.1 a i.toInt.toNat) :: S) M else none := (rn_at k_L_law_1108).trans rnx_ite
theorem k_L_law_1109 : lk 1109 C_L_law = some (.aload_n 0, (0, 0, 0, 0)) := by decide +kernel
theorem s_L_law_1109 {ca : Nat → List Value → tM → tO} {M : tM} {a1 a2 a3 : Option Value} {x : Nat} {S : List Value} : rn ca C_L_law 1109 [some (.ref x), a1, a2, a3] S M = rn ca C_L_law 1110 [some (.ref x), a1, a2, a3] (.ref x :: S) M := (rn_at k_L_law_1109).trans rfl
theorem k_L_law_1110 : lk 1110 C_L_law = some (.iload_n 3, (0, 0, 0, 0)) := by decide +kernel
theorem s_L_law_1110 {ca : Nat → List Value → tM → tO} {M : tM} {a0 a1 a2 : Option Value} {x : Int32} {S : List Value} : rn ca C_L_law 1110 [a0, a1, a2, some (.int x)] S M = rn ca C_L_law 1111 [a0, a1, a2, some (.int x)] (.int x :: S) M := (rn_at k_L_law_1110).trans rfl
theorem k_L_law_1111 : lk 1111 C_L_law = some (.iconst 2, (0, 0, 0, 0)) := by decide +kernel
theorem s_L_law_1111 {ca : Nat → List Value → tM → tO} {M : tM} {L : tL} {S : List Value} : rn ca C_L_law 1111 L S M = rn ca C_L_law 1112 L (.int (iI 2) :: S) M := (rn_at k_L_law_1111).trans rfl
theorem k_L_law_1112 : lk 1112 C_L_law = some (.iadd, (0, 0, 0, 0)) := by decide +kernel
theorem s_L_law_1112 {ca : Nat → List Value → tM → tO} {M : tM} {L : tL} {x y : Int32} {S : List Value} : rn ca C_L_law 1112 L (.int y :: .int x :: S) M = rn ca C_L_law 1113 L (.int (x + y) :: S) M := (rn_at k_L_law_1112).trans rfl
theorem k_L_law_1113 : lk 1113 C_L_law = some (.iaload, (0, 0, 0, 0)) := by decide +kernel
theorem s_L_law_1113 {ca : Nat → List Value → tM → tO} {M : tM} {L : tL} {a : Nat} {i : Int32} {S : List Value} : rn ca C_L_law 1113 L (.int i :: .ref a :: S) M = if (akind a = 0 ∨ akind a = 6 ∨ akind a = 7) ∧ inb i (alen M a) then rn ca C_L_law 1114 L (.int (M.1 a i.toInt.toNat) :: S) M else none := (rn_at k_L_law_1113).trans rnx_ite
theorem k_L_law_1114 : lk 1114 C_L_law = some (.invokevirtual 120, (119, 2, 10, 993)) := by decide +kernel
theorem s_L_law_1114 {ca : Nat → List Value → tM → tO} {M : tM} {L : tL} {v1 v2 : Value} {b : Nat} : rn ca C_L_law 1114 L [v2, v1, .ref b] M = if clsO b = some 10 then rnk ca C_L_law 1117 L [] (ca m_X10_listen [.ref b, v1, v2] M) else none := (rn_at k_L_law_1114).trans rnx_ite
theorem k_L_law_1117 : lk 1117 C_L_law = some (.aload_n 2, (0, 0, 0, 0)) := by decide +kernel
theorem s_L_law_1117 {ca : Nat → List Value → tM → tO} {M : tM} {a0 a1 a3 : Option Value} {x : Nat} {S : List Value} : rn ca C_L_law 1117 [a0, a1, some (.ref x), a3] S M = rn ca C_L_law 1118 [a0, a1, some (.ref x), a3] (.ref x :: S) M := (rn_at k_L_law_1117).trans rfl
theorem k_L_law_1118 : lk 1118 C_L_law = some (.aload_n 0, (0, 0, 0, 0)) := by decide +kernel
theorem s_L_law_1118 {ca : Nat → List Value → tM → tO} {M : tM} {a1 a2 a3 : Option Value} {x : Nat} {S : List Value} : rn ca C_L_law 1118 [some (.ref x), a1, a2, a3] S M = rn ca C_L_law 1119 [some (.ref x), a1, a2, a3] (.ref x :: S) M := (rn_at k_L_law_1118).trans rfl
theorem k_L_law_1119 : lk 1119 C_L_law = some (.iload_n 3, (0, 0, 0, 0)) := by decide +kernel
theorem s_L_law_1119 {ca : Nat → List Value → tM → tO} {M : tM} {a0 a1 a2 : Option Value} {x : Int32} {S : List Value} : rn ca C_L_law 1119 [a0, a1, a2, some (.int x)] S M = rn ca C_L_law 1120 [a0, a1, a2, some (.int x)] (.int x :: S) M := (rn_at k_L_law_1119).trans rfl
theorem k_L_law_1120 : lk 1120 C_L_law = some (.iconst 1, (0, 0, 0, 0)) := by decide +kernel
theorem s_L_law_1120 {ca : Nat → List Value → tM → tO} {M : tM} {L : tL} {S : List Value} : rn ca C_L_law 1120 L S M = rn ca C_L_law 1121 L (.int (iI 1) :: S) M := (rn_at k_L_law_1120).trans rfl
theorem k_L_law_1121 : lk 1121 C_L_law = some (.iadd, (0, 0, 0, 0)) := by decide +kernel
theorem s_L_law_1121 {ca : Nat → List Value → tM → tO} {M : tM} {L : tL} {x y : Int32} {S : List Value} : rn ca C_L_law 1121 L (.int y :: .int x :: S) M = rn ca C_L_law 1122 L (.int (x + y) :: S) M := (rn_at k_L_law_1121).trans rfl
theorem k_L_law_1122 : lk 1122 C_L_law = some (.iaload, (0, 0, 0, 0)) := by decide +kernel
theorem s_L_law_1122 {ca : Nat → List Value → tM → tO} {M : tM} {L : tL} {a : Nat} {i : Int32} {S : List Value} : rn ca C_L_law 1122 L (.int i :: .ref a :: S) M = if (akind a = 0 ∨ akind a = 6 ∨ akind a = 7) ∧ inb i (alen M a) then rn ca C_L_law 1123 L (.int (M.1 a i.toInt.toNat) :: S) M else none := (rn_at k_L_law_1122).trans rnx_ite
theorem k_L_law_1123 : lk 1123 C_L_law = some (.aload_n 0, (0, 0, 0, 0)) := by decide +kernel
theorem s_L_law_1123 {ca : Nat → List Value → tM → tO} {M : tM} {a1 a2 a3 : Option Value} {x : Nat} {S : List Value} : rn ca C_L_law 1123 [some (.ref x), a1, a2, a3] S M = rn ca C_L_law 1124 [some (.ref x), a1, a2, a3] (.ref x :: S) M := (rn_at k_L_law_1123).trans rfl
theorem k_L_law_1124 : lk 1124 C_L_law = some (.iload_n 3, (0, 0, 0, 0)) := by decide +kernel
theorem s_L_law_1124 {ca : Nat → List Value → tM → tO} {M : tM} {a0 a1 a2 : Option Value} {x : Int32} {S : List Value} : rn ca C_L_law 1124 [a0, a1, a2, some (.int x)] S M = rn ca C_L_law 1125 [a0, a1, a2, some (.int x)] (.int x :: S) M := (rn_at k_L_law_1124).trans rfl
theorem k_L_law_1125 : lk 1125 C_L_law = some (.iconst 2, (0, 0, 0, 0)) := by decide +kernel
theorem s_L_law_1125 {ca : Nat → List Value → tM → tO} {M : tM} {L : tL} {S : List Value} : rn ca C_L_law 1125 L S M = rn ca C_L_law 1126 L (.int (iI 2) :: S) M := (rn_at k_L_law_1125).trans rfl
theorem k_L_law_1126 : lk 1126 C_L_law = some (.iadd, (0, 0, 0, 0)) := by decide +kernel
theorem s_L_law_1126 {ca : Nat → List Value → tM → tO} {M : tM} {L : tL} {x y : Int32} {S : List Value} : rn ca C_L_law 1126 L (.int y :: .int x :: S) M = rn ca C_L_law 1127 L (.int (x + y) :: S) M := (rn_at k_L_law_1126).trans rfl
theorem k_L_law_1127 : lk 1127 C_L_law = some (.iaload, (0, 0, 0, 0)) := by decide +kernel
theorem s_L_law_1127 {ca : Nat → List Value → tM → tO} {M : tM} {L : tL} {a : Nat} {i : Int32} {S : List Value} : rn ca C_L_law 1127 L (.int i :: .ref a :: S) M = if (akind a = 0 ∨ akind a = 6 ∨ akind a = 7) ∧ inb i (alen M a) then rn ca C_L_law 1128 L (.int (M.1 a i.toInt.toNat) :: S) M else none := (rn_at k_L_law_1127).trans rnx_ite
theorem k_L_law_1128 : lk 1128 C_L_law = some (.invokevirtual 123, (215, 2, 11, 1012)) := by decide +kernel
theorem s_L_law_1128 {ca : Nat → List Value → tM → tO} {M : tM} {L : tL} {v1 v2 : Value} {r0 : Int32} {b : Nat} : rn ca C_L_law 1128 L [v2, v1, .ref b, .int r0] M = if clsO b = some 11 then rnk ca C_L_law 1131 L [.int r0] (ca m_X11_listen [.ref b, v1, v2] M) else none := (rn_at k_L_law_1128).trans rnx_ite
theorem k_L_law_1131 : lk 1131 C_L_law = some (.if_icmp .eq 433, (1564, 0, 0, 0)) := by decide +kernel
theorem s_L_law_1131 {ca : Nat → List Value → tM → tO} {M : tM} {L : tL} {x y : Int32} {S : List Value} : rn ca C_L_law 1131 L (.int y :: .int x :: S) M = if x = y then rn ca C_L_law 1564 L S M else rn ca C_L_law 1134 L S M := (rn_at k_L_law_1131).trans rnx_ite
theorem k_L_law_1134 : lk 1134 C_L_law = some (.iconst 0, (0, 0, 0, 0)) := by decide +kernel
theorem s_L_law_1134 {ca : Nat → List Value → tM → tO} {M : tM} {L : tL} {S : List Value} : rn ca C_L_law 1134 L S M = rn ca C_L_law 1135 L (.int (iI 0) :: S) M := (rn_at k_L_law_1134).trans rfl
theorem k_L_law_1135 : lk 1135 C_L_law = some (.ireturn, (1, 0, 0, 0)) := by decide +kernel
theorem s_L_law_1135 {ca : Nat → List Value → tM → tO} {M : tM} {L : tL} {x : Int32} : rn ca C_L_law 1135 L [.int x] M = if x = iI 0 ∨ x = iI 1 then some (some (.int x), M) else none := (rn_at k_L_law_1135).trans rnx_ite
theorem k_L_law_1136 : lk 1136 C_L_law = some (.aload_n 1, (0, 0, 0, 0)) := by decide +kernel
theorem s_L_law_1136 {ca : Nat → List Value → tM → tO} {M : tM} {a0 a2 a3 : Option Value} {x : Nat} {S : List Value} : rn ca C_L_law 1136 [a0, some (.ref x), a2, a3] S M = rn ca C_L_law 1137 [a0, some (.ref x), a2, a3] (.ref x :: S) M := (rn_at k_L_law_1136).trans rfl
theorem k_L_law_1137 : lk 1137 C_L_law = some (.aload_n 0, (0, 0, 0, 0)) := by decide +kernel
theorem s_L_law_1137 {ca : Nat → List Value → tM → tO} {M : tM} {a1 a2 a3 : Option Value} {x : Nat} {S : List Value} : rn ca C_L_law 1137 [some (.ref x), a1, a2, a3] S M = rn ca C_L_law 1138 [some (.ref x), a1, a2, a3] (.ref x :: S) M := (rn_at k_L_law_1137).trans rfl
theorem k_L_law_1138 : lk 1138 C_L_law = some (.iload_n 3, (0, 0, 0, 0)) := by decide +kernel
theorem s_L_law_1138 {ca : Nat → List Value → tM → tO} {M : tM} {a0 a1 a2 : Option Value} {x : Int32} {S : List Value} : rn ca C_L_law 1138 [a0, a1, a2, some (.int x)] S M = rn ca C_L_law 1139 [a0, a1, a2, some (.int x)] (.int x :: S) M := (rn_at k_L_law_1138).trans rfl
theorem k_L_law_1139 : lk 1139 C_L_law = some (.iconst 1, (0, 0, 0, 0)) := by decide +kernel
theorem s_L_law_1139 {ca : Nat → List Value → tM → tO} {M : tM} {L : tL} {S : List Value} : rn ca C_L_law 1139 L S M = rn ca C_L_law 1140 L (.int (iI 1) :: S) M := (rn_at k_L_law_1139).trans rfl
theorem k_L_law_1140 : lk 1140 C_L_law = some (.iadd, (0, 0, 0, 0)) := by decide +kernel
theorem s_L_law_1140 {ca : Nat → List Value → tM → tO} {M : tM} {L : tL} {x y : Int32} {S : List Value} : rn ca C_L_law 1140 L (.int y :: .int x :: S) M = rn ca C_L_law 1141 L (.int (x + y) :: S) M := (rn_at k_L_law_1140).trans rfl
theorem k_L_law_1141 : lk 1141 C_L_law = some (.iaload, (0, 0, 0, 0)) := by decide +kernel
theorem s_L_law_1141 {ca : Nat → List Value → tM → tO} {M : tM} {L : tL} {a : Nat} {i : Int32} {S : List Value} : rn ca C_L_law 1141 L (.int i :: .ref a :: S) M = if (akind a = 0 ∨ akind a = 6 ∨ akind a = 7) ∧ inb i (alen M a) then rn ca C_L_law 1142 L (.int (M.1 a i.toInt.toNat) :: S) M else none := (rn_at k_L_law_1141).trans rnx_ite
theorem k_L_law_1142 : lk 1142 C_L_law = some (.aload_n 0, (0, 0, 0, 0)) := by decide +kernel
theorem s_L_law_1142 {ca : Nat → List Value → tM → tO} {M : tM} {a1 a2 a3 : Option Value} {x : Nat} {S : List Value} : rn ca C_L_law 1142 [some (.ref x), a1, a2, a3] S M = rn ca C_L_law 1143 [some (.ref x), a1, a2, a3] (.ref x :: S) M := (rn_at k_L_law_1142).trans rfl
theorem k_L_law_1143 : lk 1143 C_L_law = some (.iload_n 3, (0, 0, 0, 0)) := by decide +kernel
theorem s_L_law_1143 {ca : Nat → List Value → tM → tO} {M : tM} {a0 a1 a2 : Option Value} {x : Int32} {S : List Value} : rn ca C_L_law 1143 [a0, a1, a2, some (.int x)] S M = rn ca C_L_law 1144 [a0, a1, a2, some (.int x)] (.int x :: S) M := (rn_at k_L_law_1143).trans rfl
theorem k_L_law_1144 : lk 1144 C_L_law = some (.iconst 2, (0, 0, 0, 0)) := by decide +kernel
theorem s_L_law_1144 {ca : Nat → List Value → tM → tO} {M : tM} {L : tL} {S : List Value} : rn ca C_L_law 1144 L S M = rn ca C_L_law 1145 L (.int (iI 2) :: S) M := (rn_at k_L_law_1144).trans rfl
theorem k_L_law_1145 : lk 1145 C_L_law = some (.iadd, (0, 0, 0, 0)) := by decide +kernel
theorem s_L_law_1145 {ca : Nat → List Value → tM → tO} {M : tM} {L : tL} {x y : Int32} {S : List Value} : rn ca C_L_law 1145 L (.int y :: .int x :: S) M = rn ca C_L_law 1146 L (.int (x + y) :: S) M := (rn_at k_L_law_1145).trans rfl
theorem k_L_law_1146 : lk 1146 C_L_law = some (.iaload, (0, 0, 0, 0)) := by decide +kernel
theorem s_L_law_1146 {ca : Nat → List Value → tM → tO} {M : tM} {L : tL} {a : Nat} {i : Int32} {S : List Value} : rn ca C_L_law 1146 L (.int i :: .ref a :: S) M = if (akind a = 0 ∨ akind a = 6 ∨ akind a = 7) ∧ inb i (alen M a) then rn ca C_L_law 1147 L (.int (M.1 a i.toInt.toNat) :: S) M else none := (rn_at k_L_law_1146).trans rnx_ite
theorem k_L_law_1147 : lk 1147 C_L_law = some (.aload_n 0, (0, 0, 0, 0)) := by decide +kernel
theorem s_L_law_1147 {ca : Nat → List Value → tM → tO} {M : tM} {a1 a2 a3 : Option Value} {x : Nat} {S : List Value} : rn ca C_L_law 1147 [some (.ref x), a1, a2, a3] S M = rn ca C_L_law 1148 [some (.ref x), a1, a2, a3] (.ref x :: S) M := (rn_at k_L_law_1147).trans rfl
theorem k_L_law_1148 : lk 1148 C_L_law = some (.iload_n 3, (0, 0, 0, 0)) := by decide +kernel
theorem s_L_law_1148 {ca : Nat → List Value → tM → tO} {M : tM} {a0 a1 a2 : Option Value} {x : Int32} {S : List Value} : rn ca C_L_law 1148 [a0, a1, a2, some (.int x)] S M = rn ca C_L_law 1149 [a0, a1, a2, some (.int x)] (.int x :: S) M := (rn_at k_L_law_1148).trans rfl
theorem k_L_law_1149 : lk 1149 C_L_law = some (.iconst 3, (0, 0, 0, 0)) := by decide +kernel
theorem s_L_law_1149 {ca : Nat → List Value → tM → tO} {M : tM} {L : tL} {S : List Value} : rn ca C_L_law 1149 L S M = rn ca C_L_law 1150 L (.int (iI 3) :: S) M := (rn_at k_L_law_1149).trans rfl
theorem k_L_law_1150 : lk 1150 C_L_law = some (.iadd, (0, 0, 0, 0)) := by decide +kernel
theorem s_L_law_1150 {ca : Nat → List Value → tM → tO} {M : tM} {L : tL} {x y : Int32} {S : List Value} : rn ca C_L_law 1150 L (.int y :: .int x :: S) M = rn ca C_L_law 1151 L (.int (x + y) :: S) M := (rn_at k_L_law_1150).trans rfl
theorem k_L_law_1151 : lk 1151 C_L_law = some (.iaload, (0, 0, 0, 0)) := by decide +kernel
theorem s_L_law_1151 {ca : Nat → List Value → tM → tO} {M : tM} {L : tL} {a : Nat} {i : Int32} {S : List Value} : rn ca C_L_law 1151 L (.int i :: .ref a :: S) M = if (akind a = 0 ∨ akind a = 6 ∨ akind a = 7) ∧ inb i (alen M a) then rn ca C_L_law 1152 L (.int (M.1 a i.toInt.toNat) :: S) M else none := (rn_at k_L_law_1151).trans rnx_ite
theorem k_L_law_1152 : lk 1152 C_L_law = some (.invokevirtual 124, (120, 3, 10, 1020)) := by decide +kernel
theorem s_L_law_1152 {ca : Nat → List Value → tM → tO} {M : tM} {L : tL} {v1 v2 v3 : Value} {b : Nat} : rn ca C_L_law 1152 L [v3, v2, v1, .ref b] M = if clsO b = some 10 then rnk ca C_L_law 1155 L [] (ca m_X10_enough [.ref b, v1, v2, v3] M) else none := (rn_at k_L_law_1152).trans rnx_ite
theorem k_L_law_1155 : lk 1155 C_L_law = some (.aload_n 2, (0, 0, 0, 0)) := by decide +kernel
theorem s_L_law_1155 {ca : Nat → List Value → tM → tO} {M : tM} {a0 a1 a3 : Option Value} {x : Nat} {S : List Value} : rn ca C_L_law 1155 [a0, a1, some (.ref x), a3] S M = rn ca C_L_law 1156 [a0, a1, some (.ref x), a3] (.ref x :: S) M := (rn_at k_L_law_1155).trans rfl
theorem k_L_law_1156 : lk 1156 C_L_law = some (.aload_n 0, (0, 0, 0, 0)) := by decide +kernel
theorem s_L_law_1156 {ca : Nat → List Value → tM → tO} {M : tM} {a1 a2 a3 : Option Value} {x : Nat} {S : List Value} : rn ca C_L_law 1156 [some (.ref x), a1, a2, a3] S M = rn ca C_L_law 1157 [some (.ref x), a1, a2, a3] (.ref x :: S) M := (rn_at k_L_law_1156).trans rfl
theorem k_L_law_1157 : lk 1157 C_L_law = some (.iload_n 3, (0, 0, 0, 0)) := by decide +kernel
theorem s_L_law_1157 {ca : Nat → List Value → tM → tO} {M : tM} {a0 a1 a2 : Option Value} {x : Int32} {S : List Value} : rn ca C_L_law 1157 [a0, a1, a2, some (.int x)] S M = rn ca C_L_law 1158 [a0, a1, a2, some (.int x)] (.int x :: S) M := (rn_at k_L_law_1157).trans rfl
theorem k_L_law_1158 : lk 1158 C_L_law = some (.iconst 1, (0, 0, 0, 0)) := by decide +kernel
theorem s_L_law_1158 {ca : Nat → List Value → tM → tO} {M : tM} {L : tL} {S : List Value} : rn ca C_L_law 1158 L S M = rn ca C_L_law 1159 L (.int (iI 1) :: S) M := (rn_at k_L_law_1158).trans rfl
theorem k_L_law_1159 : lk 1159 C_L_law = some (.iadd, (0, 0, 0, 0)) := by decide +kernel
theorem s_L_law_1159 {ca : Nat → List Value → tM → tO} {M : tM} {L : tL} {x y : Int32} {S : List Value} : rn ca C_L_law 1159 L (.int y :: .int x :: S) M = rn ca C_L_law 1160 L (.int (x + y) :: S) M := (rn_at k_L_law_1159).trans rfl
theorem k_L_law_1160 : lk 1160 C_L_law = some (.iaload, (0, 0, 0, 0)) := by decide +kernel
theorem s_L_law_1160 {ca : Nat → List Value → tM → tO} {M : tM} {L : tL} {a : Nat} {i : Int32} {S : List Value} : rn ca C_L_law 1160 L (.int i :: .ref a :: S) M = if (akind a = 0 ∨ akind a = 6 ∨ akind a = 7) ∧ inb i (alen M a) then rn ca C_L_law 1161 L (.int (M.1 a i.toInt.toNat) :: S) M else none := (rn_at k_L_law_1160).trans rnx_ite
theorem k_L_law_1161 : lk 1161 C_L_law = some (.aload_n 0, (0, 0, 0, 0)) := by decide +kernel
theorem s_L_law_1161 {ca : Nat → List Value → tM → tO} {M : tM} {a1 a2 a3 : Option Value} {x : Nat} {S : List Value} : rn ca C_L_law 1161 [some (.ref x), a1, a2, a3] S M = rn ca C_L_law 1162 [some (.ref x), a1, a2, a3] (.ref x :: S) M := (rn_at k_L_law_1161).trans rfl
theorem k_L_law_1162 : lk 1162 C_L_law = some (.iload_n 3, (0, 0, 0, 0)) := by decide +kernel
theorem s_L_law_1162 {ca : Nat → List Value → tM → tO} {M : tM} {a0 a1 a2 : Option Value} {x : Int32} {S : List Value} : rn ca C_L_law 1162 [a0, a1, a2, some (.int x)] S M = rn ca C_L_law 1163 [a0, a1, a2, some (.int x)] (.int x :: S) M := (rn_at k_L_law_1162).trans rfl
theorem k_L_law_1163 : lk 1163 C_L_law = some (.iconst 2, (0, 0, 0, 0)) := by decide +kernel
theorem s_L_law_1163 {ca : Nat → List Value → tM → tO} {M : tM} {L : tL} {S : List Value} : rn ca C_L_law 1163 L S M = rn ca C_L_law 1164 L (.int (iI 2) :: S) M := (rn_at k_L_law_1163).trans rfl
theorem k_L_law_1164 : lk 1164 C_L_law = some (.iadd, (0, 0, 0, 0)) := by decide +kernel
theorem s_L_law_1164 {ca : Nat → List Value → tM → tO} {M : tM} {L : tL} {x y : Int32} {S : List Value} : rn ca C_L_law 1164 L (.int y :: .int x :: S) M = rn ca C_L_law 1165 L (.int (x + y) :: S) M := (rn_at k_L_law_1164).trans rfl
theorem k_L_law_1165 : lk 1165 C_L_law = some (.iaload, (0, 0, 0, 0)) := by decide +kernel
theorem s_L_law_1165 {ca : Nat → List Value → tM → tO} {M : tM} {L : tL} {a : Nat} {i : Int32} {S : List Value} : rn ca C_L_law 1165 L (.int i :: .ref a :: S) M = if (akind a = 0 ∨ akind a = 6 ∨ akind a = 7) ∧ inb i (alen M a) then rn ca C_L_law 1166 L (.int (M.1 a i.toInt.toNat) :: S) M else none := (rn_at k_L_law_1165).trans rnx_ite
theorem k_L_law_1166 : lk 1166 C_L_law = some (.aload_n 0, (0, 0, 0, 0)) := by decide +kernel
theorem s_L_law_1166 {ca : Nat → List Value → tM → tO} {M : tM} {a1 a2 a3 : Option Value} {x : Nat} {S : List Value} : rn ca C_L_law 1166 [some (.ref x), a1, a2, a3] S M = rn ca C_L_law 1167 [some (.ref x), a1, a2, a3] (.ref x :: S) M := (rn_at k_L_law_1166).trans rfl
theorem k_L_law_1167 : lk 1167 C_L_law = some (.iload_n 3, (0, 0, 0, 0)) := by decide +kernel
theorem s_L_law_1167 {ca : Nat → List Value → tM → tO} {M : tM} {a0 a1 a2 : Option Value} {x : Int32} {S : List Value} : rn ca C_L_law 1167 [a0, a1, a2, some (.int x)] S M = rn ca C_L_law 1168 [a0, a1, a2, some (.int x)] (.int x :: S) M := (rn_at k_L_law_1167).trans rfl
theorem k_L_law_1168 : lk 1168 C_L_law = some (.iconst 3, (0, 0, 0, 0)) := by decide +kernel
theorem s_L_law_1168 {ca : Nat → List Value → tM → tO} {M : tM} {L : tL} {S : List Value} : rn ca C_L_law 1168 L S M = rn ca C_L_law 1169 L (.int (iI 3) :: S) M := (rn_at k_L_law_1168).trans rfl
theorem k_L_law_1169 : lk 1169 C_L_law = some (.iadd, (0, 0, 0, 0)) := by decide +kernel
theorem s_L_law_1169 {ca : Nat → List Value → tM → tO} {M : tM} {L : tL} {x y : Int32} {S : List Value} : rn ca C_L_law 1169 L (.int y :: .int x :: S) M = rn ca C_L_law 1170 L (.int (x + y) :: S) M := (rn_at k_L_law_1169).trans rfl
theorem k_L_law_1170 : lk 1170 C_L_law = some (.iaload, (0, 0, 0, 0)) := by decide +kernel
theorem s_L_law_1170 {ca : Nat → List Value → tM → tO} {M : tM} {L : tL} {a : Nat} {i : Int32} {S : List Value} : rn ca C_L_law 1170 L (.int i :: .ref a :: S) M = if (akind a = 0 ∨ akind a = 6 ∨ akind a = 7) ∧ inb i (alen M a) then rn ca C_L_law 1171 L (.int (M.1 a i.toInt.toNat) :: S) M else none := (rn_at k_L_law_1170).trans rnx_ite
theorem k_L_law_1171 : lk 1171 C_L_law = some (.invokevirtual 127, (216, 3, 11, 1024)) := by decide +kernel
theorem s_L_law_1171 {ca : Nat → List Value → tM → tO} {M : tM} {L : tL} {v1 v2 v3 : Value} {r0 : Int32} {b : Nat} : rn ca C_L_law 1171 L [v3, v2, v1, .ref b, .int r0] M = if clsO b = some 11 then rnk ca C_L_law 1174 L [.int r0] (ca m_X11_enough [.ref b, v1, v2, v3] M) else none := (rn_at k_L_law_1171).trans rnx_ite
theorem k_L_law_1174 : lk 1174 C_L_law = some (.if_icmp .eq 390, (1564, 0, 0, 0)) := by decide +kernel
theorem s_L_law_1174 {ca : Nat → List Value → tM → tO} {M : tM} {L : tL} {x y : Int32} {S : List Value} : rn ca C_L_law 1174 L (.int y :: .int x :: S) M = if x = y then rn ca C_L_law 1564 L S M else rn ca C_L_law 1177 L S M := (rn_at k_L_law_1174).trans rnx_ite
theorem k_L_law_1177 : lk 1177 C_L_law = some (.iconst 0, (0, 0, 0, 0)) := by decide +kernel
theorem s_L_law_1177 {ca : Nat → List Value → tM → tO} {M : tM} {L : tL} {S : List Value} : rn ca C_L_law 1177 L S M = rn ca C_L_law 1178 L (.int (iI 0) :: S) M := (rn_at k_L_law_1177).trans rfl
theorem k_L_law_1178 : lk 1178 C_L_law = some (.ireturn, (1, 0, 0, 0)) := by decide +kernel
theorem s_L_law_1178 {ca : Nat → List Value → tM → tO} {M : tM} {L : tL} {x : Int32} : rn ca C_L_law 1178 L [.int x] M = if x = iI 0 ∨ x = iI 1 then some (some (.int x), M) else none := (rn_at k_L_law_1178).trans rnx_ite
theorem k_L_law_1179 : lk 1179 C_L_law = some (.aload_n 1, (0, 0, 0, 0)) := by decide +kernel
theorem s_L_law_1179 {ca : Nat → List Value → tM → tO} {M : tM} {a0 a2 a3 : Option Value} {x : Nat} {S : List Value} : rn ca C_L_law 1179 [a0, some (.ref x), a2, a3] S M = rn ca C_L_law 1180 [a0, some (.ref x), a2, a3] (.ref x :: S) M := (rn_at k_L_law_1179).trans rfl
theorem k_L_law_1180 : lk 1180 C_L_law = some (.aload_n 0, (0, 0, 0, 0)) := by decide +kernel
theorem s_L_law_1180 {ca : Nat → List Value → tM → tO} {M : tM} {a1 a2 a3 : Option Value} {x : Nat} {S : List Value} : rn ca C_L_law 1180 [some (.ref x), a1, a2, a3] S M = rn ca C_L_law 1181 [some (.ref x), a1, a2, a3] (.ref x :: S) M := (rn_at k_L_law_1180).trans rfl
theorem k_L_law_1181 : lk 1181 C_L_law = some (.iload_n 3, (0, 0, 0, 0)) := by decide +kernel
theorem s_L_law_1181 {ca : Nat → List Value → tM → tO} {M : tM} {a0 a1 a2 : Option Value} {x : Int32} {S : List Value} : rn ca C_L_law 1181 [a0, a1, a2, some (.int x)] S M = rn ca C_L_law 1182 [a0, a1, a2, some (.int x)] (.int x :: S) M := (rn_at k_L_law_1181).trans rfl
theorem k_L_law_1182 : lk 1182 C_L_law = some (.iconst 1, (0, 0, 0, 0)) := by decide +kernel
theorem s_L_law_1182 {ca : Nat → List Value → tM → tO} {M : tM} {L : tL} {S : List Value} : rn ca C_L_law 1182 L S M = rn ca C_L_law 1183 L (.int (iI 1) :: S) M := (rn_at k_L_law_1182).trans rfl
theorem k_L_law_1183 : lk 1183 C_L_law = some (.iadd, (0, 0, 0, 0)) := by decide +kernel
theorem s_L_law_1183 {ca : Nat → List Value → tM → tO} {M : tM} {L : tL} {x y : Int32} {S : List Value} : rn ca C_L_law 1183 L (.int y :: .int x :: S) M = rn ca C_L_law 1184 L (.int (x + y) :: S) M := (rn_at k_L_law_1183).trans rfl
theorem k_L_law_1184 : lk 1184 C_L_law = some (.iaload, (0, 0, 0, 0)) := by decide +kernel
theorem s_L_law_1184 {ca : Nat → List Value → tM → tO} {M : tM} {L : tL} {a : Nat} {i : Int32} {S : List Value} : rn ca C_L_law 1184 L (.int i :: .ref a :: S) M = if (akind a = 0 ∨ akind a = 6 ∨ akind a = 7) ∧ inb i (alen M a) then rn ca C_L_law 1185 L (.int (M.1 a i.toInt.toNat) :: S) M else none := (rn_at k_L_law_1184).trans rnx_ite
theorem k_L_law_1185 : lk 1185 C_L_law = some (.invokevirtual 128, (121, 1, 10, 1028)) := by decide +kernel
theorem s_L_law_1185 {ca : Nat → List Value → tM → tO} {M : tM} {L : tL} {v1 : Value} {b : Nat} : rn ca C_L_law 1185 L [v1, .ref b] M = if clsO b = some 10 then rnk ca C_L_law 1188 L [] (ca m_X10_tree [.ref b, v1] M) else none := (rn_at k_L_law_1185).trans rnx_ite
theorem k_L_law_1188 : lk 1188 C_L_law = some (.aload_n 2, (0, 0, 0, 0)) := by decide +kernel
theorem s_L_law_1188 {ca : Nat → List Value → tM → tO} {M : tM} {a0 a1 a3 : Option Value} {x : Nat} {S : List Value} : rn ca C_L_law 1188 [a0, a1, some (.ref x), a3] S M = rn ca C_L_law 1189 [a0, a1, some (.ref x), a3] (.ref x :: S) M := (rn_at k_L_law_1188).trans rfl
theorem k_L_law_1189 : lk 1189 C_L_law = some (.aload_n 0, (0, 0, 0, 0)) := by decide +kernel
theorem s_L_law_1189 {ca : Nat → List Value → tM → tO} {M : tM} {a1 a2 a3 : Option Value} {x : Nat} {S : List Value} : rn ca C_L_law 1189 [some (.ref x), a1, a2, a3] S M = rn ca C_L_law 1190 [some (.ref x), a1, a2, a3] (.ref x :: S) M := (rn_at k_L_law_1189).trans rfl
theorem k_L_law_1190 : lk 1190 C_L_law = some (.iload_n 3, (0, 0, 0, 0)) := by decide +kernel
theorem s_L_law_1190 {ca : Nat → List Value → tM → tO} {M : tM} {a0 a1 a2 : Option Value} {x : Int32} {S : List Value} : rn ca C_L_law 1190 [a0, a1, a2, some (.int x)] S M = rn ca C_L_law 1191 [a0, a1, a2, some (.int x)] (.int x :: S) M := (rn_at k_L_law_1190).trans rfl
theorem k_L_law_1191 : lk 1191 C_L_law = some (.iconst 1, (0, 0, 0, 0)) := by decide +kernel
theorem s_L_law_1191 {ca : Nat → List Value → tM → tO} {M : tM} {L : tL} {S : List Value} : rn ca C_L_law 1191 L S M = rn ca C_L_law 1192 L (.int (iI 1) :: S) M := (rn_at k_L_law_1191).trans rfl
theorem k_L_law_1192 : lk 1192 C_L_law = some (.iadd, (0, 0, 0, 0)) := by decide +kernel
theorem s_L_law_1192 {ca : Nat → List Value → tM → tO} {M : tM} {L : tL} {x y : Int32} {S : List Value} : rn ca C_L_law 1192 L (.int y :: .int x :: S) M = rn ca C_L_law 1193 L (.int (x + y) :: S) M := (rn_at k_L_law_1192).trans rfl
theorem k_L_law_1193 : lk 1193 C_L_law = some (.iaload, (0, 0, 0, 0)) := by decide +kernel
theorem s_L_law_1193 {ca : Nat → List Value → tM → tO} {M : tM} {L : tL} {a : Nat} {i : Int32} {S : List Value} : rn ca C_L_law 1193 L (.int i :: .ref a :: S) M = if (akind a = 0 ∨ akind a = 6 ∨ akind a = 7) ∧ inb i (alen M a) then rn ca C_L_law 1194 L (.int (M.1 a i.toInt.toNat) :: S) M else none := (rn_at k_L_law_1193).trans rnx_ite
theorem k_L_law_1194 : lk 1194 C_L_law = some (.invokevirtual 131, (217, 1, 11, 1040)) := by decide +kernel
theorem s_L_law_1194 {ca : Nat → List Value → tM → tO} {M : tM} {L : tL} {v1 : Value} {r0 : Int32} {b : Nat} : rn ca C_L_law 1194 L [v1, .ref b, .int r0] M = if clsO b = some 11 then rnk ca C_L_law 1197 L [.int r0] (ca m_X11_tree [.ref b, v1] M) else none := (rn_at k_L_law_1194).trans rnx_ite
theorem k_L_law_1197 : lk 1197 C_L_law = some (.if_icmp .eq 367, (1564, 0, 0, 0)) := by decide +kernel
theorem s_L_law_1197 {ca : Nat → List Value → tM → tO} {M : tM} {L : tL} {x y : Int32} {S : List Value} : rn ca C_L_law 1197 L (.int y :: .int x :: S) M = if x = y then rn ca C_L_law 1564 L S M else rn ca C_L_law 1200 L S M := (rn_at k_L_law_1197).trans rnx_ite
theorem k_L_law_1200 : lk 1200 C_L_law = some (.iconst 0, (0, 0, 0, 0)) := by decide +kernel
theorem s_L_law_1200 {ca : Nat → List Value → tM → tO} {M : tM} {L : tL} {S : List Value} : rn ca C_L_law 1200 L S M = rn ca C_L_law 1201 L (.int (iI 0) :: S) M := (rn_at k_L_law_1200).trans rfl
theorem k_L_law_1201 : lk 1201 C_L_law = some (.ireturn, (1, 0, 0, 0)) := by decide +kernel
theorem s_L_law_1201 {ca : Nat → List Value → tM → tO} {M : tM} {L : tL} {x : Int32} : rn ca C_L_law 1201 L [.int x] M = if x = iI 0 ∨ x = iI 1 then some (some (.int x), M) else none := (rn_at k_L_law_1201).trans rnx_ite
theorem k_L_law_1202 : lk 1202 C_L_law = some (.aload_n 1, (0, 0, 0, 0)) := by decide +kernel
theorem s_L_law_1202 {ca : Nat → List Value → tM → tO} {M : tM} {a0 a2 a3 : Option Value} {x : Nat} {S : List Value} : rn ca C_L_law 1202 [a0, some (.ref x), a2, a3] S M = rn ca C_L_law 1203 [a0, some (.ref x), a2, a3] (.ref x :: S) M := (rn_at k_L_law_1202).trans rfl
theorem k_L_law_1203 : lk 1203 C_L_law = some (.aload_n 0, (0, 0, 0, 0)) := by decide +kernel
theorem s_L_law_1203 {ca : Nat → List Value → tM → tO} {M : tM} {a1 a2 a3 : Option Value} {x : Nat} {S : List Value} : rn ca C_L_law 1203 [some (.ref x), a1, a2, a3] S M = rn ca C_L_law 1204 [some (.ref x), a1, a2, a3] (.ref x :: S) M := (rn_at k_L_law_1203).trans rfl
theorem k_L_law_1204 : lk 1204 C_L_law = some (.iload_n 3, (0, 0, 0, 0)) := by decide +kernel
theorem s_L_law_1204 {ca : Nat → List Value → tM → tO} {M : tM} {a0 a1 a2 : Option Value} {x : Int32} {S : List Value} : rn ca C_L_law 1204 [a0, a1, a2, some (.int x)] S M = rn ca C_L_law 1205 [a0, a1, a2, some (.int x)] (.int x :: S) M := (rn_at k_L_law_1204).trans rfl
theorem k_L_law_1205 : lk 1205 C_L_law = some (.iconst 1, (0, 0, 0, 0)) := by decide +kernel
theorem s_L_law_1205 {ca : Nat → List Value → tM → tO} {M : tM} {L : tL} {S : List Value} : rn ca C_L_law 1205 L S M = rn ca C_L_law 1206 L (.int (iI 1) :: S) M := (rn_at k_L_law_1205).trans rfl
theorem k_L_law_1206 : lk 1206 C_L_law = some (.iadd, (0, 0, 0, 0)) := by decide +kernel
theorem s_L_law_1206 {ca : Nat → List Value → tM → tO} {M : tM} {L : tL} {x y : Int32} {S : List Value} : rn ca C_L_law 1206 L (.int y :: .int x :: S) M = rn ca C_L_law 1207 L (.int (x + y) :: S) M := (rn_at k_L_law_1206).trans rfl
theorem k_L_law_1207 : lk 1207 C_L_law = some (.iaload, (0, 0, 0, 0)) := by decide +kernel
theorem s_L_law_1207 {ca : Nat → List Value → tM → tO} {M : tM} {L : tL} {a : Nat} {i : Int32} {S : List Value} : rn ca C_L_law 1207 L (.int i :: .ref a :: S) M = if (akind a = 0 ∨ akind a = 6 ∨ akind a = 7) ∧ inb i (alen M a) then rn ca C_L_law 1208 L (.int (M.1 a i.toInt.toNat) :: S) M else none := (rn_at k_L_law_1207).trans rnx_ite
theorem k_L_law_1208 : lk 1208 C_L_law = some (.aload_n 0, (0, 0, 0, 0)) := by decide +kernel
theorem s_L_law_1208 {ca : Nat → List Value → tM → tO} {M : tM} {a1 a2 a3 : Option Value} {x : Nat} {S : List Value} : rn ca C_L_law 1208 [some (.ref x), a1, a2, a3] S M = rn ca C_L_law 1209 [some (.ref x), a1, a2, a3] (.ref x :: S) M := (rn_at k_L_law_1208).trans rfl
theorem k_L_law_1209 : lk 1209 C_L_law = some (.iload_n 3, (0, 0, 0, 0)) := by decide +kernel
theorem s_L_law_1209 {ca : Nat → List Value → tM → tO} {M : tM} {a0 a1 a2 : Option Value} {x : Int32} {S : List Value} : rn ca C_L_law 1209 [a0, a1, a2, some (.int x)] S M = rn ca C_L_law 1210 [a0, a1, a2, some (.int x)] (.int x :: S) M := (rn_at k_L_law_1209).trans rfl
theorem k_L_law_1210 : lk 1210 C_L_law = some (.iconst 2, (0, 0, 0, 0)) := by decide +kernel
theorem s_L_law_1210 {ca : Nat → List Value → tM → tO} {M : tM} {L : tL} {S : List Value} : rn ca C_L_law 1210 L S M = rn ca C_L_law 1211 L (.int (iI 2) :: S) M := (rn_at k_L_law_1210).trans rfl
theorem k_L_law_1211 : lk 1211 C_L_law = some (.iadd, (0, 0, 0, 0)) := by decide +kernel
theorem s_L_law_1211 {ca : Nat → List Value → tM → tO} {M : tM} {L : tL} {x y : Int32} {S : List Value} : rn ca C_L_law 1211 L (.int y :: .int x :: S) M = rn ca C_L_law 1212 L (.int (x + y) :: S) M := (rn_at k_L_law_1211).trans rfl
theorem k_L_law_1212 : lk 1212 C_L_law = some (.iaload, (0, 0, 0, 0)) := by decide +kernel
theorem s_L_law_1212 {ca : Nat → List Value → tM → tO} {M : tM} {L : tL} {a : Nat} {i : Int32} {S : List Value} : rn ca C_L_law 1212 L (.int i :: .ref a :: S) M = if (akind a = 0 ∨ akind a = 6 ∨ akind a = 7) ∧ inb i (alen M a) then rn ca C_L_law 1213 L (.int (M.1 a i.toInt.toNat) :: S) M else none := (rn_at k_L_law_1212).trans rnx_ite
theorem k_L_law_1213 : lk 1213 C_L_law = some (.invokevirtual 132, (122, 2, 10, 1044)) := by decide +kernel
theorem s_L_law_1213 {ca : Nat → List Value → tM → tO} {M : tM} {L : tL} {v1 v2 : Value} {b : Nat} : rn ca C_L_law 1213 L [v2, v1, .ref b] M = if clsO b = some 10 then rnk ca C_L_law 1216 L [] (ca m_X10_seat [.ref b, v1, v2] M) else none := (rn_at k_L_law_1213).trans rnx_ite
theorem k_L_law_1216 : lk 1216 C_L_law = some (.aload_n 2, (0, 0, 0, 0)) := by decide +kernel
theorem s_L_law_1216 {ca : Nat → List Value → tM → tO} {M : tM} {a0 a1 a3 : Option Value} {x : Nat} {S : List Value} : rn ca C_L_law 1216 [a0, a1, some (.ref x), a3] S M = rn ca C_L_law 1217 [a0, a1, some (.ref x), a3] (.ref x :: S) M := (rn_at k_L_law_1216).trans rfl
theorem k_L_law_1217 : lk 1217 C_L_law = some (.aload_n 0, (0, 0, 0, 0)) := by decide +kernel
theorem s_L_law_1217 {ca : Nat → List Value → tM → tO} {M : tM} {a1 a2 a3 : Option Value} {x : Nat} {S : List Value} : rn ca C_L_law 1217 [some (.ref x), a1, a2, a3] S M = rn ca C_L_law 1218 [some (.ref x), a1, a2, a3] (.ref x :: S) M := (rn_at k_L_law_1217).trans rfl
theorem k_L_law_1218 : lk 1218 C_L_law = some (.iload_n 3, (0, 0, 0, 0)) := by decide +kernel
theorem s_L_law_1218 {ca : Nat → List Value → tM → tO} {M : tM} {a0 a1 a2 : Option Value} {x : Int32} {S : List Value} : rn ca C_L_law 1218 [a0, a1, a2, some (.int x)] S M = rn ca C_L_law 1219 [a0, a1, a2, some (.int x)] (.int x :: S) M := (rn_at k_L_law_1218).trans rfl
theorem k_L_law_1219 : lk 1219 C_L_law = some (.iconst 1, (0, 0, 0, 0)) := by decide +kernel
theorem s_L_law_1219 {ca : Nat → List Value → tM → tO} {M : tM} {L : tL} {S : List Value} : rn ca C_L_law 1219 L S M = rn ca C_L_law 1220 L (.int (iI 1) :: S) M := (rn_at k_L_law_1219).trans rfl
theorem k_L_law_1220 : lk 1220 C_L_law = some (.iadd, (0, 0, 0, 0)) := by decide +kernel
theorem s_L_law_1220 {ca : Nat → List Value → tM → tO} {M : tM} {L : tL} {x y : Int32} {S : List Value} : rn ca C_L_law 1220 L (.int y :: .int x :: S) M = rn ca C_L_law 1221 L (.int (x + y) :: S) M := (rn_at k_L_law_1220).trans rfl
theorem k_L_law_1221 : lk 1221 C_L_law = some (.iaload, (0, 0, 0, 0)) := by decide +kernel
theorem s_L_law_1221 {ca : Nat → List Value → tM → tO} {M : tM} {L : tL} {a : Nat} {i : Int32} {S : List Value} : rn ca C_L_law 1221 L (.int i :: .ref a :: S) M = if (akind a = 0 ∨ akind a = 6 ∨ akind a = 7) ∧ inb i (alen M a) then rn ca C_L_law 1222 L (.int (M.1 a i.toInt.toNat) :: S) M else none := (rn_at k_L_law_1221).trans rnx_ite
theorem k_L_law_1222 : lk 1222 C_L_law = some (.aload_n 0, (0, 0, 0, 0)) := by decide +kernel
theorem s_L_law_1222 {ca : Nat → List Value → tM → tO} {M : tM} {a1 a2 a3 : Option Value} {x : Nat} {S : List Value} : rn ca C_L_law 1222 [some (.ref x), a1, a2, a3] S M = rn ca C_L_law 1223 [some (.ref x), a1, a2, a3] (.ref x :: S) M := (rn_at k_L_law_1222).trans rfl
theorem k_L_law_1223 : lk 1223 C_L_law = some (.iload_n 3, (0, 0, 0, 0)) := by decide +kernel
theorem s_L_law_1223 {ca : Nat → List Value → tM → tO} {M : tM} {a0 a1 a2 : Option Value} {x : Int32} {S : List Value} : rn ca C_L_law 1223 [a0, a1, a2, some (.int x)] S M = rn ca C_L_law 1224 [a0, a1, a2, some (.int x)] (.int x :: S) M := (rn_at k_L_law_1223).trans rfl
theorem k_L_law_1224 : lk 1224 C_L_law = some (.iconst 2, (0, 0, 0, 0)) := by decide +kernel
theorem s_L_law_1224 {ca : Nat → List Value → tM → tO} {M : tM} {L : tL} {S : List Value} : rn ca C_L_law 1224 L S M = rn ca C_L_law 1225 L (.int (iI 2) :: S) M := (rn_at k_L_law_1224).trans rfl
theorem k_L_law_1225 : lk 1225 C_L_law = some (.iadd, (0, 0, 0, 0)) := by decide +kernel
theorem s_L_law_1225 {ca : Nat → List Value → tM → tO} {M : tM} {L : tL} {x y : Int32} {S : List Value} : rn ca C_L_law 1225 L (.int y :: .int x :: S) M = rn ca C_L_law 1226 L (.int (x + y) :: S) M := (rn_at k_L_law_1225).trans rfl
theorem k_L_law_1226 : lk 1226 C_L_law = some (.iaload, (0, 0, 0, 0)) := by decide +kernel
theorem s_L_law_1226 {ca : Nat → List Value → tM → tO} {M : tM} {L : tL} {a : Nat} {i : Int32} {S : List Value} : rn ca C_L_law 1226 L (.int i :: .ref a :: S) M = if (akind a = 0 ∨ akind a = 6 ∨ akind a = 7) ∧ inb i (alen M a) then rn ca C_L_law 1227 L (.int (M.1 a i.toInt.toNat) :: S) M else none := (rn_at k_L_law_1226).trans rnx_ite
theorem k_L_law_1227 : lk 1227 C_L_law = some (.invokevirtual 135, (218, 2, 11, 1052)) := by decide +kernel
theorem s_L_law_1227 {ca : Nat → List Value → tM → tO} {M : tM} {L : tL} {v1 v2 : Value} {r0 : Int32} {b : Nat} : rn ca C_L_law 1227 L [v2, v1, .ref b, .int r0] M = if clsO b = some 11 then rnk ca C_L_law 1230 L [.int r0] (ca m_X11_seat [.ref b, v1, v2] M) else none := (rn_at k_L_law_1227).trans rnx_ite
theorem k_L_law_1230 : lk 1230 C_L_law = some (.if_icmp .eq 334, (1564, 0, 0, 0)) := by decide +kernel
theorem s_L_law_1230 {ca : Nat → List Value → tM → tO} {M : tM} {L : tL} {x y : Int32} {S : List Value} : rn ca C_L_law 1230 L (.int y :: .int x :: S) M = if x = y then rn ca C_L_law 1564 L S M else rn ca C_L_law 1233 L S M := (rn_at k_L_law_1230).trans rnx_ite
theorem k_L_law_1233 : lk 1233 C_L_law = some (.iconst 0, (0, 0, 0, 0)) := by decide +kernel
theorem s_L_law_1233 {ca : Nat → List Value → tM → tO} {M : tM} {L : tL} {S : List Value} : rn ca C_L_law 1233 L S M = rn ca C_L_law 1234 L (.int (iI 0) :: S) M := (rn_at k_L_law_1233).trans rfl
theorem k_L_law_1234 : lk 1234 C_L_law = some (.ireturn, (1, 0, 0, 0)) := by decide +kernel
theorem s_L_law_1234 {ca : Nat → List Value → tM → tO} {M : tM} {L : tL} {x : Int32} : rn ca C_L_law 1234 L [.int x] M = if x = iI 0 ∨ x = iI 1 then some (some (.int x), M) else none := (rn_at k_L_law_1234).trans rnx_ite
theorem k_L_law_1235 : lk 1235 C_L_law = some (.aload_n 1, (0, 0, 0, 0)) := by decide +kernel
theorem s_L_law_1235 {ca : Nat → List Value → tM → tO} {M : tM} {a0 a2 a3 : Option Value} {x : Nat} {S : List Value} : rn ca C_L_law 1235 [a0, some (.ref x), a2, a3] S M = rn ca C_L_law 1236 [a0, some (.ref x), a2, a3] (.ref x :: S) M := (rn_at k_L_law_1235).trans rfl
theorem k_L_law_1236 : lk 1236 C_L_law = some (.aload_n 0, (0, 0, 0, 0)) := by decide +kernel
theorem s_L_law_1236 {ca : Nat → List Value → tM → tO} {M : tM} {a1 a2 a3 : Option Value} {x : Nat} {S : List Value} : rn ca C_L_law 1236 [some (.ref x), a1, a2, a3] S M = rn ca C_L_law 1237 [some (.ref x), a1, a2, a3] (.ref x :: S) M := (rn_at k_L_law_1236).trans rfl
theorem k_L_law_1237 : lk 1237 C_L_law = some (.iload_n 3, (0, 0, 0, 0)) := by decide +kernel
theorem s_L_law_1237 {ca : Nat → List Value → tM → tO} {M : tM} {a0 a1 a2 : Option Value} {x : Int32} {S : List Value} : rn ca C_L_law 1237 [a0, a1, a2, some (.int x)] S M = rn ca C_L_law 1238 [a0, a1, a2, some (.int x)] (.int x :: S) M := (rn_at k_L_law_1237).trans rfl
theorem k_L_law_1238 : lk 1238 C_L_law = some (.iconst 1, (0, 0, 0, 0)) := by decide +kernel
theorem s_L_law_1238 {ca : Nat → List Value → tM → tO} {M : tM} {L : tL} {S : List Value} : rn ca C_L_law 1238 L S M = rn ca C_L_law 1239 L (.int (iI 1) :: S) M := (rn_at k_L_law_1238).trans rfl
theorem k_L_law_1239 : lk 1239 C_L_law = some (.iadd, (0, 0, 0, 0)) := by decide +kernel
theorem s_L_law_1239 {ca : Nat → List Value → tM → tO} {M : tM} {L : tL} {x y : Int32} {S : List Value} : rn ca C_L_law 1239 L (.int y :: .int x :: S) M = rn ca C_L_law 1240 L (.int (x + y) :: S) M := (rn_at k_L_law_1239).trans rfl
theorem k_L_law_1240 : lk 1240 C_L_law = some (.iaload, (0, 0, 0, 0)) := by decide +kernel
theorem s_L_law_1240 {ca : Nat → List Value → tM → tO} {M : tM} {L : tL} {a : Nat} {i : Int32} {S : List Value} : rn ca C_L_law 1240 L (.int i :: .ref a :: S) M = if (akind a = 0 ∨ akind a = 6 ∨ akind a = 7) ∧ inb i (alen M a) then rn ca C_L_law 1241 L (.int (M.1 a i.toInt.toNat) :: S) M else none := (rn_at k_L_law_1240).trans rnx_ite
theorem k_L_law_1241 : lk 1241 C_L_law = some (.aload_n 0, (0, 0, 0, 0)) := by decide +kernel
theorem s_L_law_1241 {ca : Nat → List Value → tM → tO} {M : tM} {a1 a2 a3 : Option Value} {x : Nat} {S : List Value} : rn ca C_L_law 1241 [some (.ref x), a1, a2, a3] S M = rn ca C_L_law 1242 [some (.ref x), a1, a2, a3] (.ref x :: S) M := (rn_at k_L_law_1241).trans rfl
theorem k_L_law_1242 : lk 1242 C_L_law = some (.iload_n 3, (0, 0, 0, 0)) := by decide +kernel
theorem s_L_law_1242 {ca : Nat → List Value → tM → tO} {M : tM} {a0 a1 a2 : Option Value} {x : Int32} {S : List Value} : rn ca C_L_law 1242 [a0, a1, a2, some (.int x)] S M = rn ca C_L_law 1243 [a0, a1, a2, some (.int x)] (.int x :: S) M := (rn_at k_L_law_1242).trans rfl
theorem k_L_law_1243 : lk 1243 C_L_law = some (.iconst 2, (0, 0, 0, 0)) := by decide +kernel
theorem s_L_law_1243 {ca : Nat → List Value → tM → tO} {M : tM} {L : tL} {S : List Value} : rn ca C_L_law 1243 L S M = rn ca C_L_law 1244 L (.int (iI 2) :: S) M := (rn_at k_L_law_1243).trans rfl
theorem k_L_law_1244 : lk 1244 C_L_law = some (.iadd, (0, 0, 0, 0)) := by decide +kernel
theorem s_L_law_1244 {ca : Nat → List Value → tM → tO} {M : tM} {L : tL} {x y : Int32} {S : List Value} : rn ca C_L_law 1244 L (.int y :: .int x :: S) M = rn ca C_L_law 1245 L (.int (x + y) :: S) M := (rn_at k_L_law_1244).trans rfl
theorem k_L_law_1245 : lk 1245 C_L_law = some (.iaload, (0, 0, 0, 0)) := by decide +kernel
theorem s_L_law_1245 {ca : Nat → List Value → tM → tO} {M : tM} {L : tL} {a : Nat} {i : Int32} {S : List Value} : rn ca C_L_law 1245 L (.int i :: .ref a :: S) M = if (akind a = 0 ∨ akind a = 6 ∨ akind a = 7) ∧ inb i (alen M a) then rn ca C_L_law 1246 L (.int (M.1 a i.toInt.toNat) :: S) M else none := (rn_at k_L_law_1245).trans rnx_ite
theorem k_L_law_1246 : lk 1246 C_L_law = some (.invokevirtual 136, (123, 2, 10, 1056)) := by decide +kernel
theorem s_L_law_1246 {ca : Nat → List Value → tM → tO} {M : tM} {L : tL} {v1 v2 : Value} {b : Nat} : rn ca C_L_law 1246 L [v2, v1, .ref b] M = if clsO b = some 10 then rnk ca C_L_law 1249 L [] (ca m_X10_judge [.ref b, v1, v2] M) else none := (rn_at k_L_law_1246).trans rnx_ite
theorem k_L_law_1249 : lk 1249 C_L_law = some (.aload_n 2, (0, 0, 0, 0)) := by decide +kernel
theorem s_L_law_1249 {ca : Nat → List Value → tM → tO} {M : tM} {a0 a1 a3 : Option Value} {x : Nat} {S : List Value} : rn ca C_L_law 1249 [a0, a1, some (.ref x), a3] S M = rn ca C_L_law 1250 [a0, a1, some (.ref x), a3] (.ref x :: S) M := (rn_at k_L_law_1249).trans rfl
theorem k_L_law_1250 : lk 1250 C_L_law = some (.aload_n 0, (0, 0, 0, 0)) := by decide +kernel
theorem s_L_law_1250 {ca : Nat → List Value → tM → tO} {M : tM} {a1 a2 a3 : Option Value} {x : Nat} {S : List Value} : rn ca C_L_law 1250 [some (.ref x), a1, a2, a3] S M = rn ca C_L_law 1251 [some (.ref x), a1, a2, a3] (.ref x :: S) M := (rn_at k_L_law_1250).trans rfl
theorem k_L_law_1251 : lk 1251 C_L_law = some (.iload_n 3, (0, 0, 0, 0)) := by decide +kernel
theorem s_L_law_1251 {ca : Nat → List Value → tM → tO} {M : tM} {a0 a1 a2 : Option Value} {x : Int32} {S : List Value} : rn ca C_L_law 1251 [a0, a1, a2, some (.int x)] S M = rn ca C_L_law 1252 [a0, a1, a2, some (.int x)] (.int x :: S) M := (rn_at k_L_law_1251).trans rfl
theorem k_L_law_1252 : lk 1252 C_L_law = some (.iconst 1, (0, 0, 0, 0)) := by decide +kernel
theorem s_L_law_1252 {ca : Nat → List Value → tM → tO} {M : tM} {L : tL} {S : List Value} : rn ca C_L_law 1252 L S M = rn ca C_L_law 1253 L (.int (iI 1) :: S) M := (rn_at k_L_law_1252).trans rfl
theorem k_L_law_1253 : lk 1253 C_L_law = some (.iadd, (0, 0, 0, 0)) := by decide +kernel
theorem s_L_law_1253 {ca : Nat → List Value → tM → tO} {M : tM} {L : tL} {x y : Int32} {S : List Value} : rn ca C_L_law 1253 L (.int y :: .int x :: S) M = rn ca C_L_law 1254 L (.int (x + y) :: S) M := (rn_at k_L_law_1253).trans rfl
theorem k_L_law_1254 : lk 1254 C_L_law = some (.iaload, (0, 0, 0, 0)) := by decide +kernel
theorem s_L_law_1254 {ca : Nat → List Value → tM → tO} {M : tM} {L : tL} {a : Nat} {i : Int32} {S : List Value} : rn ca C_L_law 1254 L (.int i :: .ref a :: S) M = if (akind a = 0 ∨ akind a = 6 ∨ akind a = 7) ∧ inb i (alen M a) then rn ca C_L_law 1255 L (.int (M.1 a i.toInt.toNat) :: S) M else none := (rn_at k_L_law_1254).trans rnx_ite
theorem k_L_law_1255 : lk 1255 C_L_law = some (.aload_n 0, (0, 0, 0, 0)) := by decide +kernel
theorem s_L_law_1255 {ca : Nat → List Value → tM → tO} {M : tM} {a1 a2 a3 : Option Value} {x : Nat} {S : List Value} : rn ca C_L_law 1255 [some (.ref x), a1, a2, a3] S M = rn ca C_L_law 1256 [some (.ref x), a1, a2, a3] (.ref x :: S) M := (rn_at k_L_law_1255).trans rfl
theorem k_L_law_1256 : lk 1256 C_L_law = some (.iload_n 3, (0, 0, 0, 0)) := by decide +kernel
theorem s_L_law_1256 {ca : Nat → List Value → tM → tO} {M : tM} {a0 a1 a2 : Option Value} {x : Int32} {S : List Value} : rn ca C_L_law 1256 [a0, a1, a2, some (.int x)] S M = rn ca C_L_law 1257 [a0, a1, a2, some (.int x)] (.int x :: S) M := (rn_at k_L_law_1256).trans rfl
theorem k_L_law_1257 : lk 1257 C_L_law = some (.iconst 2, (0, 0, 0, 0)) := by decide +kernel
theorem s_L_law_1257 {ca : Nat → List Value → tM → tO} {M : tM} {L : tL} {S : List Value} : rn ca C_L_law 1257 L S M = rn ca C_L_law 1258 L (.int (iI 2) :: S) M := (rn_at k_L_law_1257).trans rfl
theorem k_L_law_1258 : lk 1258 C_L_law = some (.iadd, (0, 0, 0, 0)) := by decide +kernel
theorem s_L_law_1258 {ca : Nat → List Value → tM → tO} {M : tM} {L : tL} {x y : Int32} {S : List Value} : rn ca C_L_law 1258 L (.int y :: .int x :: S) M = rn ca C_L_law 1259 L (.int (x + y) :: S) M := (rn_at k_L_law_1258).trans rfl
theorem k_L_law_1259 : lk 1259 C_L_law = some (.iaload, (0, 0, 0, 0)) := by decide +kernel
theorem s_L_law_1259 {ca : Nat → List Value → tM → tO} {M : tM} {L : tL} {a : Nat} {i : Int32} {S : List Value} : rn ca C_L_law 1259 L (.int i :: .ref a :: S) M = if (akind a = 0 ∨ akind a = 6 ∨ akind a = 7) ∧ inb i (alen M a) then rn ca C_L_law 1260 L (.int (M.1 a i.toInt.toNat) :: S) M else none := (rn_at k_L_law_1259).trans rnx_ite
theorem k_L_law_1260 : lk 1260 C_L_law = some (.invokevirtual 139, (222, 2, 11, 1081)) := by decide +kernel
theorem s_L_law_1260 {ca : Nat → List Value → tM → tO} {M : tM} {L : tL} {v1 v2 : Value} {r0 : Int32} {b : Nat} : rn ca C_L_law 1260 L [v2, v1, .ref b, .int r0] M = if clsO b = some 11 then rnk ca C_L_law 1263 L [.int r0] (ca m_X11_judge [.ref b, v1, v2] M) else none := (rn_at k_L_law_1260).trans rnx_ite
theorem k_L_law_1263 : lk 1263 C_L_law = some (.if_icmp .eq 301, (1564, 0, 0, 0)) := by decide +kernel
theorem s_L_law_1263 {ca : Nat → List Value → tM → tO} {M : tM} {L : tL} {x y : Int32} {S : List Value} : rn ca C_L_law 1263 L (.int y :: .int x :: S) M = if x = y then rn ca C_L_law 1564 L S M else rn ca C_L_law 1266 L S M := (rn_at k_L_law_1263).trans rnx_ite
theorem k_L_law_1266 : lk 1266 C_L_law = some (.iconst 0, (0, 0, 0, 0)) := by decide +kernel
theorem s_L_law_1266 {ca : Nat → List Value → tM → tO} {M : tM} {L : tL} {S : List Value} : rn ca C_L_law 1266 L S M = rn ca C_L_law 1267 L (.int (iI 0) :: S) M := (rn_at k_L_law_1266).trans rfl
theorem k_L_law_1267 : lk 1267 C_L_law = some (.ireturn, (1, 0, 0, 0)) := by decide +kernel
theorem s_L_law_1267 {ca : Nat → List Value → tM → tO} {M : tM} {L : tL} {x : Int32} : rn ca C_L_law 1267 L [.int x] M = if x = iI 0 ∨ x = iI 1 then some (some (.int x), M) else none := (rn_at k_L_law_1267).trans rnx_ite
theorem k_L_law_1268 : lk 1268 C_L_law = some (.aload_n 1, (0, 0, 0, 0)) := by decide +kernel
theorem s_L_law_1268 {ca : Nat → List Value → tM → tO} {M : tM} {a0 a2 a3 : Option Value} {x : Nat} {S : List Value} : rn ca C_L_law 1268 [a0, some (.ref x), a2, a3] S M = rn ca C_L_law 1269 [a0, some (.ref x), a2, a3] (.ref x :: S) M := (rn_at k_L_law_1268).trans rfl
theorem k_L_law_1269 : lk 1269 C_L_law = some (.aload_n 0, (0, 0, 0, 0)) := by decide +kernel
theorem s_L_law_1269 {ca : Nat → List Value → tM → tO} {M : tM} {a1 a2 a3 : Option Value} {x : Nat} {S : List Value} : rn ca C_L_law 1269 [some (.ref x), a1, a2, a3] S M = rn ca C_L_law 1270 [some (.ref x), a1, a2, a3] (.ref x :: S) M := (rn_at k_L_law_1269).trans rfl
theorem k_L_law_1270 : lk 1270 C_L_law = some (.iload_n 3, (0, 0, 0, 0)) := by decide +kernel
theorem s_L_law_1270 {ca : Nat → List Value → tM → tO} {M : tM} {a0 a1 a2 : Option Value} {x : Int32} {S : List Value} : rn ca C_L_law 1270 [a0, a1, a2, some (.int x)] S M = rn ca C_L_law 1271 [a0, a1, a2, some (.int x)] (.int x :: S) M := (rn_at k_L_law_1270).trans rfl
theorem k_L_law_1271 : lk 1271 C_L_law = some (.iconst 1, (0, 0, 0, 0)) := by decide +kernel
theorem s_L_law_1271 {ca : Nat → List Value → tM → tO} {M : tM} {L : tL} {S : List Value} : rn ca C_L_law 1271 L S M = rn ca C_L_law 1272 L (.int (iI 1) :: S) M := (rn_at k_L_law_1271).trans rfl
theorem k_L_law_1272 : lk 1272 C_L_law = some (.iadd, (0, 0, 0, 0)) := by decide +kernel
theorem s_L_law_1272 {ca : Nat → List Value → tM → tO} {M : tM} {L : tL} {x y : Int32} {S : List Value} : rn ca C_L_law 1272 L (.int y :: .int x :: S) M = rn ca C_L_law 1273 L (.int (x + y) :: S) M := (rn_at k_L_law_1272).trans rfl
theorem k_L_law_1273 : lk 1273 C_L_law = some (.iaload, (0, 0, 0, 0)) := by decide +kernel
theorem s_L_law_1273 {ca : Nat → List Value → tM → tO} {M : tM} {L : tL} {a : Nat} {i : Int32} {S : List Value} : rn ca C_L_law 1273 L (.int i :: .ref a :: S) M = if (akind a = 0 ∨ akind a = 6 ∨ akind a = 7) ∧ inb i (alen M a) then rn ca C_L_law 1274 L (.int (M.1 a i.toInt.toNat) :: S) M else none := (rn_at k_L_law_1273).trans rnx_ite
theorem k_L_law_1274 : lk 1274 C_L_law = some (.aload_n 0, (0, 0, 0, 0)) := by decide +kernel
theorem s_L_law_1274 {ca : Nat → List Value → tM → tO} {M : tM} {a1 a2 a3 : Option Value} {x : Nat} {S : List Value} : rn ca C_L_law 1274 [some (.ref x), a1, a2, a3] S M = rn ca C_L_law 1275 [some (.ref x), a1, a2, a3] (.ref x :: S) M := (rn_at k_L_law_1274).trans rfl
theorem k_L_law_1275 : lk 1275 C_L_law = some (.iload_n 3, (0, 0, 0, 0)) := by decide +kernel
theorem s_L_law_1275 {ca : Nat → List Value → tM → tO} {M : tM} {a0 a1 a2 : Option Value} {x : Int32} {S : List Value} : rn ca C_L_law 1275 [a0, a1, a2, some (.int x)] S M = rn ca C_L_law 1276 [a0, a1, a2, some (.int x)] (.int x :: S) M := (rn_at k_L_law_1275).trans rfl
theorem k_L_law_1276 : lk 1276 C_L_law = some (.iconst 2, (0, 0, 0, 0)) := by decide +kernel
theorem s_L_law_1276 {ca : Nat → List Value → tM → tO} {M : tM} {L : tL} {S : List Value} : rn ca C_L_law 1276 L S M = rn ca C_L_law 1277 L (.int (iI 2) :: S) M := (rn_at k_L_law_1276).trans rfl
theorem k_L_law_1277 : lk 1277 C_L_law = some (.iadd, (0, 0, 0, 0)) := by decide +kernel
theorem s_L_law_1277 {ca : Nat → List Value → tM → tO} {M : tM} {L : tL} {x y : Int32} {S : List Value} : rn ca C_L_law 1277 L (.int y :: .int x :: S) M = rn ca C_L_law 1278 L (.int (x + y) :: S) M := (rn_at k_L_law_1277).trans rfl
theorem k_L_law_1278 : lk 1278 C_L_law = some (.iaload, (0, 0, 0, 0)) := by decide +kernel
theorem s_L_law_1278 {ca : Nat → List Value → tM → tO} {M : tM} {L : tL} {a : Nat} {i : Int32} {S : List Value} : rn ca C_L_law 1278 L (.int i :: .ref a :: S) M = if (akind a = 0 ∨ akind a = 6 ∨ akind a = 7) ∧ inb i (alen M a) then rn ca C_L_law 1279 L (.int (M.1 a i.toInt.toNat) :: S) M else none := (rn_at k_L_law_1278).trans rnx_ite
theorem k_L_law_1279 : lk 1279 C_L_law = some (.aload_n 0, (0, 0, 0, 0)) := by decide +kernel
theorem s_L_law_1279 {ca : Nat → List Value → tM → tO} {M : tM} {a1 a2 a3 : Option Value} {x : Nat} {S : List Value} : rn ca C_L_law 1279 [some (.ref x), a1, a2, a3] S M = rn ca C_L_law 1280 [some (.ref x), a1, a2, a3] (.ref x :: S) M := (rn_at k_L_law_1279).trans rfl
theorem k_L_law_1280 : lk 1280 C_L_law = some (.iload_n 3, (0, 0, 0, 0)) := by decide +kernel
theorem s_L_law_1280 {ca : Nat → List Value → tM → tO} {M : tM} {a0 a1 a2 : Option Value} {x : Int32} {S : List Value} : rn ca C_L_law 1280 [a0, a1, a2, some (.int x)] S M = rn ca C_L_law 1281 [a0, a1, a2, some (.int x)] (.int x :: S) M := (rn_at k_L_law_1280).trans rfl
theorem k_L_law_1281 : lk 1281 C_L_law = some (.iconst 3, (0, 0, 0, 0)) := by decide +kernel
theorem s_L_law_1281 {ca : Nat → List Value → tM → tO} {M : tM} {L : tL} {S : List Value} : rn ca C_L_law 1281 L S M = rn ca C_L_law 1282 L (.int (iI 3) :: S) M := (rn_at k_L_law_1281).trans rfl
theorem k_L_law_1282 : lk 1282 C_L_law = some (.iadd, (0, 0, 0, 0)) := by decide +kernel
theorem s_L_law_1282 {ca : Nat → List Value → tM → tO} {M : tM} {L : tL} {x y : Int32} {S : List Value} : rn ca C_L_law 1282 L (.int y :: .int x :: S) M = rn ca C_L_law 1283 L (.int (x + y) :: S) M := (rn_at k_L_law_1282).trans rfl
theorem k_L_law_1283 : lk 1283 C_L_law = some (.iaload, (0, 0, 0, 0)) := by decide +kernel
theorem s_L_law_1283 {ca : Nat → List Value → tM → tO} {M : tM} {L : tL} {a : Nat} {i : Int32} {S : List Value} : rn ca C_L_law 1283 L (.int i :: .ref a :: S) M = if (akind a = 0 ∨ akind a = 6 ∨ akind a = 7) ∧ inb i (alen M a) then rn ca C_L_law 1284 L (.int (M.1 a i.toInt.toNat) :: S) M else none := (rn_at k_L_law_1283).trans rnx_ite
theorem k_L_law_1284 : lk 1284 C_L_law = some (.invokevirtual 140, (124, 3, 10, 1099)) := by decide +kernel
theorem s_L_law_1284 {ca : Nat → List Value → tM → tO} {M : tM} {L : tL} {v1 v2 v3 : Value} {b : Nat} : rn ca C_L_law 1284 L [v3, v2, v1, .ref b] M = if clsO b = some 10 then rnk ca C_L_law 1287 L [] (ca m_X10_behind [.ref b, v1, v2, v3] M) else none := (rn_at k_L_law_1284).trans rnx_ite
theorem k_L_law_1287 : lk 1287 C_L_law = some (.aload_n 2, (0, 0, 0, 0)) := by decide +kernel
theorem s_L_law_1287 {ca : Nat → List Value → tM → tO} {M : tM} {a0 a1 a3 : Option Value} {x : Nat} {S : List Value} : rn ca C_L_law 1287 [a0, a1, some (.ref x), a3] S M = rn ca C_L_law 1288 [a0, a1, some (.ref x), a3] (.ref x :: S) M := (rn_at k_L_law_1287).trans rfl
theorem k_L_law_1288 : lk 1288 C_L_law = some (.aload_n 0, (0, 0, 0, 0)) := by decide +kernel
theorem s_L_law_1288 {ca : Nat → List Value → tM → tO} {M : tM} {a1 a2 a3 : Option Value} {x : Nat} {S : List Value} : rn ca C_L_law 1288 [some (.ref x), a1, a2, a3] S M = rn ca C_L_law 1289 [some (.ref x), a1, a2, a3] (.ref x :: S) M := (rn_at k_L_law_1288).trans rfl
theorem k_L_law_1289 : lk 1289 C_L_law = some (.iload_n 3, (0, 0, 0, 0)) := by decide +kernel
theorem s_L_law_1289 {ca : Nat → List Value → tM → tO} {M : tM} {a0 a1 a2 : Option Value} {x : Int32} {S : List Value} : rn ca C_L_law 1289 [a0, a1, a2, some (.int x)] S M = rn ca C_L_law 1290 [a0, a1, a2, some (.int x)] (.int x :: S) M := (rn_at k_L_law_1289).trans rfl
theorem k_L_law_1290 : lk 1290 C_L_law = some (.iconst 1, (0, 0, 0, 0)) := by decide +kernel
theorem s_L_law_1290 {ca : Nat → List Value → tM → tO} {M : tM} {L : tL} {S : List Value} : rn ca C_L_law 1290 L S M = rn ca C_L_law 1291 L (.int (iI 1) :: S) M := (rn_at k_L_law_1290).trans rfl
theorem k_L_law_1291 : lk 1291 C_L_law = some (.iadd, (0, 0, 0, 0)) := by decide +kernel
theorem s_L_law_1291 {ca : Nat → List Value → tM → tO} {M : tM} {L : tL} {x y : Int32} {S : List Value} : rn ca C_L_law 1291 L (.int y :: .int x :: S) M = rn ca C_L_law 1292 L (.int (x + y) :: S) M := (rn_at k_L_law_1291).trans rfl
theorem k_L_law_1292 : lk 1292 C_L_law = some (.iaload, (0, 0, 0, 0)) := by decide +kernel
theorem s_L_law_1292 {ca : Nat → List Value → tM → tO} {M : tM} {L : tL} {a : Nat} {i : Int32} {S : List Value} : rn ca C_L_law 1292 L (.int i :: .ref a :: S) M = if (akind a = 0 ∨ akind a = 6 ∨ akind a = 7) ∧ inb i (alen M a) then rn ca C_L_law 1293 L (.int (M.1 a i.toInt.toNat) :: S) M else none := (rn_at k_L_law_1292).trans rnx_ite
theorem k_L_law_1293 : lk 1293 C_L_law = some (.aload_n 0, (0, 0, 0, 0)) := by decide +kernel
theorem s_L_law_1293 {ca : Nat → List Value → tM → tO} {M : tM} {a1 a2 a3 : Option Value} {x : Nat} {S : List Value} : rn ca C_L_law 1293 [some (.ref x), a1, a2, a3] S M = rn ca C_L_law 1294 [some (.ref x), a1, a2, a3] (.ref x :: S) M := (rn_at k_L_law_1293).trans rfl
theorem k_L_law_1294 : lk 1294 C_L_law = some (.iload_n 3, (0, 0, 0, 0)) := by decide +kernel
theorem s_L_law_1294 {ca : Nat → List Value → tM → tO} {M : tM} {a0 a1 a2 : Option Value} {x : Int32} {S : List Value} : rn ca C_L_law 1294 [a0, a1, a2, some (.int x)] S M = rn ca C_L_law 1295 [a0, a1, a2, some (.int x)] (.int x :: S) M := (rn_at k_L_law_1294).trans rfl
theorem k_L_law_1295 : lk 1295 C_L_law = some (.iconst 2, (0, 0, 0, 0)) := by decide +kernel
theorem s_L_law_1295 {ca : Nat → List Value → tM → tO} {M : tM} {L : tL} {S : List Value} : rn ca C_L_law 1295 L S M = rn ca C_L_law 1296 L (.int (iI 2) :: S) M := (rn_at k_L_law_1295).trans rfl
theorem k_L_law_1296 : lk 1296 C_L_law = some (.iadd, (0, 0, 0, 0)) := by decide +kernel
theorem s_L_law_1296 {ca : Nat → List Value → tM → tO} {M : tM} {L : tL} {x y : Int32} {S : List Value} : rn ca C_L_law 1296 L (.int y :: .int x :: S) M = rn ca C_L_law 1297 L (.int (x + y) :: S) M := (rn_at k_L_law_1296).trans rfl
theorem k_L_law_1297 : lk 1297 C_L_law = some (.iaload, (0, 0, 0, 0)) := by decide +kernel
theorem s_L_law_1297 {ca : Nat → List Value → tM → tO} {M : tM} {L : tL} {a : Nat} {i : Int32} {S : List Value} : rn ca C_L_law 1297 L (.int i :: .ref a :: S) M = if (akind a = 0 ∨ akind a = 6 ∨ akind a = 7) ∧ inb i (alen M a) then rn ca C_L_law 1298 L (.int (M.1 a i.toInt.toNat) :: S) M else none := (rn_at k_L_law_1297).trans rnx_ite
theorem k_L_law_1298 : lk 1298 C_L_law = some (.aload_n 0, (0, 0, 0, 0)) := by decide +kernel
theorem s_L_law_1298 {ca : Nat → List Value → tM → tO} {M : tM} {a1 a2 a3 : Option Value} {x : Nat} {S : List Value} : rn ca C_L_law 1298 [some (.ref x), a1, a2, a3] S M = rn ca C_L_law 1299 [some (.ref x), a1, a2, a3] (.ref x :: S) M := (rn_at k_L_law_1298).trans rfl
theorem k_L_law_1299 : lk 1299 C_L_law = some (.iload_n 3, (0, 0, 0, 0)) := by decide +kernel
theorem s_L_law_1299 {ca : Nat → List Value → tM → tO} {M : tM} {a0 a1 a2 : Option Value} {x : Int32} {S : List Value} : rn ca C_L_law 1299 [a0, a1, a2, some (.int x)] S M = rn ca C_L_law 1300 [a0, a1, a2, some (.int x)] (.int x :: S) M := (rn_at k_L_law_1299).trans rfl
theorem k_L_law_1300 : lk 1300 C_L_law = some (.iconst 3, (0, 0, 0, 0)) := by decide +kernel
theorem s_L_law_1300 {ca : Nat → List Value → tM → tO} {M : tM} {L : tL} {S : List Value} : rn ca C_L_law 1300 L S M = rn ca C_L_law 1301 L (.int (iI 3) :: S) M := (rn_at k_L_law_1300).trans rfl
theorem k_L_law_1301 : lk 1301 C_L_law = some (.iadd, (0, 0, 0, 0)) := by decide +kernel
theorem s_L_law_1301 {ca : Nat → List Value → tM → tO} {M : tM} {L : tL} {x y : Int32} {S : List Value} : rn ca C_L_law 1301 L (.int y :: .int x :: S) M = rn ca C_L_law 1302 L (.int (x + y) :: S) M := (rn_at k_L_law_1301).trans rfl
theorem k_L_law_1302 : lk 1302 C_L_law = some (.iaload, (0, 0, 0, 0)) := by decide +kernel
theorem s_L_law_1302 {ca : Nat → List Value → tM → tO} {M : tM} {L : tL} {a : Nat} {i : Int32} {S : List Value} : rn ca C_L_law 1302 L (.int i :: .ref a :: S) M = if (akind a = 0 ∨ akind a = 6 ∨ akind a = 7) ∧ inb i (alen M a) then rn ca C_L_law 1303 L (.int (M.1 a i.toInt.toNat) :: S) M else none := (rn_at k_L_law_1302).trans rnx_ite
theorem k_L_law_1303 : lk 1303 C_L_law = some (.invokevirtual 143, (235, 3, 11, 1107)) := by decide +kernel
theorem s_L_law_1303 {ca : Nat → List Value → tM → tO} {M : tM} {L : tL} {v1 v2 v3 : Value} {r0 : Int32} {b : Nat} : rn ca C_L_law 1303 L [v3, v2, v1, .ref b, .int r0] M = if clsO b = some 11 then rnk ca C_L_law 1306 L [.int r0] (ca m_X11_behind [.ref b, v1, v2, v3] M) else none := (rn_at k_L_law_1303).trans rnx_ite
theorem k_L_law_1306 : lk 1306 C_L_law = some (.if_icmp .eq 258, (1564, 0, 0, 0)) := by decide +kernel
theorem s_L_law_1306 {ca : Nat → List Value → tM → tO} {M : tM} {L : tL} {x y : Int32} {S : List Value} : rn ca C_L_law 1306 L (.int y :: .int x :: S) M = if x = y then rn ca C_L_law 1564 L S M else rn ca C_L_law 1309 L S M := (rn_at k_L_law_1306).trans rnx_ite
theorem k_L_law_1309 : lk 1309 C_L_law = some (.iconst 0, (0, 0, 0, 0)) := by decide +kernel
theorem s_L_law_1309 {ca : Nat → List Value → tM → tO} {M : tM} {L : tL} {S : List Value} : rn ca C_L_law 1309 L S M = rn ca C_L_law 1310 L (.int (iI 0) :: S) M := (rn_at k_L_law_1309).trans rfl
theorem k_L_law_1310 : lk 1310 C_L_law = some (.ireturn, (1, 0, 0, 0)) := by decide +kernel
theorem s_L_law_1310 {ca : Nat → List Value → tM → tO} {M : tM} {L : tL} {x : Int32} : rn ca C_L_law 1310 L [.int x] M = if x = iI 0 ∨ x = iI 1 then some (some (.int x), M) else none := (rn_at k_L_law_1310).trans rnx_ite
theorem k_L_law_1311 : lk 1311 C_L_law = some (.aload_n 1, (0, 0, 0, 0)) := by decide +kernel
theorem s_L_law_1311 {ca : Nat → List Value → tM → tO} {M : tM} {a0 a2 a3 : Option Value} {x : Nat} {S : List Value} : rn ca C_L_law 1311 [a0, some (.ref x), a2, a3] S M = rn ca C_L_law 1312 [a0, some (.ref x), a2, a3] (.ref x :: S) M := (rn_at k_L_law_1311).trans rfl
theorem k_L_law_1312 : lk 1312 C_L_law = some (.aload_n 0, (0, 0, 0, 0)) := by decide +kernel
theorem s_L_law_1312 {ca : Nat → List Value → tM → tO} {M : tM} {a1 a2 a3 : Option Value} {x : Nat} {S : List Value} : rn ca C_L_law 1312 [some (.ref x), a1, a2, a3] S M = rn ca C_L_law 1313 [some (.ref x), a1, a2, a3] (.ref x :: S) M := (rn_at k_L_law_1312).trans rfl
theorem k_L_law_1313 : lk 1313 C_L_law = some (.iload_n 3, (0, 0, 0, 0)) := by decide +kernel
theorem s_L_law_1313 {ca : Nat → List Value → tM → tO} {M : tM} {a0 a1 a2 : Option Value} {x : Int32} {S : List Value} : rn ca C_L_law 1313 [a0, a1, a2, some (.int x)] S M = rn ca C_L_law 1314 [a0, a1, a2, some (.int x)] (.int x :: S) M := (rn_at k_L_law_1313).trans rfl
theorem k_L_law_1314 : lk 1314 C_L_law = some (.iconst 1, (0, 0, 0, 0)) := by decide +kernel
theorem s_L_law_1314 {ca : Nat → List Value → tM → tO} {M : tM} {L : tL} {S : List Value} : rn ca C_L_law 1314 L S M = rn ca C_L_law 1315 L (.int (iI 1) :: S) M := (rn_at k_L_law_1314).trans rfl
theorem k_L_law_1315 : lk 1315 C_L_law = some (.iadd, (0, 0, 0, 0)) := by decide +kernel
theorem s_L_law_1315 {ca : Nat → List Value → tM → tO} {M : tM} {L : tL} {x y : Int32} {S : List Value} : rn ca C_L_law 1315 L (.int y :: .int x :: S) M = rn ca C_L_law 1316 L (.int (x + y) :: S) M := (rn_at k_L_law_1315).trans rfl
theorem k_L_law_1316 : lk 1316 C_L_law = some (.iaload, (0, 0, 0, 0)) := by decide +kernel
theorem s_L_law_1316 {ca : Nat → List Value → tM → tO} {M : tM} {L : tL} {a : Nat} {i : Int32} {S : List Value} : rn ca C_L_law 1316 L (.int i :: .ref a :: S) M = if (akind a = 0 ∨ akind a = 6 ∨ akind a = 7) ∧ inb i (alen M a) then rn ca C_L_law 1317 L (.int (M.1 a i.toInt.toNat) :: S) M else none := (rn_at k_L_law_1316).trans rnx_ite
theorem k_L_law_1317 : lk 1317 C_L_law = some (.aload_n 0, (0, 0, 0, 0)) := by decide +kernel
theorem s_L_law_1317 {ca : Nat → List Value → tM → tO} {M : tM} {a1 a2 a3 : Option Value} {x : Nat} {S : List Value} : rn ca C_L_law 1317 [some (.ref x), a1, a2, a3] S M = rn ca C_L_law 1318 [some (.ref x), a1, a2, a3] (.ref x :: S) M := (rn_at k_L_law_1317).trans rfl
theorem k_L_law_1318 : lk 1318 C_L_law = some (.iload_n 3, (0, 0, 0, 0)) := by decide +kernel
theorem s_L_law_1318 {ca : Nat → List Value → tM → tO} {M : tM} {a0 a1 a2 : Option Value} {x : Int32} {S : List Value} : rn ca C_L_law 1318 [a0, a1, a2, some (.int x)] S M = rn ca C_L_law 1319 [a0, a1, a2, some (.int x)] (.int x :: S) M := (rn_at k_L_law_1318).trans rfl
theorem k_L_law_1319 : lk 1319 C_L_law = some (.iconst 2, (0, 0, 0, 0)) := by decide +kernel
theorem s_L_law_1319 {ca : Nat → List Value → tM → tO} {M : tM} {L : tL} {S : List Value} : rn ca C_L_law 1319 L S M = rn ca C_L_law 1320 L (.int (iI 2) :: S) M := (rn_at k_L_law_1319).trans rfl
theorem k_L_law_1320 : lk 1320 C_L_law = some (.iadd, (0, 0, 0, 0)) := by decide +kernel
theorem s_L_law_1320 {ca : Nat → List Value → tM → tO} {M : tM} {L : tL} {x y : Int32} {S : List Value} : rn ca C_L_law 1320 L (.int y :: .int x :: S) M = rn ca C_L_law 1321 L (.int (x + y) :: S) M := (rn_at k_L_law_1320).trans rfl
theorem k_L_law_1321 : lk 1321 C_L_law = some (.iaload, (0, 0, 0, 0)) := by decide +kernel
theorem s_L_law_1321 {ca : Nat → List Value → tM → tO} {M : tM} {L : tL} {a : Nat} {i : Int32} {S : List Value} : rn ca C_L_law 1321 L (.int i :: .ref a :: S) M = if (akind a = 0 ∨ akind a = 6 ∨ akind a = 7) ∧ inb i (alen M a) then rn ca C_L_law 1322 L (.int (M.1 a i.toInt.toNat) :: S) M else none := (rn_at k_L_law_1321).trans rnx_ite
theorem k_L_law_1322 : lk 1322 C_L_law = some (.invokevirtual 144, (125, 2, 10, 1115)) := by decide +kernel
theorem s_L_law_1322 {ca : Nat → List Value → tM → tO} {M : tM} {L : tL} {v1 v2 : Value} {b : Nat} : rn ca C_L_law 1322 L [v2, v1, .ref b] M = if clsO b = some 10 then rnk ca C_L_law 1325 L [] (ca m_X10_done [.ref b, v1, v2] M) else none := (rn_at k_L_law_1322).trans rnx_ite
theorem k_L_law_1325 : lk 1325 C_L_law = some (.aload_n 2, (0, 0, 0, 0)) := by decide +kernel
theorem s_L_law_1325 {ca : Nat → List Value → tM → tO} {M : tM} {a0 a1 a3 : Option Value} {x : Nat} {S : List Value} : rn ca C_L_law 1325 [a0, a1, some (.ref x), a3] S M = rn ca C_L_law 1326 [a0, a1, some (.ref x), a3] (.ref x :: S) M := (rn_at k_L_law_1325).trans rfl
theorem k_L_law_1326 : lk 1326 C_L_law = some (.aload_n 0, (0, 0, 0, 0)) := by decide +kernel
theorem s_L_law_1326 {ca : Nat → List Value → tM → tO} {M : tM} {a1 a2 a3 : Option Value} {x : Nat} {S : List Value} : rn ca C_L_law 1326 [some (.ref x), a1, a2, a3] S M = rn ca C_L_law 1327 [some (.ref x), a1, a2, a3] (.ref x :: S) M := (rn_at k_L_law_1326).trans rfl
theorem k_L_law_1327 : lk 1327 C_L_law = some (.iload_n 3, (0, 0, 0, 0)) := by decide +kernel
theorem s_L_law_1327 {ca : Nat → List Value → tM → tO} {M : tM} {a0 a1 a2 : Option Value} {x : Int32} {S : List Value} : rn ca C_L_law 1327 [a0, a1, a2, some (.int x)] S M = rn ca C_L_law 1328 [a0, a1, a2, some (.int x)] (.int x :: S) M := (rn_at k_L_law_1327).trans rfl
theorem k_L_law_1328 : lk 1328 C_L_law = some (.iconst 1, (0, 0, 0, 0)) := by decide +kernel
theorem s_L_law_1328 {ca : Nat → List Value → tM → tO} {M : tM} {L : tL} {S : List Value} : rn ca C_L_law 1328 L S M = rn ca C_L_law 1329 L (.int (iI 1) :: S) M := (rn_at k_L_law_1328).trans rfl
theorem k_L_law_1329 : lk 1329 C_L_law = some (.iadd, (0, 0, 0, 0)) := by decide +kernel
theorem s_L_law_1329 {ca : Nat → List Value → tM → tO} {M : tM} {L : tL} {x y : Int32} {S : List Value} : rn ca C_L_law 1329 L (.int y :: .int x :: S) M = rn ca C_L_law 1330 L (.int (x + y) :: S) M := (rn_at k_L_law_1329).trans rfl
theorem k_L_law_1330 : lk 1330 C_L_law = some (.iaload, (0, 0, 0, 0)) := by decide +kernel
theorem s_L_law_1330 {ca : Nat → List Value → tM → tO} {M : tM} {L : tL} {a : Nat} {i : Int32} {S : List Value} : rn ca C_L_law 1330 L (.int i :: .ref a :: S) M = if (akind a = 0 ∨ akind a = 6 ∨ akind a = 7) ∧ inb i (alen M a) then rn ca C_L_law 1331 L (.int (M.1 a i.toInt.toNat) :: S) M else none := (rn_at k_L_law_1330).trans rnx_ite
theorem k_L_law_1331 : lk 1331 C_L_law = some (.aload_n 0, (0, 0, 0, 0)) := by decide +kernel
theorem s_L_law_1331 {ca : Nat → List Value → tM → tO} {M : tM} {a1 a2 a3 : Option Value} {x : Nat} {S : List Value} : rn ca C_L_law 1331 [some (.ref x), a1, a2, a3] S M = rn ca C_L_law 1332 [some (.ref x), a1, a2, a3] (.ref x :: S) M := (rn_at k_L_law_1331).trans rfl
theorem k_L_law_1332 : lk 1332 C_L_law = some (.iload_n 3, (0, 0, 0, 0)) := by decide +kernel
theorem s_L_law_1332 {ca : Nat → List Value → tM → tO} {M : tM} {a0 a1 a2 : Option Value} {x : Int32} {S : List Value} : rn ca C_L_law 1332 [a0, a1, a2, some (.int x)] S M = rn ca C_L_law 1333 [a0, a1, a2, some (.int x)] (.int x :: S) M := (rn_at k_L_law_1332).trans rfl
theorem k_L_law_1333 : lk 1333 C_L_law = some (.iconst 2, (0, 0, 0, 0)) := by decide +kernel
theorem s_L_law_1333 {ca : Nat → List Value → tM → tO} {M : tM} {L : tL} {S : List Value} : rn ca C_L_law 1333 L S M = rn ca C_L_law 1334 L (.int (iI 2) :: S) M := (rn_at k_L_law_1333).trans rfl
theorem k_L_law_1334 : lk 1334 C_L_law = some (.iadd, (0, 0, 0, 0)) := by decide +kernel
theorem s_L_law_1334 {ca : Nat → List Value → tM → tO} {M : tM} {L : tL} {x y : Int32} {S : List Value} : rn ca C_L_law 1334 L (.int y :: .int x :: S) M = rn ca C_L_law 1335 L (.int (x + y) :: S) M := (rn_at k_L_law_1334).trans rfl
theorem k_L_law_1335 : lk 1335 C_L_law = some (.iaload, (0, 0, 0, 0)) := by decide +kernel
theorem s_L_law_1335 {ca : Nat → List Value → tM → tO} {M : tM} {L : tL} {a : Nat} {i : Int32} {S : List Value} : rn ca C_L_law 1335 L (.int i :: .ref a :: S) M = if (akind a = 0 ∨ akind a = 6 ∨ akind a = 7) ∧ inb i (alen M a) then rn ca C_L_law 1336 L (.int (M.1 a i.toInt.toNat) :: S) M else none := (rn_at k_L_law_1335).trans rnx_ite
theorem k_L_law_1336 : lk 1336 C_L_law = some (.invokevirtual 147, (224, 2, 11, 1119)) := by decide +kernel
theorem s_L_law_1336 {ca : Nat → List Value → tM → tO} {M : tM} {L : tL} {v1 v2 : Value} {r0 : Int32} {b : Nat} : rn ca C_L_law 1336 L [v2, v1, .ref b, .int r0] M = if clsO b = some 11 then rnk ca C_L_law 1339 L [.int r0] (ca m_X11_done [.ref b, v1, v2] M) else none := (rn_at k_L_law_1336).trans rnx_ite
theorem k_L_law_1339 : lk 1339 C_L_law = some (.if_icmp .eq 225, (1564, 0, 0, 0)) := by decide +kernel
theorem s_L_law_1339 {ca : Nat → List Value → tM → tO} {M : tM} {L : tL} {x y : Int32} {S : List Value} : rn ca C_L_law 1339 L (.int y :: .int x :: S) M = if x = y then rn ca C_L_law 1564 L S M else rn ca C_L_law 1342 L S M := (rn_at k_L_law_1339).trans rnx_ite
theorem k_L_law_1342 : lk 1342 C_L_law = some (.iconst 0, (0, 0, 0, 0)) := by decide +kernel
theorem s_L_law_1342 {ca : Nat → List Value → tM → tO} {M : tM} {L : tL} {S : List Value} : rn ca C_L_law 1342 L S M = rn ca C_L_law 1343 L (.int (iI 0) :: S) M := (rn_at k_L_law_1342).trans rfl
theorem k_L_law_1343 : lk 1343 C_L_law = some (.ireturn, (1, 0, 0, 0)) := by decide +kernel
theorem s_L_law_1343 {ca : Nat → List Value → tM → tO} {M : tM} {L : tL} {x : Int32} : rn ca C_L_law 1343 L [.int x] M = if x = iI 0 ∨ x = iI 1 then some (some (.int x), M) else none := (rn_at k_L_law_1343).trans rnx_ite
theorem k_L_law_1344 : lk 1344 C_L_law = some (.aload_n 1, (0, 0, 0, 0)) := by decide +kernel
theorem s_L_law_1344 {ca : Nat → List Value → tM → tO} {M : tM} {a0 a2 a3 : Option Value} {x : Nat} {S : List Value} : rn ca C_L_law 1344 [a0, some (.ref x), a2, a3] S M = rn ca C_L_law 1345 [a0, some (.ref x), a2, a3] (.ref x :: S) M := (rn_at k_L_law_1344).trans rfl
theorem k_L_law_1345 : lk 1345 C_L_law = some (.aload_n 0, (0, 0, 0, 0)) := by decide +kernel
theorem s_L_law_1345 {ca : Nat → List Value → tM → tO} {M : tM} {a1 a2 a3 : Option Value} {x : Nat} {S : List Value} : rn ca C_L_law 1345 [some (.ref x), a1, a2, a3] S M = rn ca C_L_law 1346 [some (.ref x), a1, a2, a3] (.ref x :: S) M := (rn_at k_L_law_1345).trans rfl
theorem k_L_law_1346 : lk 1346 C_L_law = some (.iload_n 3, (0, 0, 0, 0)) := by decide +kernel
theorem s_L_law_1346 {ca : Nat → List Value → tM → tO} {M : tM} {a0 a1 a2 : Option Value} {x : Int32} {S : List Value} : rn ca C_L_law 1346 [a0, a1, a2, some (.int x)] S M = rn ca C_L_law 1347 [a0, a1, a2, some (.int x)] (.int x :: S) M := (rn_at k_L_law_1346).trans rfl
theorem k_L_law_1347 : lk 1347 C_L_law = some (.iconst 1, (0, 0, 0, 0)) := by decide +kernel
theorem s_L_law_1347 {ca : Nat → List Value → tM → tO} {M : tM} {L : tL} {S : List Value} : rn ca C_L_law 1347 L S M = rn ca C_L_law 1348 L (.int (iI 1) :: S) M := (rn_at k_L_law_1347).trans rfl
theorem k_L_law_1348 : lk 1348 C_L_law = some (.iadd, (0, 0, 0, 0)) := by decide +kernel
theorem s_L_law_1348 {ca : Nat → List Value → tM → tO} {M : tM} {L : tL} {x y : Int32} {S : List Value} : rn ca C_L_law 1348 L (.int y :: .int x :: S) M = rn ca C_L_law 1349 L (.int (x + y) :: S) M := (rn_at k_L_law_1348).trans rfl
theorem k_L_law_1349 : lk 1349 C_L_law = some (.iaload, (0, 0, 0, 0)) := by decide +kernel
theorem s_L_law_1349 {ca : Nat → List Value → tM → tO} {M : tM} {L : tL} {a : Nat} {i : Int32} {S : List Value} : rn ca C_L_law 1349 L (.int i :: .ref a :: S) M = if (akind a = 0 ∨ akind a = 6 ∨ akind a = 7) ∧ inb i (alen M a) then rn ca C_L_law 1350 L (.int (M.1 a i.toInt.toNat) :: S) M else none := (rn_at k_L_law_1349).trans rnx_ite
theorem k_L_law_1350 : lk 1350 C_L_law = some (.aload_n 0, (0, 0, 0, 0)) := by decide +kernel
theorem s_L_law_1350 {ca : Nat → List Value → tM → tO} {M : tM} {a1 a2 a3 : Option Value} {x : Nat} {S : List Value} : rn ca C_L_law 1350 [some (.ref x), a1, a2, a3] S M = rn ca C_L_law 1351 [some (.ref x), a1, a2, a3] (.ref x :: S) M := (rn_at k_L_law_1350).trans rfl
theorem k_L_law_1351 : lk 1351 C_L_law = some (.iload_n 3, (0, 0, 0, 0)) := by decide +kernel
theorem s_L_law_1351 {ca : Nat → List Value → tM → tO} {M : tM} {a0 a1 a2 : Option Value} {x : Int32} {S : List Value} : rn ca C_L_law 1351 [a0, a1, a2, some (.int x)] S M = rn ca C_L_law 1352 [a0, a1, a2, some (.int x)] (.int x :: S) M := (rn_at k_L_law_1351).trans rfl
theorem k_L_law_1352 : lk 1352 C_L_law = some (.iconst 2, (0, 0, 0, 0)) := by decide +kernel
theorem s_L_law_1352 {ca : Nat → List Value → tM → tO} {M : tM} {L : tL} {S : List Value} : rn ca C_L_law 1352 L S M = rn ca C_L_law 1353 L (.int (iI 2) :: S) M := (rn_at k_L_law_1352).trans rfl
theorem k_L_law_1353 : lk 1353 C_L_law = some (.iadd, (0, 0, 0, 0)) := by decide +kernel
theorem s_L_law_1353 {ca : Nat → List Value → tM → tO} {M : tM} {L : tL} {x y : Int32} {S : List Value} : rn ca C_L_law 1353 L (.int y :: .int x :: S) M = rn ca C_L_law 1354 L (.int (x + y) :: S) M := (rn_at k_L_law_1353).trans rfl
theorem k_L_law_1354 : lk 1354 C_L_law = some (.iaload, (0, 0, 0, 0)) := by decide +kernel
theorem s_L_law_1354 {ca : Nat → List Value → tM → tO} {M : tM} {L : tL} {a : Nat} {i : Int32} {S : List Value} : rn ca C_L_law 1354 L (.int i :: .ref a :: S) M = if (akind a = 0 ∨ akind a = 6 ∨ akind a = 7) ∧ inb i (alen M a) then rn ca C_L_law 1355 L (.int (M.1 a i.toInt.toNat) :: S) M else none := (rn_at k_L_law_1354).trans rnx_ite
theorem k_L_law_1355 : lk 1355 C_L_law = some (.aload_n 0, (0, 0, 0, 0)) := by decide +kernel
theorem s_L_law_1355 {ca : Nat → List Value → tM → tO} {M : tM} {a1 a2 a3 : Option Value} {x : Nat} {S : List Value} : rn ca C_L_law 1355 [some (.ref x), a1, a2, a3] S M = rn ca C_L_law 1356 [some (.ref x), a1, a2, a3] (.ref x :: S) M := (rn_at k_L_law_1355).trans rfl
theorem k_L_law_1356 : lk 1356 C_L_law = some (.iload_n 3, (0, 0, 0, 0)) := by decide +kernel
theorem s_L_law_1356 {ca : Nat → List Value → tM → tO} {M : tM} {a0 a1 a2 : Option Value} {x : Int32} {S : List Value} : rn ca C_L_law 1356 [a0, a1, a2, some (.int x)] S M = rn ca C_L_law 1357 [a0, a1, a2, some (.int x)] (.int x :: S) M := (rn_at k_L_law_1356).trans rfl
theorem k_L_law_1357 : lk 1357 C_L_law = some (.iconst 3, (0, 0, 0, 0)) := by decide +kernel
theorem s_L_law_1357 {ca : Nat → List Value → tM → tO} {M : tM} {L : tL} {S : List Value} : rn ca C_L_law 1357 L S M = rn ca C_L_law 1358 L (.int (iI 3) :: S) M := (rn_at k_L_law_1357).trans rfl
theorem k_L_law_1358 : lk 1358 C_L_law = some (.iadd, (0, 0, 0, 0)) := by decide +kernel
theorem s_L_law_1358 {ca : Nat → List Value → tM → tO} {M : tM} {L : tL} {x y : Int32} {S : List Value} : rn ca C_L_law 1358 L (.int y :: .int x :: S) M = rn ca C_L_law 1359 L (.int (x + y) :: S) M := (rn_at k_L_law_1358).trans rfl
theorem k_L_law_1359 : lk 1359 C_L_law = some (.iaload, (0, 0, 0, 0)) := by decide +kernel
theorem s_L_law_1359 {ca : Nat → List Value → tM → tO} {M : tM} {L : tL} {a : Nat} {i : Int32} {S : List Value} : rn ca C_L_law 1359 L (.int i :: .ref a :: S) M = if (akind a = 0 ∨ akind a = 6 ∨ akind a = 7) ∧ inb i (alen M a) then rn ca C_L_law 1360 L (.int (M.1 a i.toInt.toNat) :: S) M else none := (rn_at k_L_law_1359).trans rnx_ite
theorem k_L_law_1360 : lk 1360 C_L_law = some (.ifCond .eq 7, (1367, 0, 0, 0)) := by decide +kernel
theorem s_L_law_1360 {ca : Nat → List Value → tM → tO} {M : tM} {L : tL} {x : Int32} {S : List Value} : rn ca C_L_law 1360 L (.int x :: S) M = if x = iI 0 then rn ca C_L_law 1367 L S M else rn ca C_L_law 1363 L S M := (rn_at k_L_law_1360).trans rnx_ite
theorem k_L_law_1363 : lk 1363 C_L_law = some (.iconst 1, (0, 0, 0, 0)) := by decide +kernel
theorem s_L_law_1363 {ca : Nat → List Value → tM → tO} {M : tM} {L : tL} {S : List Value} : rn ca C_L_law 1363 L S M = rn ca C_L_law 1364 L (.int (iI 1) :: S) M := (rn_at k_L_law_1363).trans rfl
theorem k_L_law_1364 : lk 1364 C_L_law = some (.goto 4, (1368, 0, 0, 0)) := by decide +kernel
theorem s_L_law_1364 {ca : Nat → List Value → tM → tO} {M : tM} {L : tL} {S : List Value} : rn ca C_L_law 1364 L S M = rn ca C_L_law 1368 L S M := (rn_at k_L_law_1364).trans rfl
theorem k_L_law_1367 : lk 1367 C_L_law = some (.iconst 0, (0, 0, 0, 0)) := by decide +kernel
theorem s_L_law_1367 {ca : Nat → List Value → tM → tO} {M : tM} {L : tL} {S : List Value} : rn ca C_L_law 1367 L S M = rn ca C_L_law 1368 L (.int (iI 0) :: S) M := (rn_at k_L_law_1367).trans rfl
theorem k_L_law_1368 : lk 1368 C_L_law = some (.invokevirtual 148, (126, 3, 10, 1123)) := by decide +kernel
theorem s_L_law_1368 {ca : Nat → List Value → tM → tO} {M : tM} {L : tL} {v1 v2 v3 : Value} {b : Nat} : rn ca C_L_law 1368 L [v3, v2, v1, .ref b] M = if clsO b = some 10 then rnk ca C_L_law 1371 L [] (ca m_X10_send [.ref b, v1, v2, v3] M) else none := (rn_at k_L_law_1368).trans rnx_ite
theorem k_L_law_1371 : lk 1371 C_L_law = some (.aload_n 2, (0, 0, 0, 0)) := by decide +kernel
theorem s_L_law_1371 {ca : Nat → List Value → tM → tO} {M : tM} {a0 a1 a3 : Option Value} {x : Nat} {S : List Value} : rn ca C_L_law 1371 [a0, a1, some (.ref x), a3] S M = rn ca C_L_law 1372 [a0, a1, some (.ref x), a3] (.ref x :: S) M := (rn_at k_L_law_1371).trans rfl
theorem k_L_law_1372 : lk 1372 C_L_law = some (.aload_n 0, (0, 0, 0, 0)) := by decide +kernel
theorem s_L_law_1372 {ca : Nat → List Value → tM → tO} {M : tM} {a1 a2 a3 : Option Value} {x : Nat} {S : List Value} : rn ca C_L_law 1372 [some (.ref x), a1, a2, a3] S M = rn ca C_L_law 1373 [some (.ref x), a1, a2, a3] (.ref x :: S) M := (rn_at k_L_law_1372).trans rfl
theorem k_L_law_1373 : lk 1373 C_L_law = some (.iload_n 3, (0, 0, 0, 0)) := by decide +kernel
theorem s_L_law_1373 {ca : Nat → List Value → tM → tO} {M : tM} {a0 a1 a2 : Option Value} {x : Int32} {S : List Value} : rn ca C_L_law 1373 [a0, a1, a2, some (.int x)] S M = rn ca C_L_law 1374 [a0, a1, a2, some (.int x)] (.int x :: S) M := (rn_at k_L_law_1373).trans rfl
theorem k_L_law_1374 : lk 1374 C_L_law = some (.iconst 1, (0, 0, 0, 0)) := by decide +kernel
theorem s_L_law_1374 {ca : Nat → List Value → tM → tO} {M : tM} {L : tL} {S : List Value} : rn ca C_L_law 1374 L S M = rn ca C_L_law 1375 L (.int (iI 1) :: S) M := (rn_at k_L_law_1374).trans rfl
theorem k_L_law_1375 : lk 1375 C_L_law = some (.iadd, (0, 0, 0, 0)) := by decide +kernel
theorem s_L_law_1375 {ca : Nat → List Value → tM → tO} {M : tM} {L : tL} {x y : Int32} {S : List Value} : rn ca C_L_law 1375 L (.int y :: .int x :: S) M = rn ca C_L_law 1376 L (.int (x + y) :: S) M := (rn_at k_L_law_1375).trans rfl
theorem k_L_law_1376 : lk 1376 C_L_law = some (.iaload, (0, 0, 0, 0)) := by decide +kernel
theorem s_L_law_1376 {ca : Nat → List Value → tM → tO} {M : tM} {L : tL} {a : Nat} {i : Int32} {S : List Value} : rn ca C_L_law 1376 L (.int i :: .ref a :: S) M = if (akind a = 0 ∨ akind a = 6 ∨ akind a = 7) ∧ inb i (alen M a) then rn ca C_L_law 1377 L (.int (M.1 a i.toInt.toNat) :: S) M else none := (rn_at k_L_law_1376).trans rnx_ite
theorem k_L_law_1377 : lk 1377 C_L_law = some (.aload_n 0, (0, 0, 0, 0)) := by decide +kernel
theorem s_L_law_1377 {ca : Nat → List Value → tM → tO} {M : tM} {a1 a2 a3 : Option Value} {x : Nat} {S : List Value} : rn ca C_L_law 1377 [some (.ref x), a1, a2, a3] S M = rn ca C_L_law 1378 [some (.ref x), a1, a2, a3] (.ref x :: S) M := (rn_at k_L_law_1377).trans rfl
theorem k_L_law_1378 : lk 1378 C_L_law = some (.iload_n 3, (0, 0, 0, 0)) := by decide +kernel
theorem s_L_law_1378 {ca : Nat → List Value → tM → tO} {M : tM} {a0 a1 a2 : Option Value} {x : Int32} {S : List Value} : rn ca C_L_law 1378 [a0, a1, a2, some (.int x)] S M = rn ca C_L_law 1379 [a0, a1, a2, some (.int x)] (.int x :: S) M := (rn_at k_L_law_1378).trans rfl
theorem k_L_law_1379 : lk 1379 C_L_law = some (.iconst 2, (0, 0, 0, 0)) := by decide +kernel
theorem s_L_law_1379 {ca : Nat → List Value → tM → tO} {M : tM} {L : tL} {S : List Value} : rn ca C_L_law 1379 L S M = rn ca C_L_law 1380 L (.int (iI 2) :: S) M := (rn_at k_L_law_1379).trans rfl
theorem k_L_law_1380 : lk 1380 C_L_law = some (.iadd, (0, 0, 0, 0)) := by decide +kernel
theorem s_L_law_1380 {ca : Nat → List Value → tM → tO} {M : tM} {L : tL} {x y : Int32} {S : List Value} : rn ca C_L_law 1380 L (.int y :: .int x :: S) M = rn ca C_L_law 1381 L (.int (x + y) :: S) M := (rn_at k_L_law_1380).trans rfl
theorem k_L_law_1381 : lk 1381 C_L_law = some (.iaload, (0, 0, 0, 0)) := by decide +kernel
theorem s_L_law_1381 {ca : Nat → List Value → tM → tO} {M : tM} {L : tL} {a : Nat} {i : Int32} {S : List Value} : rn ca C_L_law 1381 L (.int i :: .ref a :: S) M = if (akind a = 0 ∨ akind a = 6 ∨ akind a = 7) ∧ inb i (alen M a) then rn ca C_L_law 1382 L (.int (M.1 a i.toInt.toNat) :: S) M else none := (rn_at k_L_law_1381).trans rnx_ite
theorem k_L_law_1382 : lk 1382 C_L_law = some (.aload_n 0, (0, 0, 0, 0)) := by decide +kernel
theorem s_L_law_1382 {ca : Nat → List Value → tM → tO} {M : tM} {a1 a2 a3 : Option Value} {x : Nat} {S : List Value} : rn ca C_L_law 1382 [some (.ref x), a1, a2, a3] S M = rn ca C_L_law 1383 [some (.ref x), a1, a2, a3] (.ref x :: S) M := (rn_at k_L_law_1382).trans rfl
theorem k_L_law_1383 : lk 1383 C_L_law = some (.iload_n 3, (0, 0, 0, 0)) := by decide +kernel
theorem s_L_law_1383 {ca : Nat → List Value → tM → tO} {M : tM} {a0 a1 a2 : Option Value} {x : Int32} {S : List Value} : rn ca C_L_law 1383 [a0, a1, a2, some (.int x)] S M = rn ca C_L_law 1384 [a0, a1, a2, some (.int x)] (.int x :: S) M := (rn_at k_L_law_1383).trans rfl
theorem k_L_law_1384 : lk 1384 C_L_law = some (.iconst 3, (0, 0, 0, 0)) := by decide +kernel
theorem s_L_law_1384 {ca : Nat → List Value → tM → tO} {M : tM} {L : tL} {S : List Value} : rn ca C_L_law 1384 L S M = rn ca C_L_law 1385 L (.int (iI 3) :: S) M := (rn_at k_L_law_1384).trans rfl
theorem k_L_law_1385 : lk 1385 C_L_law = some (.iadd, (0, 0, 0, 0)) := by decide +kernel
theorem s_L_law_1385 {ca : Nat → List Value → tM → tO} {M : tM} {L : tL} {x y : Int32} {S : List Value} : rn ca C_L_law 1385 L (.int y :: .int x :: S) M = rn ca C_L_law 1386 L (.int (x + y) :: S) M := (rn_at k_L_law_1385).trans rfl
theorem k_L_law_1386 : lk 1386 C_L_law = some (.iaload, (0, 0, 0, 0)) := by decide +kernel
theorem s_L_law_1386 {ca : Nat → List Value → tM → tO} {M : tM} {L : tL} {a : Nat} {i : Int32} {S : List Value} : rn ca C_L_law 1386 L (.int i :: .ref a :: S) M = if (akind a = 0 ∨ akind a = 6 ∨ akind a = 7) ∧ inb i (alen M a) then rn ca C_L_law 1387 L (.int (M.1 a i.toInt.toNat) :: S) M else none := (rn_at k_L_law_1386).trans rnx_ite
theorem k_L_law_1387 : lk 1387 C_L_law = some (.ifCond .eq 7, (1394, 0, 0, 0)) := by decide +kernel
theorem s_L_law_1387 {ca : Nat → List Value → tM → tO} {M : tM} {L : tL} {x : Int32} {S : List Value} : rn ca C_L_law 1387 L (.int x :: S) M = if x = iI 0 then rn ca C_L_law 1394 L S M else rn ca C_L_law 1390 L S M := (rn_at k_L_law_1387).trans rnx_ite
theorem k_L_law_1390 : lk 1390 C_L_law = some (.iconst 1, (0, 0, 0, 0)) := by decide +kernel
theorem s_L_law_1390 {ca : Nat → List Value → tM → tO} {M : tM} {L : tL} {S : List Value} : rn ca C_L_law 1390 L S M = rn ca C_L_law 1391 L (.int (iI 1) :: S) M := (rn_at k_L_law_1390).trans rfl
theorem k_L_law_1391 : lk 1391 C_L_law = some (.goto 4, (1395, 0, 0, 0)) := by decide +kernel
theorem s_L_law_1391 {ca : Nat → List Value → tM → tO} {M : tM} {L : tL} {S : List Value} : rn ca C_L_law 1391 L S M = rn ca C_L_law 1395 L S M := (rn_at k_L_law_1391).trans rfl
theorem k_L_law_1394 : lk 1394 C_L_law = some (.iconst 0, (0, 0, 0, 0)) := by decide +kernel
theorem s_L_law_1394 {ca : Nat → List Value → tM → tO} {M : tM} {L : tL} {S : List Value} : rn ca C_L_law 1394 L S M = rn ca C_L_law 1395 L (.int (iI 0) :: S) M := (rn_at k_L_law_1394).trans rfl
theorem k_L_law_1395 : lk 1395 C_L_law = some (.invokevirtual 152, (225, 3, 11, 1128)) := by decide +kernel
theorem s_L_law_1395 {ca : Nat → List Value → tM → tO} {M : tM} {L : tL} {v1 v2 v3 : Value} {r0 : Int32} {b : Nat} : rn ca C_L_law 1395 L [v3, v2, v1, .ref b, .int r0] M = if clsO b = some 11 then rnk ca C_L_law 1398 L [.int r0] (ca m_X11_send [.ref b, v1, v2, v3] M) else none := (rn_at k_L_law_1395).trans rnx_ite
theorem k_L_law_1398 : lk 1398 C_L_law = some (.if_icmp .eq 166, (1564, 0, 0, 0)) := by decide +kernel
theorem s_L_law_1398 {ca : Nat → List Value → tM → tO} {M : tM} {L : tL} {x y : Int32} {S : List Value} : rn ca C_L_law 1398 L (.int y :: .int x :: S) M = if x = y then rn ca C_L_law 1564 L S M else rn ca C_L_law 1401 L S M := (rn_at k_L_law_1398).trans rnx_ite
theorem k_L_law_1401 : lk 1401 C_L_law = some (.iconst 0, (0, 0, 0, 0)) := by decide +kernel
theorem s_L_law_1401 {ca : Nat → List Value → tM → tO} {M : tM} {L : tL} {S : List Value} : rn ca C_L_law 1401 L S M = rn ca C_L_law 1402 L (.int (iI 0) :: S) M := (rn_at k_L_law_1401).trans rfl
theorem k_L_law_1402 : lk 1402 C_L_law = some (.ireturn, (1, 0, 0, 0)) := by decide +kernel
theorem s_L_law_1402 {ca : Nat → List Value → tM → tO} {M : tM} {L : tL} {x : Int32} : rn ca C_L_law 1402 L [.int x] M = if x = iI 0 ∨ x = iI 1 then some (some (.int x), M) else none := (rn_at k_L_law_1402).trans rnx_ite
theorem k_L_law_1403 : lk 1403 C_L_law = some (.aload_n 1, (0, 0, 0, 0)) := by decide +kernel
theorem s_L_law_1403 {ca : Nat → List Value → tM → tO} {M : tM} {a0 a2 a3 : Option Value} {x : Nat} {S : List Value} : rn ca C_L_law 1403 [a0, some (.ref x), a2, a3] S M = rn ca C_L_law 1404 [a0, some (.ref x), a2, a3] (.ref x :: S) M := (rn_at k_L_law_1403).trans rfl
theorem k_L_law_1404 : lk 1404 C_L_law = some (.aload_n 0, (0, 0, 0, 0)) := by decide +kernel
theorem s_L_law_1404 {ca : Nat → List Value → tM → tO} {M : tM} {a1 a2 a3 : Option Value} {x : Nat} {S : List Value} : rn ca C_L_law 1404 [some (.ref x), a1, a2, a3] S M = rn ca C_L_law 1405 [some (.ref x), a1, a2, a3] (.ref x :: S) M := (rn_at k_L_law_1404).trans rfl
theorem k_L_law_1405 : lk 1405 C_L_law = some (.iload_n 3, (0, 0, 0, 0)) := by decide +kernel
theorem s_L_law_1405 {ca : Nat → List Value → tM → tO} {M : tM} {a0 a1 a2 : Option Value} {x : Int32} {S : List Value} : rn ca C_L_law 1405 [a0, a1, a2, some (.int x)] S M = rn ca C_L_law 1406 [a0, a1, a2, some (.int x)] (.int x :: S) M := (rn_at k_L_law_1405).trans rfl
theorem k_L_law_1406 : lk 1406 C_L_law = some (.iconst 1, (0, 0, 0, 0)) := by decide +kernel
theorem s_L_law_1406 {ca : Nat → List Value → tM → tO} {M : tM} {L : tL} {S : List Value} : rn ca C_L_law 1406 L S M = rn ca C_L_law 1407 L (.int (iI 1) :: S) M := (rn_at k_L_law_1406).trans rfl
theorem k_L_law_1407 : lk 1407 C_L_law = some (.iadd, (0, 0, 0, 0)) := by decide +kernel
theorem s_L_law_1407 {ca : Nat → List Value → tM → tO} {M : tM} {L : tL} {x y : Int32} {S : List Value} : rn ca C_L_law 1407 L (.int y :: .int x :: S) M = rn ca C_L_law 1408 L (.int (x + y) :: S) M := (rn_at k_L_law_1407).trans rfl
theorem k_L_law_1408 : lk 1408 C_L_law = some (.iaload, (0, 0, 0, 0)) := by decide +kernel
theorem s_L_law_1408 {ca : Nat → List Value → tM → tO} {M : tM} {L : tL} {a : Nat} {i : Int32} {S : List Value} : rn ca C_L_law 1408 L (.int i :: .ref a :: S) M = if (akind a = 0 ∨ akind a = 6 ∨ akind a = 7) ∧ inb i (alen M a) then rn ca C_L_law 1409 L (.int (M.1 a i.toInt.toNat) :: S) M else none := (rn_at k_L_law_1408).trans rnx_ite
theorem k_L_law_1409 : lk 1409 C_L_law = some (.invokevirtual 153, (127, 1, 10, 1132)) := by decide +kernel
theorem s_L_law_1409 {ca : Nat → List Value → tM → tO} {M : tM} {L : tL} {v1 : Value} {b : Nat} : rn ca C_L_law 1409 L [v1, .ref b] M = if clsO b = some 10 then rnk ca C_L_law 1412 L [] (ca m_X10_months [.ref b, v1] M) else none := (rn_at k_L_law_1409).trans rnx_ite
theorem k_L_law_1412 : lk 1412 C_L_law = some (.aload_n 2, (0, 0, 0, 0)) := by decide +kernel
theorem s_L_law_1412 {ca : Nat → List Value → tM → tO} {M : tM} {a0 a1 a3 : Option Value} {x : Nat} {S : List Value} : rn ca C_L_law 1412 [a0, a1, some (.ref x), a3] S M = rn ca C_L_law 1413 [a0, a1, some (.ref x), a3] (.ref x :: S) M := (rn_at k_L_law_1412).trans rfl
theorem k_L_law_1413 : lk 1413 C_L_law = some (.aload_n 0, (0, 0, 0, 0)) := by decide +kernel
theorem s_L_law_1413 {ca : Nat → List Value → tM → tO} {M : tM} {a1 a2 a3 : Option Value} {x : Nat} {S : List Value} : rn ca C_L_law 1413 [some (.ref x), a1, a2, a3] S M = rn ca C_L_law 1414 [some (.ref x), a1, a2, a3] (.ref x :: S) M := (rn_at k_L_law_1413).trans rfl
theorem k_L_law_1414 : lk 1414 C_L_law = some (.iload_n 3, (0, 0, 0, 0)) := by decide +kernel
theorem s_L_law_1414 {ca : Nat → List Value → tM → tO} {M : tM} {a0 a1 a2 : Option Value} {x : Int32} {S : List Value} : rn ca C_L_law 1414 [a0, a1, a2, some (.int x)] S M = rn ca C_L_law 1415 [a0, a1, a2, some (.int x)] (.int x :: S) M := (rn_at k_L_law_1414).trans rfl
theorem k_L_law_1415 : lk 1415 C_L_law = some (.iconst 1, (0, 0, 0, 0)) := by decide +kernel
theorem s_L_law_1415 {ca : Nat → List Value → tM → tO} {M : tM} {L : tL} {S : List Value} : rn ca C_L_law 1415 L S M = rn ca C_L_law 1416 L (.int (iI 1) :: S) M := (rn_at k_L_law_1415).trans rfl
theorem k_L_law_1416 : lk 1416 C_L_law = some (.iadd, (0, 0, 0, 0)) := by decide +kernel
theorem s_L_law_1416 {ca : Nat → List Value → tM → tO} {M : tM} {L : tL} {x y : Int32} {S : List Value} : rn ca C_L_law 1416 L (.int y :: .int x :: S) M = rn ca C_L_law 1417 L (.int (x + y) :: S) M := (rn_at k_L_law_1416).trans rfl
theorem k_L_law_1417 : lk 1417 C_L_law = some (.iaload, (0, 0, 0, 0)) := by decide +kernel
theorem s_L_law_1417 {ca : Nat → List Value → tM → tO} {M : tM} {L : tL} {a : Nat} {i : Int32} {S : List Value} : rn ca C_L_law 1417 L (.int i :: .ref a :: S) M = if (akind a = 0 ∨ akind a = 6 ∨ akind a = 7) ∧ inb i (alen M a) then rn ca C_L_law 1418 L (.int (M.1 a i.toInt.toNat) :: S) M else none := (rn_at k_L_law_1417).trans rnx_ite
theorem k_L_law_1418 : lk 1418 C_L_law = some (.invokevirtual 156, (227, 1, 11, 1145)) := by decide +kernel
theorem s_L_law_1418 {ca : Nat → List Value → tM → tO} {M : tM} {L : tL} {v1 : Value} {r0 : Int32} {b : Nat} : rn ca C_L_law 1418 L [v1, .ref b, .int r0] M = if clsO b = some 11 then rnk ca C_L_law 1421 L [.int r0] (ca m_X11_months [.ref b, v1] M) else none := (rn_at k_L_law_1418).trans rnx_ite
theorem k_L_law_1421 : lk 1421 C_L_law = some (.if_icmp .eq 143, (1564, 0, 0, 0)) := by decide +kernel
theorem s_L_law_1421 {ca : Nat → List Value → tM → tO} {M : tM} {L : tL} {x y : Int32} {S : List Value} : rn ca C_L_law 1421 L (.int y :: .int x :: S) M = if x = y then rn ca C_L_law 1564 L S M else rn ca C_L_law 1424 L S M := (rn_at k_L_law_1421).trans rnx_ite
theorem k_L_law_1424 : lk 1424 C_L_law = some (.iconst 0, (0, 0, 0, 0)) := by decide +kernel
theorem s_L_law_1424 {ca : Nat → List Value → tM → tO} {M : tM} {L : tL} {S : List Value} : rn ca C_L_law 1424 L S M = rn ca C_L_law 1425 L (.int (iI 0) :: S) M := (rn_at k_L_law_1424).trans rfl
theorem k_L_law_1425 : lk 1425 C_L_law = some (.ireturn, (1, 0, 0, 0)) := by decide +kernel
theorem s_L_law_1425 {ca : Nat → List Value → tM → tO} {M : tM} {L : tL} {x : Int32} : rn ca C_L_law 1425 L [.int x] M = if x = iI 0 ∨ x = iI 1 then some (some (.int x), M) else none := (rn_at k_L_law_1425).trans rnx_ite
theorem k_L_law_1426 : lk 1426 C_L_law = some (.aload_n 1, (0, 0, 0, 0)) := by decide +kernel
theorem s_L_law_1426 {ca : Nat → List Value → tM → tO} {M : tM} {a0 a2 a3 : Option Value} {x : Nat} {S : List Value} : rn ca C_L_law 1426 [a0, some (.ref x), a2, a3] S M = rn ca C_L_law 1427 [a0, some (.ref x), a2, a3] (.ref x :: S) M := (rn_at k_L_law_1426).trans rfl
theorem k_L_law_1427 : lk 1427 C_L_law = some (.aload_n 0, (0, 0, 0, 0)) := by decide +kernel
theorem s_L_law_1427 {ca : Nat → List Value → tM → tO} {M : tM} {a1 a2 a3 : Option Value} {x : Nat} {S : List Value} : rn ca C_L_law 1427 [some (.ref x), a1, a2, a3] S M = rn ca C_L_law 1428 [some (.ref x), a1, a2, a3] (.ref x :: S) M := (rn_at k_L_law_1427).trans rfl
theorem k_L_law_1428 : lk 1428 C_L_law = some (.iload_n 3, (0, 0, 0, 0)) := by decide +kernel
theorem s_L_law_1428 {ca : Nat → List Value → tM → tO} {M : tM} {a0 a1 a2 : Option Value} {x : Int32} {S : List Value} : rn ca C_L_law 1428 [a0, a1, a2, some (.int x)] S M = rn ca C_L_law 1429 [a0, a1, a2, some (.int x)] (.int x :: S) M := (rn_at k_L_law_1428).trans rfl
theorem k_L_law_1429 : lk 1429 C_L_law = some (.iconst 1, (0, 0, 0, 0)) := by decide +kernel
theorem s_L_law_1429 {ca : Nat → List Value → tM → tO} {M : tM} {L : tL} {S : List Value} : rn ca C_L_law 1429 L S M = rn ca C_L_law 1430 L (.int (iI 1) :: S) M := (rn_at k_L_law_1429).trans rfl
theorem k_L_law_1430 : lk 1430 C_L_law = some (.iadd, (0, 0, 0, 0)) := by decide +kernel
theorem s_L_law_1430 {ca : Nat → List Value → tM → tO} {M : tM} {L : tL} {x y : Int32} {S : List Value} : rn ca C_L_law 1430 L (.int y :: .int x :: S) M = rn ca C_L_law 1431 L (.int (x + y) :: S) M := (rn_at k_L_law_1430).trans rfl
theorem k_L_law_1431 : lk 1431 C_L_law = some (.iaload, (0, 0, 0, 0)) := by decide +kernel
theorem s_L_law_1431 {ca : Nat → List Value → tM → tO} {M : tM} {L : tL} {a : Nat} {i : Int32} {S : List Value} : rn ca C_L_law 1431 L (.int i :: .ref a :: S) M = if (akind a = 0 ∨ akind a = 6 ∨ akind a = 7) ∧ inb i (alen M a) then rn ca C_L_law 1432 L (.int (M.1 a i.toInt.toNat) :: S) M else none := (rn_at k_L_law_1431).trans rnx_ite
theorem k_L_law_1432 : lk 1432 C_L_law = some (.invokevirtual 157, (128, 1, 10, 1154)) := by decide +kernel
theorem s_L_law_1432 {ca : Nat → List Value → tM → tO} {M : tM} {L : tL} {v1 : Value} {b : Nat} : rn ca C_L_law 1432 L [v1, .ref b] M = if clsO b = some 10 then rnk ca C_L_law 1435 L [] (ca m_X10_seed [.ref b, v1] M) else none := (rn_at k_L_law_1432).trans rnx_ite
theorem k_L_law_1435 : lk 1435 C_L_law = some (.aload_n 2, (0, 0, 0, 0)) := by decide +kernel
theorem s_L_law_1435 {ca : Nat → List Value → tM → tO} {M : tM} {a0 a1 a3 : Option Value} {x : Nat} {S : List Value} : rn ca C_L_law 1435 [a0, a1, some (.ref x), a3] S M = rn ca C_L_law 1436 [a0, a1, some (.ref x), a3] (.ref x :: S) M := (rn_at k_L_law_1435).trans rfl
theorem k_L_law_1436 : lk 1436 C_L_law = some (.aload_n 0, (0, 0, 0, 0)) := by decide +kernel
theorem s_L_law_1436 {ca : Nat → List Value → tM → tO} {M : tM} {a1 a2 a3 : Option Value} {x : Nat} {S : List Value} : rn ca C_L_law 1436 [some (.ref x), a1, a2, a3] S M = rn ca C_L_law 1437 [some (.ref x), a1, a2, a3] (.ref x :: S) M := (rn_at k_L_law_1436).trans rfl
theorem k_L_law_1437 : lk 1437 C_L_law = some (.iload_n 3, (0, 0, 0, 0)) := by decide +kernel
theorem s_L_law_1437 {ca : Nat → List Value → tM → tO} {M : tM} {a0 a1 a2 : Option Value} {x : Int32} {S : List Value} : rn ca C_L_law 1437 [a0, a1, a2, some (.int x)] S M = rn ca C_L_law 1438 [a0, a1, a2, some (.int x)] (.int x :: S) M := (rn_at k_L_law_1437).trans rfl
theorem k_L_law_1438 : lk 1438 C_L_law = some (.iconst 1, (0, 0, 0, 0)) := by decide +kernel
theorem s_L_law_1438 {ca : Nat → List Value → tM → tO} {M : tM} {L : tL} {S : List Value} : rn ca C_L_law 1438 L S M = rn ca C_L_law 1439 L (.int (iI 1) :: S) M := (rn_at k_L_law_1438).trans rfl
theorem k_L_law_1439 : lk 1439 C_L_law = some (.iadd, (0, 0, 0, 0)) := by decide +kernel
theorem s_L_law_1439 {ca : Nat → List Value → tM → tO} {M : tM} {L : tL} {x y : Int32} {S : List Value} : rn ca C_L_law 1439 L (.int y :: .int x :: S) M = rn ca C_L_law 1440 L (.int (x + y) :: S) M := (rn_at k_L_law_1439).trans rfl
theorem k_L_law_1440 : lk 1440 C_L_law = some (.iaload, (0, 0, 0, 0)) := by decide +kernel
theorem s_L_law_1440 {ca : Nat → List Value → tM → tO} {M : tM} {L : tL} {a : Nat} {i : Int32} {S : List Value} : rn ca C_L_law 1440 L (.int i :: .ref a :: S) M = if (akind a = 0 ∨ akind a = 6 ∨ akind a = 7) ∧ inb i (alen M a) then rn ca C_L_law 1441 L (.int (M.1 a i.toInt.toNat) :: S) M else none := (rn_at k_L_law_1440).trans rnx_ite
theorem k_L_law_1441 : lk 1441 C_L_law = some (.invokevirtual 160, (228, 1, 11, 1158)) := by decide +kernel
theorem s_L_law_1441 {ca : Nat → List Value → tM → tO} {M : tM} {L : tL} {v1 : Value} {r0 : Int32} {b : Nat} : rn ca C_L_law 1441 L [v1, .ref b, .int r0] M = if clsO b = some 11 then rnk ca C_L_law 1444 L [.int r0] (ca m_X11_seed [.ref b, v1] M) else none := (rn_at k_L_law_1441).trans rnx_ite
theorem k_L_law_1444 : lk 1444 C_L_law = some (.if_icmp .eq 120, (1564, 0, 0, 0)) := by decide +kernel
theorem s_L_law_1444 {ca : Nat → List Value → tM → tO} {M : tM} {L : tL} {x y : Int32} {S : List Value} : rn ca C_L_law 1444 L (.int y :: .int x :: S) M = if x = y then rn ca C_L_law 1564 L S M else rn ca C_L_law 1447 L S M := (rn_at k_L_law_1444).trans rnx_ite
theorem k_L_law_1447 : lk 1447 C_L_law = some (.iconst 0, (0, 0, 0, 0)) := by decide +kernel
theorem s_L_law_1447 {ca : Nat → List Value → tM → tO} {M : tM} {L : tL} {S : List Value} : rn ca C_L_law 1447 L S M = rn ca C_L_law 1448 L (.int (iI 0) :: S) M := (rn_at k_L_law_1447).trans rfl
theorem k_L_law_1448 : lk 1448 C_L_law = some (.ireturn, (1, 0, 0, 0)) := by decide +kernel
theorem s_L_law_1448 {ca : Nat → List Value → tM → tO} {M : tM} {L : tL} {x : Int32} : rn ca C_L_law 1448 L [.int x] M = if x = iI 0 ∨ x = iI 1 then some (some (.int x), M) else none := (rn_at k_L_law_1448).trans rnx_ite
theorem k_L_law_1449 : lk 1449 C_L_law = some (.aload_n 1, (0, 0, 0, 0)) := by decide +kernel
theorem s_L_law_1449 {ca : Nat → List Value → tM → tO} {M : tM} {a0 a2 a3 : Option Value} {x : Nat} {S : List Value} : rn ca C_L_law 1449 [a0, some (.ref x), a2, a3] S M = rn ca C_L_law 1450 [a0, some (.ref x), a2, a3] (.ref x :: S) M := (rn_at k_L_law_1449).trans rfl
theorem k_L_law_1450 : lk 1450 C_L_law = some (.aload_n 0, (0, 0, 0, 0)) := by decide +kernel
theorem s_L_law_1450 {ca : Nat → List Value → tM → tO} {M : tM} {a1 a2 a3 : Option Value} {x : Nat} {S : List Value} : rn ca C_L_law 1450 [some (.ref x), a1, a2, a3] S M = rn ca C_L_law 1451 [some (.ref x), a1, a2, a3] (.ref x :: S) M := (rn_at k_L_law_1450).trans rfl
theorem k_L_law_1451 : lk 1451 C_L_law = some (.iload_n 3, (0, 0, 0, 0)) := by decide +kernel
theorem s_L_law_1451 {ca : Nat → List Value → tM → tO} {M : tM} {a0 a1 a2 : Option Value} {x : Int32} {S : List Value} : rn ca C_L_law 1451 [a0, a1, a2, some (.int x)] S M = rn ca C_L_law 1452 [a0, a1, a2, some (.int x)] (.int x :: S) M := (rn_at k_L_law_1451).trans rfl
theorem k_L_law_1452 : lk 1452 C_L_law = some (.iconst 1, (0, 0, 0, 0)) := by decide +kernel
theorem s_L_law_1452 {ca : Nat → List Value → tM → tO} {M : tM} {L : tL} {S : List Value} : rn ca C_L_law 1452 L S M = rn ca C_L_law 1453 L (.int (iI 1) :: S) M := (rn_at k_L_law_1452).trans rfl
theorem k_L_law_1453 : lk 1453 C_L_law = some (.iadd, (0, 0, 0, 0)) := by decide +kernel
theorem s_L_law_1453 {ca : Nat → List Value → tM → tO} {M : tM} {L : tL} {x y : Int32} {S : List Value} : rn ca C_L_law 1453 L (.int y :: .int x :: S) M = rn ca C_L_law 1454 L (.int (x + y) :: S) M := (rn_at k_L_law_1453).trans rfl
theorem k_L_law_1454 : lk 1454 C_L_law = some (.iaload, (0, 0, 0, 0)) := by decide +kernel
theorem s_L_law_1454 {ca : Nat → List Value → tM → tO} {M : tM} {L : tL} {a : Nat} {i : Int32} {S : List Value} : rn ca C_L_law 1454 L (.int i :: .ref a :: S) M = if (akind a = 0 ∨ akind a = 6 ∨ akind a = 7) ∧ inb i (alen M a) then rn ca C_L_law 1455 L (.int (M.1 a i.toInt.toNat) :: S) M else none := (rn_at k_L_law_1454).trans rnx_ite
theorem k_L_law_1455 : lk 1455 C_L_law = some (.aload_n 0, (0, 0, 0, 0)) := by decide +kernel
theorem s_L_law_1455 {ca : Nat → List Value → tM → tO} {M : tM} {a1 a2 a3 : Option Value} {x : Nat} {S : List Value} : rn ca C_L_law 1455 [some (.ref x), a1, a2, a3] S M = rn ca C_L_law 1456 [some (.ref x), a1, a2, a3] (.ref x :: S) M := (rn_at k_L_law_1455).trans rfl
theorem k_L_law_1456 : lk 1456 C_L_law = some (.iload_n 3, (0, 0, 0, 0)) := by decide +kernel
theorem s_L_law_1456 {ca : Nat → List Value → tM → tO} {M : tM} {a0 a1 a2 : Option Value} {x : Int32} {S : List Value} : rn ca C_L_law 1456 [a0, a1, a2, some (.int x)] S M = rn ca C_L_law 1457 [a0, a1, a2, some (.int x)] (.int x :: S) M := (rn_at k_L_law_1456).trans rfl
theorem k_L_law_1457 : lk 1457 C_L_law = some (.iconst 2, (0, 0, 0, 0)) := by decide +kernel
theorem s_L_law_1457 {ca : Nat → List Value → tM → tO} {M : tM} {L : tL} {S : List Value} : rn ca C_L_law 1457 L S M = rn ca C_L_law 1458 L (.int (iI 2) :: S) M := (rn_at k_L_law_1457).trans rfl
theorem k_L_law_1458 : lk 1458 C_L_law = some (.iadd, (0, 0, 0, 0)) := by decide +kernel
theorem s_L_law_1458 {ca : Nat → List Value → tM → tO} {M : tM} {L : tL} {x y : Int32} {S : List Value} : rn ca C_L_law 1458 L (.int y :: .int x :: S) M = rn ca C_L_law 1459 L (.int (x + y) :: S) M := (rn_at k_L_law_1458).trans rfl
theorem k_L_law_1459 : lk 1459 C_L_law = some (.iaload, (0, 0, 0, 0)) := by decide +kernel
theorem s_L_law_1459 {ca : Nat → List Value → tM → tO} {M : tM} {L : tL} {a : Nat} {i : Int32} {S : List Value} : rn ca C_L_law 1459 L (.int i :: .ref a :: S) M = if (akind a = 0 ∨ akind a = 6 ∨ akind a = 7) ∧ inb i (alen M a) then rn ca C_L_law 1460 L (.int (M.1 a i.toInt.toNat) :: S) M else none := (rn_at k_L_law_1459).trans rnx_ite
theorem k_L_law_1460 : lk 1460 C_L_law = some (.aload_n 0, (0, 0, 0, 0)) := by decide +kernel
theorem s_L_law_1460 {ca : Nat → List Value → tM → tO} {M : tM} {a1 a2 a3 : Option Value} {x : Nat} {S : List Value} : rn ca C_L_law 1460 [some (.ref x), a1, a2, a3] S M = rn ca C_L_law 1461 [some (.ref x), a1, a2, a3] (.ref x :: S) M := (rn_at k_L_law_1460).trans rfl
theorem k_L_law_1461 : lk 1461 C_L_law = some (.iload_n 3, (0, 0, 0, 0)) := by decide +kernel
theorem s_L_law_1461 {ca : Nat → List Value → tM → tO} {M : tM} {a0 a1 a2 : Option Value} {x : Int32} {S : List Value} : rn ca C_L_law 1461 [a0, a1, a2, some (.int x)] S M = rn ca C_L_law 1462 [a0, a1, a2, some (.int x)] (.int x :: S) M := (rn_at k_L_law_1461).trans rfl
theorem k_L_law_1462 : lk 1462 C_L_law = some (.iconst 3, (0, 0, 0, 0)) := by decide +kernel
theorem s_L_law_1462 {ca : Nat → List Value → tM → tO} {M : tM} {L : tL} {S : List Value} : rn ca C_L_law 1462 L S M = rn ca C_L_law 1463 L (.int (iI 3) :: S) M := (rn_at k_L_law_1462).trans rfl
theorem k_L_law_1463 : lk 1463 C_L_law = some (.iadd, (0, 0, 0, 0)) := by decide +kernel
theorem s_L_law_1463 {ca : Nat → List Value → tM → tO} {M : tM} {L : tL} {x y : Int32} {S : List Value} : rn ca C_L_law 1463 L (.int y :: .int x :: S) M = rn ca C_L_law 1464 L (.int (x + y) :: S) M := (rn_at k_L_law_1463).trans rfl
theorem k_L_law_1464 : lk 1464 C_L_law = some (.iaload, (0, 0, 0, 0)) := by decide +kernel
theorem s_L_law_1464 {ca : Nat → List Value → tM → tO} {M : tM} {L : tL} {a : Nat} {i : Int32} {S : List Value} : rn ca C_L_law 1464 L (.int i :: .ref a :: S) M = if (akind a = 0 ∨ akind a = 6 ∨ akind a = 7) ∧ inb i (alen M a) then rn ca C_L_law 1465 L (.int (M.1 a i.toInt.toNat) :: S) M else none := (rn_at k_L_law_1464).trans rnx_ite
theorem k_L_law_1465 : lk 1465 C_L_law = some (.invokevirtual 161, (129, 3, 10, 1162)) := by decide +kernel
theorem s_L_law_1465 {ca : Nat → List Value → tM → tO} {M : tM} {L : tL} {v1 v2 v3 : Value} {b : Nat} : rn ca C_L_law 1465 L [v3, v2, v1, .ref b] M = if clsO b = some 10 then rnk ca C_L_law 1468 L [] (ca m_X10_act [.ref b, v1, v2, v3] M) else none := (rn_at k_L_law_1465).trans rnx_ite
theorem k_L_law_1468 : lk 1468 C_L_law = some (.aload_n 2, (0, 0, 0, 0)) := by decide +kernel
theorem s_L_law_1468 {ca : Nat → List Value → tM → tO} {M : tM} {a0 a1 a3 : Option Value} {x : Nat} {S : List Value} : rn ca C_L_law 1468 [a0, a1, some (.ref x), a3] S M = rn ca C_L_law 1469 [a0, a1, some (.ref x), a3] (.ref x :: S) M := (rn_at k_L_law_1468).trans rfl
theorem k_L_law_1469 : lk 1469 C_L_law = some (.aload_n 0, (0, 0, 0, 0)) := by decide +kernel
theorem s_L_law_1469 {ca : Nat → List Value → tM → tO} {M : tM} {a1 a2 a3 : Option Value} {x : Nat} {S : List Value} : rn ca C_L_law 1469 [some (.ref x), a1, a2, a3] S M = rn ca C_L_law 1470 [some (.ref x), a1, a2, a3] (.ref x :: S) M := (rn_at k_L_law_1469).trans rfl
theorem k_L_law_1470 : lk 1470 C_L_law = some (.iload_n 3, (0, 0, 0, 0)) := by decide +kernel
theorem s_L_law_1470 {ca : Nat → List Value → tM → tO} {M : tM} {a0 a1 a2 : Option Value} {x : Int32} {S : List Value} : rn ca C_L_law 1470 [a0, a1, a2, some (.int x)] S M = rn ca C_L_law 1471 [a0, a1, a2, some (.int x)] (.int x :: S) M := (rn_at k_L_law_1470).trans rfl
theorem k_L_law_1471 : lk 1471 C_L_law = some (.iconst 1, (0, 0, 0, 0)) := by decide +kernel
theorem s_L_law_1471 {ca : Nat → List Value → tM → tO} {M : tM} {L : tL} {S : List Value} : rn ca C_L_law 1471 L S M = rn ca C_L_law 1472 L (.int (iI 1) :: S) M := (rn_at k_L_law_1471).trans rfl
theorem k_L_law_1472 : lk 1472 C_L_law = some (.iadd, (0, 0, 0, 0)) := by decide +kernel
theorem s_L_law_1472 {ca : Nat → List Value → tM → tO} {M : tM} {L : tL} {x y : Int32} {S : List Value} : rn ca C_L_law 1472 L (.int y :: .int x :: S) M = rn ca C_L_law 1473 L (.int (x + y) :: S) M := (rn_at k_L_law_1472).trans rfl
theorem k_L_law_1473 : lk 1473 C_L_law = some (.iaload, (0, 0, 0, 0)) := by decide +kernel
theorem s_L_law_1473 {ca : Nat → List Value → tM → tO} {M : tM} {L : tL} {a : Nat} {i : Int32} {S : List Value} : rn ca C_L_law 1473 L (.int i :: .ref a :: S) M = if (akind a = 0 ∨ akind a = 6 ∨ akind a = 7) ∧ inb i (alen M a) then rn ca C_L_law 1474 L (.int (M.1 a i.toInt.toNat) :: S) M else none := (rn_at k_L_law_1473).trans rnx_ite
theorem k_L_law_1474 : lk 1474 C_L_law = some (.aload_n 0, (0, 0, 0, 0)) := by decide +kernel
theorem s_L_law_1474 {ca : Nat → List Value → tM → tO} {M : tM} {a1 a2 a3 : Option Value} {x : Nat} {S : List Value} : rn ca C_L_law 1474 [some (.ref x), a1, a2, a3] S M = rn ca C_L_law 1475 [some (.ref x), a1, a2, a3] (.ref x :: S) M := (rn_at k_L_law_1474).trans rfl
theorem k_L_law_1475 : lk 1475 C_L_law = some (.iload_n 3, (0, 0, 0, 0)) := by decide +kernel
theorem s_L_law_1475 {ca : Nat → List Value → tM → tO} {M : tM} {a0 a1 a2 : Option Value} {x : Int32} {S : List Value} : rn ca C_L_law 1475 [a0, a1, a2, some (.int x)] S M = rn ca C_L_law 1476 [a0, a1, a2, some (.int x)] (.int x :: S) M := (rn_at k_L_law_1475).trans rfl
theorem k_L_law_1476 : lk 1476 C_L_law = some (.iconst 2, (0, 0, 0, 0)) := by decide +kernel
theorem s_L_law_1476 {ca : Nat → List Value → tM → tO} {M : tM} {L : tL} {S : List Value} : rn ca C_L_law 1476 L S M = rn ca C_L_law 1477 L (.int (iI 2) :: S) M := (rn_at k_L_law_1476).trans rfl
theorem k_L_law_1477 : lk 1477 C_L_law = some (.iadd, (0, 0, 0, 0)) := by decide +kernel
theorem s_L_law_1477 {ca : Nat → List Value → tM → tO} {M : tM} {L : tL} {x y : Int32} {S : List Value} : rn ca C_L_law 1477 L (.int y :: .int x :: S) M = rn ca C_L_law 1478 L (.int (x + y) :: S) M := (rn_at k_L_law_1477).trans rfl
theorem k_L_law_1478 : lk 1478 C_L_law = some (.iaload, (0, 0, 0, 0)) := by decide +kernel
theorem s_L_law_1478 {ca : Nat → List Value → tM → tO} {M : tM} {L : tL} {a : Nat} {i : Int32} {S : List Value} : rn ca C_L_law 1478 L (.int i :: .ref a :: S) M = if (akind a = 0 ∨ akind a = 6 ∨ akind a = 7) ∧ inb i (alen M a) then rn ca C_L_law 1479 L (.int (M.1 a i.toInt.toNat) :: S) M else none := (rn_at k_L_law_1478).trans rnx_ite
theorem k_L_law_1479 : lk 1479 C_L_law = some (.aload_n 0, (0, 0, 0, 0)) := by decide +kernel
theorem s_L_law_1479 {ca : Nat → List Value → tM → tO} {M : tM} {a1 a2 a3 : Option Value} {x : Nat} {S : List Value} : rn ca C_L_law 1479 [some (.ref x), a1, a2, a3] S M = rn ca C_L_law 1480 [some (.ref x), a1, a2, a3] (.ref x :: S) M := (rn_at k_L_law_1479).trans rfl
theorem k_L_law_1480 : lk 1480 C_L_law = some (.iload_n 3, (0, 0, 0, 0)) := by decide +kernel
theorem s_L_law_1480 {ca : Nat → List Value → tM → tO} {M : tM} {a0 a1 a2 : Option Value} {x : Int32} {S : List Value} : rn ca C_L_law 1480 [a0, a1, a2, some (.int x)] S M = rn ca C_L_law 1481 [a0, a1, a2, some (.int x)] (.int x :: S) M := (rn_at k_L_law_1480).trans rfl
theorem k_L_law_1481 : lk 1481 C_L_law = some (.iconst 3, (0, 0, 0, 0)) := by decide +kernel
theorem s_L_law_1481 {ca : Nat → List Value → tM → tO} {M : tM} {L : tL} {S : List Value} : rn ca C_L_law 1481 L S M = rn ca C_L_law 1482 L (.int (iI 3) :: S) M := (rn_at k_L_law_1481).trans rfl
theorem k_L_law_1482 : lk 1482 C_L_law = some (.iadd, (0, 0, 0, 0)) := by decide +kernel
theorem s_L_law_1482 {ca : Nat → List Value → tM → tO} {M : tM} {L : tL} {x y : Int32} {S : List Value} : rn ca C_L_law 1482 L (.int y :: .int x :: S) M = rn ca C_L_law 1483 L (.int (x + y) :: S) M := (rn_at k_L_law_1482).trans rfl
theorem k_L_law_1483 : lk 1483 C_L_law = some (.iaload, (0, 0, 0, 0)) := by decide +kernel
theorem s_L_law_1483 {ca : Nat → List Value → tM → tO} {M : tM} {L : tL} {a : Nat} {i : Int32} {S : List Value} : rn ca C_L_law 1483 L (.int i :: .ref a :: S) M = if (akind a = 0 ∨ akind a = 6 ∨ akind a = 7) ∧ inb i (alen M a) then rn ca C_L_law 1484 L (.int (M.1 a i.toInt.toNat) :: S) M else none := (rn_at k_L_law_1483).trans rnx_ite
theorem k_L_law_1484 : lk 1484 C_L_law = some (.invokevirtual 164, (233, 3, 11, 1190)) := by decide +kernel
theorem s_L_law_1484 {ca : Nat → List Value → tM → tO} {M : tM} {L : tL} {v1 v2 v3 : Value} {r0 : Int32} {b : Nat} : rn ca C_L_law 1484 L [v3, v2, v1, .ref b, .int r0] M = if clsO b = some 11 then rnk ca C_L_law 1487 L [.int r0] (ca m_X11_act [.ref b, v1, v2, v3] M) else none := (rn_at k_L_law_1484).trans rnx_ite
theorem k_L_law_1487 : lk 1487 C_L_law = some (.if_icmp .eq 77, (1564, 0, 0, 0)) := by decide +kernel
theorem s_L_law_1487 {ca : Nat → List Value → tM → tO} {M : tM} {L : tL} {x y : Int32} {S : List Value} : rn ca C_L_law 1487 L (.int y :: .int x :: S) M = if x = y then rn ca C_L_law 1564 L S M else rn ca C_L_law 1490 L S M := (rn_at k_L_law_1487).trans rnx_ite
theorem k_L_law_1490 : lk 1490 C_L_law = some (.iconst 0, (0, 0, 0, 0)) := by decide +kernel
theorem s_L_law_1490 {ca : Nat → List Value → tM → tO} {M : tM} {L : tL} {S : List Value} : rn ca C_L_law 1490 L S M = rn ca C_L_law 1491 L (.int (iI 0) :: S) M := (rn_at k_L_law_1490).trans rfl
theorem k_L_law_1491 : lk 1491 C_L_law = some (.ireturn, (1, 0, 0, 0)) := by decide +kernel
theorem s_L_law_1491 {ca : Nat → List Value → tM → tO} {M : tM} {L : tL} {x : Int32} : rn ca C_L_law 1491 L [.int x] M = if x = iI 0 ∨ x = iI 1 then some (some (.int x), M) else none := (rn_at k_L_law_1491).trans rnx_ite
theorem k_L_law_1492 : lk 1492 C_L_law = some (.aload_n 1, (0, 0, 0, 0)) := by decide +kernel
theorem s_L_law_1492 {ca : Nat → List Value → tM → tO} {M : tM} {a0 a2 a3 : Option Value} {x : Nat} {S : List Value} : rn ca C_L_law 1492 [a0, some (.ref x), a2, a3] S M = rn ca C_L_law 1493 [a0, some (.ref x), a2, a3] (.ref x :: S) M := (rn_at k_L_law_1492).trans rfl
theorem k_L_law_1493 : lk 1493 C_L_law = some (.aload_n 0, (0, 0, 0, 0)) := by decide +kernel
theorem s_L_law_1493 {ca : Nat → List Value → tM → tO} {M : tM} {a1 a2 a3 : Option Value} {x : Nat} {S : List Value} : rn ca C_L_law 1493 [some (.ref x), a1, a2, a3] S M = rn ca C_L_law 1494 [some (.ref x), a1, a2, a3] (.ref x :: S) M := (rn_at k_L_law_1493).trans rfl
theorem k_L_law_1494 : lk 1494 C_L_law = some (.iload_n 3, (0, 0, 0, 0)) := by decide +kernel
theorem s_L_law_1494 {ca : Nat → List Value → tM → tO} {M : tM} {a0 a1 a2 : Option Value} {x : Int32} {S : List Value} : rn ca C_L_law 1494 [a0, a1, a2, some (.int x)] S M = rn ca C_L_law 1495 [a0, a1, a2, some (.int x)] (.int x :: S) M := (rn_at k_L_law_1494).trans rfl
theorem k_L_law_1495 : lk 1495 C_L_law = some (.iconst 1, (0, 0, 0, 0)) := by decide +kernel
theorem s_L_law_1495 {ca : Nat → List Value → tM → tO} {M : tM} {L : tL} {S : List Value} : rn ca C_L_law 1495 L S M = rn ca C_L_law 1496 L (.int (iI 1) :: S) M := (rn_at k_L_law_1495).trans rfl
theorem k_L_law_1496 : lk 1496 C_L_law = some (.iadd, (0, 0, 0, 0)) := by decide +kernel
theorem s_L_law_1496 {ca : Nat → List Value → tM → tO} {M : tM} {L : tL} {x y : Int32} {S : List Value} : rn ca C_L_law 1496 L (.int y :: .int x :: S) M = rn ca C_L_law 1497 L (.int (x + y) :: S) M := (rn_at k_L_law_1496).trans rfl
theorem k_L_law_1497 : lk 1497 C_L_law = some (.iaload, (0, 0, 0, 0)) := by decide +kernel
theorem s_L_law_1497 {ca : Nat → List Value → tM → tO} {M : tM} {L : tL} {a : Nat} {i : Int32} {S : List Value} : rn ca C_L_law 1497 L (.int i :: .ref a :: S) M = if (akind a = 0 ∨ akind a = 6 ∨ akind a = 7) ∧ inb i (alen M a) then rn ca C_L_law 1498 L (.int (M.1 a i.toInt.toNat) :: S) M else none := (rn_at k_L_law_1497).trans rnx_ite
theorem k_L_law_1498 : lk 1498 C_L_law = some (.invokevirtual 165, (130, 1, 10, 1214)) := by decide +kernel
theorem s_L_law_1498 {ca : Nat → List Value → tM → tO} {M : tM} {L : tL} {v1 : Value} {b : Nat} : rn ca C_L_law 1498 L [v1, .ref b] M = if clsO b = some 10 then rnk ca C_L_law 1501 L [] (ca m_X10_trace [.ref b, v1] M) else none := (rn_at k_L_law_1498).trans rnx_ite
theorem k_L_law_1501 : lk 1501 C_L_law = some (.aload_n 2, (0, 0, 0, 0)) := by decide +kernel
theorem s_L_law_1501 {ca : Nat → List Value → tM → tO} {M : tM} {a0 a1 a3 : Option Value} {x : Nat} {S : List Value} : rn ca C_L_law 1501 [a0, a1, some (.ref x), a3] S M = rn ca C_L_law 1502 [a0, a1, some (.ref x), a3] (.ref x :: S) M := (rn_at k_L_law_1501).trans rfl
theorem k_L_law_1502 : lk 1502 C_L_law = some (.aload_n 0, (0, 0, 0, 0)) := by decide +kernel
theorem s_L_law_1502 {ca : Nat → List Value → tM → tO} {M : tM} {a1 a2 a3 : Option Value} {x : Nat} {S : List Value} : rn ca C_L_law 1502 [some (.ref x), a1, a2, a3] S M = rn ca C_L_law 1503 [some (.ref x), a1, a2, a3] (.ref x :: S) M := (rn_at k_L_law_1502).trans rfl
theorem k_L_law_1503 : lk 1503 C_L_law = some (.iload_n 3, (0, 0, 0, 0)) := by decide +kernel
theorem s_L_law_1503 {ca : Nat → List Value → tM → tO} {M : tM} {a0 a1 a2 : Option Value} {x : Int32} {S : List Value} : rn ca C_L_law 1503 [a0, a1, a2, some (.int x)] S M = rn ca C_L_law 1504 [a0, a1, a2, some (.int x)] (.int x :: S) M := (rn_at k_L_law_1503).trans rfl
theorem k_L_law_1504 : lk 1504 C_L_law = some (.iconst 1, (0, 0, 0, 0)) := by decide +kernel
theorem s_L_law_1504 {ca : Nat → List Value → tM → tO} {M : tM} {L : tL} {S : List Value} : rn ca C_L_law 1504 L S M = rn ca C_L_law 1505 L (.int (iI 1) :: S) M := (rn_at k_L_law_1504).trans rfl
theorem k_L_law_1505 : lk 1505 C_L_law = some (.iadd, (0, 0, 0, 0)) := by decide +kernel
theorem s_L_law_1505 {ca : Nat → List Value → tM → tO} {M : tM} {L : tL} {x y : Int32} {S : List Value} : rn ca C_L_law 1505 L (.int y :: .int x :: S) M = rn ca C_L_law 1506 L (.int (x + y) :: S) M := (rn_at k_L_law_1505).trans rfl
theorem k_L_law_1506 : lk 1506 C_L_law = some (.iaload, (0, 0, 0, 0)) := by decide +kernel
theorem s_L_law_1506 {ca : Nat → List Value → tM → tO} {M : tM} {L : tL} {a : Nat} {i : Int32} {S : List Value} : rn ca C_L_law 1506 L (.int i :: .ref a :: S) M = if (akind a = 0 ∨ akind a = 6 ∨ akind a = 7) ∧ inb i (alen M a) then rn ca C_L_law 1507 L (.int (M.1 a i.toInt.toNat) :: S) M else none := (rn_at k_L_law_1506).trans rnx_ite
theorem k_L_law_1507 : lk 1507 C_L_law = some (.invokevirtual 168, (234, 1, 11, 1222)) := by decide +kernel
theorem s_L_law_1507 {ca : Nat → List Value → tM → tO} {M : tM} {L : tL} {v1 : Value} {r0 : Int32} {b : Nat} : rn ca C_L_law 1507 L [v1, .ref b, .int r0] M = if clsO b = some 11 then rnk ca C_L_law 1510 L [.int r0] (ca m_X11_trace [.ref b, v1] M) else none := (rn_at k_L_law_1507).trans rnx_ite
theorem k_L_law_1510 : lk 1510 C_L_law = some (.if_icmp .eq 54, (1564, 0, 0, 0)) := by decide +kernel
theorem s_L_law_1510 {ca : Nat → List Value → tM → tO} {M : tM} {L : tL} {x y : Int32} {S : List Value} : rn ca C_L_law 1510 L (.int y :: .int x :: S) M = if x = y then rn ca C_L_law 1564 L S M else rn ca C_L_law 1513 L S M := (rn_at k_L_law_1510).trans rnx_ite
theorem k_L_law_1513 : lk 1513 C_L_law = some (.iconst 0, (0, 0, 0, 0)) := by decide +kernel
theorem s_L_law_1513 {ca : Nat → List Value → tM → tO} {M : tM} {L : tL} {S : List Value} : rn ca C_L_law 1513 L S M = rn ca C_L_law 1514 L (.int (iI 0) :: S) M := (rn_at k_L_law_1513).trans rfl
theorem k_L_law_1514 : lk 1514 C_L_law = some (.ireturn, (1, 0, 0, 0)) := by decide +kernel
theorem s_L_law_1514 {ca : Nat → List Value → tM → tO} {M : tM} {L : tL} {x : Int32} : rn ca C_L_law 1514 L [.int x] M = if x = iI 0 ∨ x = iI 1 then some (some (.int x), M) else none := (rn_at k_L_law_1514).trans rnx_ite
theorem k_L_law_1515 : lk 1515 C_L_law = some (.aload_n 1, (0, 0, 0, 0)) := by decide +kernel
theorem s_L_law_1515 {ca : Nat → List Value → tM → tO} {M : tM} {a0 a2 a3 : Option Value} {x : Nat} {S : List Value} : rn ca C_L_law 1515 [a0, some (.ref x), a2, a3] S M = rn ca C_L_law 1516 [a0, some (.ref x), a2, a3] (.ref x :: S) M := (rn_at k_L_law_1515).trans rfl
theorem k_L_law_1516 : lk 1516 C_L_law = some (.invokevirtual 169, (131, 0, 10, 1226)) := by decide +kernel
theorem s_L_law_1516 {ca : Nat → List Value → tM → tO} {M : tM} {L : tL} {b : Nat} : rn ca C_L_law 1516 L [.ref b] M = if clsO b = some 10 then rnk ca C_L_law 1519 L [] (ca m_X10_image [.ref b] M) else none := (rn_at k_L_law_1516).trans rnx_ite
theorem k_L_law_1519 : lk 1519 C_L_law = some (.aload_n 2, (0, 0, 0, 0)) := by decide +kernel
theorem s_L_law_1519 {ca : Nat → List Value → tM → tO} {M : tM} {a0 a1 a3 : Option Value} {x : Nat} {S : List Value} : rn ca C_L_law 1519 [a0, a1, some (.ref x), a3] S M = rn ca C_L_law 1520 [a0, a1, some (.ref x), a3] (.ref x :: S) M := (rn_at k_L_law_1519).trans rfl
theorem k_L_law_1520 : lk 1520 C_L_law = some (.invokevirtual 172, (236, 0, 11, 1230)) := by decide +kernel
theorem s_L_law_1520 {ca : Nat → List Value → tM → tO} {M : tM} {L : tL} {r0 : Int32} {b : Nat} : rn ca C_L_law 1520 L [.ref b, .int r0] M = if clsO b = some 11 then rnk ca C_L_law 1523 L [.int r0] (ca m_X11_image [.ref b] M) else none := (rn_at k_L_law_1520).trans rnx_ite
theorem k_L_law_1523 : lk 1523 C_L_law = some (.if_icmp .eq 41, (1564, 0, 0, 0)) := by decide +kernel
theorem s_L_law_1523 {ca : Nat → List Value → tM → tO} {M : tM} {L : tL} {x y : Int32} {S : List Value} : rn ca C_L_law 1523 L (.int y :: .int x :: S) M = if x = y then rn ca C_L_law 1564 L S M else rn ca C_L_law 1526 L S M := (rn_at k_L_law_1523).trans rnx_ite
theorem k_L_law_1526 : lk 1526 C_L_law = some (.iconst 0, (0, 0, 0, 0)) := by decide +kernel
theorem s_L_law_1526 {ca : Nat → List Value → tM → tO} {M : tM} {L : tL} {S : List Value} : rn ca C_L_law 1526 L S M = rn ca C_L_law 1527 L (.int (iI 0) :: S) M := (rn_at k_L_law_1526).trans rfl
theorem k_L_law_1527 : lk 1527 C_L_law = some (.ireturn, (1, 0, 0, 0)) := by decide +kernel
theorem s_L_law_1527 {ca : Nat → List Value → tM → tO} {M : tM} {L : tL} {x : Int32} : rn ca C_L_law 1527 L [.int x] M = if x = iI 0 ∨ x = iI 1 then some (some (.int x), M) else none := (rn_at k_L_law_1527).trans rnx_ite
theorem k_L_law_1528 : lk 1528 C_L_law = some (.aload_n 1, (0, 0, 0, 0)) := by decide +kernel
theorem s_L_law_1528 {ca : Nat → List Value → tM → tO} {M : tM} {a0 a2 a3 : Option Value} {x : Nat} {S : List Value} : rn ca C_L_law 1528 [a0, some (.ref x), a2, a3] S M = rn ca C_L_law 1529 [a0, some (.ref x), a2, a3] (.ref x :: S) M := (rn_at k_L_law_1528).trans rfl
theorem k_L_law_1529 : lk 1529 C_L_law = some (.invokevirtual 173, (132, 0, 10, 1235)) := by decide +kernel
theorem s_L_law_1529 {ca : Nat → List Value → tM → tO} {M : tM} {L : tL} {b : Nat} : rn ca C_L_law 1529 L [.ref b] M = if clsO b = some 10 then rnk ca C_L_law 1532 L [] (ca m_X10_restore [.ref b] M) else none := (rn_at k_L_law_1529).trans rnx_ite
theorem k_L_law_1532 : lk 1532 C_L_law = some (.aload_n 2, (0, 0, 0, 0)) := by decide +kernel
theorem s_L_law_1532 {ca : Nat → List Value → tM → tO} {M : tM} {a0 a1 a3 : Option Value} {x : Nat} {S : List Value} : rn ca C_L_law 1532 [a0, a1, some (.ref x), a3] S M = rn ca C_L_law 1533 [a0, a1, some (.ref x), a3] (.ref x :: S) M := (rn_at k_L_law_1532).trans rfl
theorem k_L_law_1533 : lk 1533 C_L_law = some (.invokevirtual 176, (237, 0, 11, 1243)) := by decide +kernel
theorem s_L_law_1533 {ca : Nat → List Value → tM → tO} {M : tM} {L : tL} {r0 : Int32} {b : Nat} : rn ca C_L_law 1533 L [.ref b, .int r0] M = if clsO b = some 11 then rnk ca C_L_law 1536 L [.int r0] (ca m_X11_restore [.ref b] M) else none := (rn_at k_L_law_1533).trans rnx_ite
theorem k_L_law_1536 : lk 1536 C_L_law = some (.if_icmp .eq 28, (1564, 0, 0, 0)) := by decide +kernel
theorem s_L_law_1536 {ca : Nat → List Value → tM → tO} {M : tM} {L : tL} {x y : Int32} {S : List Value} : rn ca C_L_law 1536 L (.int y :: .int x :: S) M = if x = y then rn ca C_L_law 1564 L S M else rn ca C_L_law 1539 L S M := (rn_at k_L_law_1536).trans rnx_ite
theorem k_L_law_1539 : lk 1539 C_L_law = some (.iconst 0, (0, 0, 0, 0)) := by decide +kernel
theorem s_L_law_1539 {ca : Nat → List Value → tM → tO} {M : tM} {L : tL} {S : List Value} : rn ca C_L_law 1539 L S M = rn ca C_L_law 1540 L (.int (iI 0) :: S) M := (rn_at k_L_law_1539).trans rfl
theorem k_L_law_1540 : lk 1540 C_L_law = some (.ireturn, (1, 0, 0, 0)) := by decide +kernel
theorem s_L_law_1540 {ca : Nat → List Value → tM → tO} {M : tM} {L : tL} {x : Int32} : rn ca C_L_law 1540 L [.int x] M = if x = iI 0 ∨ x = iI 1 then some (some (.int x), M) else none := (rn_at k_L_law_1540).trans rnx_ite
theorem k_L_law_1541 : lk 1541 C_L_law = some (.aload_n 1, (0, 0, 0, 0)) := by decide +kernel
theorem s_L_law_1541 {ca : Nat → List Value → tM → tO} {M : tM} {a0 a2 a3 : Option Value} {x : Nat} {S : List Value} : rn ca C_L_law 1541 [a0, some (.ref x), a2, a3] S M = rn ca C_L_law 1542 [a0, some (.ref x), a2, a3] (.ref x :: S) M := (rn_at k_L_law_1541).trans rfl
theorem k_L_law_1542 : lk 1542 C_L_law = some (.aload_n 0, (0, 0, 0, 0)) := by decide +kernel
theorem s_L_law_1542 {ca : Nat → List Value → tM → tO} {M : tM} {a1 a2 a3 : Option Value} {x : Nat} {S : List Value} : rn ca C_L_law 1542 [some (.ref x), a1, a2, a3] S M = rn ca C_L_law 1543 [some (.ref x), a1, a2, a3] (.ref x :: S) M := (rn_at k_L_law_1542).trans rfl
theorem k_L_law_1543 : lk 1543 C_L_law = some (.iload_n 3, (0, 0, 0, 0)) := by decide +kernel
theorem s_L_law_1543 {ca : Nat → List Value → tM → tO} {M : tM} {a0 a1 a2 : Option Value} {x : Int32} {S : List Value} : rn ca C_L_law 1543 [a0, a1, a2, some (.int x)] S M = rn ca C_L_law 1544 [a0, a1, a2, some (.int x)] (.int x :: S) M := (rn_at k_L_law_1543).trans rfl
theorem k_L_law_1544 : lk 1544 C_L_law = some (.iconst 1, (0, 0, 0, 0)) := by decide +kernel
theorem s_L_law_1544 {ca : Nat → List Value → tM → tO} {M : tM} {L : tL} {S : List Value} : rn ca C_L_law 1544 L S M = rn ca C_L_law 1545 L (.int (iI 1) :: S) M := (rn_at k_L_law_1544).trans rfl
theorem k_L_law_1545 : lk 1545 C_L_law = some (.iadd, (0, 0, 0, 0)) := by decide +kernel
theorem s_L_law_1545 {ca : Nat → List Value → tM → tO} {M : tM} {L : tL} {x y : Int32} {S : List Value} : rn ca C_L_law 1545 L (.int y :: .int x :: S) M = rn ca C_L_law 1546 L (.int (x + y) :: S) M := (rn_at k_L_law_1545).trans rfl
theorem k_L_law_1546 : lk 1546 C_L_law = some (.iaload, (0, 0, 0, 0)) := by decide +kernel
theorem s_L_law_1546 {ca : Nat → List Value → tM → tO} {M : tM} {L : tL} {a : Nat} {i : Int32} {S : List Value} : rn ca C_L_law 1546 L (.int i :: .ref a :: S) M = if (akind a = 0 ∨ akind a = 6 ∨ akind a = 7) ∧ inb i (alen M a) then rn ca C_L_law 1547 L (.int (M.1 a i.toInt.toNat) :: S) M else none := (rn_at k_L_law_1546).trans rnx_ite
theorem k_L_law_1547 : lk 1547 C_L_law = some (.invokevirtual 177, (133, 1, 10, 1247)) := by decide +kernel
theorem s_L_law_1547 {ca : Nat → List Value → tM → tO} {M : tM} {L : tL} {v1 : Value} {b : Nat} : rn ca C_L_law 1547 L [v1, .ref b] M = if clsO b = some 10 then rnk ca C_L_law 1550 L [] (ca m_X10_status [.ref b, v1] M) else none := (rn_at k_L_law_1547).trans rnx_ite
theorem k_L_law_1550 : lk 1550 C_L_law = some (.aload_n 2, (0, 0, 0, 0)) := by decide +kernel
theorem s_L_law_1550 {ca : Nat → List Value → tM → tO} {M : tM} {a0 a1 a3 : Option Value} {x : Nat} {S : List Value} : rn ca C_L_law 1550 [a0, a1, some (.ref x), a3] S M = rn ca C_L_law 1551 [a0, a1, some (.ref x), a3] (.ref x :: S) M := (rn_at k_L_law_1550).trans rfl
theorem k_L_law_1551 : lk 1551 C_L_law = some (.aload_n 0, (0, 0, 0, 0)) := by decide +kernel
theorem s_L_law_1551 {ca : Nat → List Value → tM → tO} {M : tM} {a1 a2 a3 : Option Value} {x : Nat} {S : List Value} : rn ca C_L_law 1551 [some (.ref x), a1, a2, a3] S M = rn ca C_L_law 1552 [some (.ref x), a1, a2, a3] (.ref x :: S) M := (rn_at k_L_law_1551).trans rfl
theorem k_L_law_1552 : lk 1552 C_L_law = some (.iload_n 3, (0, 0, 0, 0)) := by decide +kernel
theorem s_L_law_1552 {ca : Nat → List Value → tM → tO} {M : tM} {a0 a1 a2 : Option Value} {x : Int32} {S : List Value} : rn ca C_L_law 1552 [a0, a1, a2, some (.int x)] S M = rn ca C_L_law 1553 [a0, a1, a2, some (.int x)] (.int x :: S) M := (rn_at k_L_law_1552).trans rfl
theorem k_L_law_1553 : lk 1553 C_L_law = some (.iconst 1, (0, 0, 0, 0)) := by decide +kernel
theorem s_L_law_1553 {ca : Nat → List Value → tM → tO} {M : tM} {L : tL} {S : List Value} : rn ca C_L_law 1553 L S M = rn ca C_L_law 1554 L (.int (iI 1) :: S) M := (rn_at k_L_law_1553).trans rfl
theorem k_L_law_1554 : lk 1554 C_L_law = some (.iadd, (0, 0, 0, 0)) := by decide +kernel
theorem s_L_law_1554 {ca : Nat → List Value → tM → tO} {M : tM} {L : tL} {x y : Int32} {S : List Value} : rn ca C_L_law 1554 L (.int y :: .int x :: S) M = rn ca C_L_law 1555 L (.int (x + y) :: S) M := (rn_at k_L_law_1554).trans rfl
theorem k_L_law_1555 : lk 1555 C_L_law = some (.iaload, (0, 0, 0, 0)) := by decide +kernel
theorem s_L_law_1555 {ca : Nat → List Value → tM → tO} {M : tM} {L : tL} {a : Nat} {i : Int32} {S : List Value} : rn ca C_L_law 1555 L (.int i :: .ref a :: S) M = if (akind a = 0 ∨ akind a = 6 ∨ akind a = 7) ∧ inb i (alen M a) then rn ca C_L_law 1556 L (.int (M.1 a i.toInt.toNat) :: S) M else none := (rn_at k_L_law_1555).trans rnx_ite
theorem k_L_law_1556 : lk 1556 C_L_law = some (.invokevirtual 180, (238, 1, 11, 1260)) := by decide +kernel
theorem s_L_law_1556 {ca : Nat → List Value → tM → tO} {M : tM} {L : tL} {v1 : Value} {r0 : Int32} {b : Nat} : rn ca C_L_law 1556 L [v1, .ref b, .int r0] M = if clsO b = some 11 then rnk ca C_L_law 1559 L [.int r0] (ca m_X11_status [.ref b, v1] M) else none := (rn_at k_L_law_1556).trans rnx_ite
theorem k_L_law_1559 : lk 1559 C_L_law = some (.if_icmp .eq 5, (1564, 0, 0, 0)) := by decide +kernel
theorem s_L_law_1559 {ca : Nat → List Value → tM → tO} {M : tM} {L : tL} {x y : Int32} {S : List Value} : rn ca C_L_law 1559 L (.int y :: .int x :: S) M = if x = y then rn ca C_L_law 1564 L S M else rn ca C_L_law 1562 L S M := (rn_at k_L_law_1559).trans rnx_ite
theorem k_L_law_1562 : lk 1562 C_L_law = some (.iconst 0, (0, 0, 0, 0)) := by decide +kernel
theorem s_L_law_1562 {ca : Nat → List Value → tM → tO} {M : tM} {L : tL} {S : List Value} : rn ca C_L_law 1562 L S M = rn ca C_L_law 1563 L (.int (iI 0) :: S) M := (rn_at k_L_law_1562).trans rfl
theorem k_L_law_1563 : lk 1563 C_L_law = some (.ireturn, (1, 0, 0, 0)) := by decide +kernel
theorem s_L_law_1563 {ca : Nat → List Value → tM → tO} {M : tM} {L : tL} {x : Int32} : rn ca C_L_law 1563 L [.int x] M = if x = iI 0 ∨ x = iI 1 then some (some (.int x), M) else none := (rn_at k_L_law_1563).trans rnx_ite
theorem k_L_law_1564 : lk 1564 C_L_law = some (.iinc 3 6, (0, 0, 0, 0)) := by decide +kernel
theorem s_L_law_1564 {ca : Nat → List Value → tM → tO} {M : tM} {a0 a1 a2 : Option Value} {x : Int32} {S : List Value} : rn ca C_L_law 1564 [a0, a1, a2, some (.int x)] S M = rn ca C_L_law 1567 [a0, a1, a2, some (.int (x + iI 6))] S M := (rn_at k_L_law_1564).trans rfl
theorem k_L_law_1567 : lk 1567 C_L_law = some (.goto (-1549), (18, 0, 0, 0)) := by decide +kernel
theorem s_L_law_1567 {ca : Nat → List Value → tM → tO} {M : tM} {L : tL} {S : List Value} : rn ca C_L_law 1567 L S M = rn ca C_L_law 18 L S M := (rn_at k_L_law_1567).trans rfl
theorem k_L_law_1570 : lk 1570 C_L_law = some (.iconst 1, (0, 0, 0, 0)) := by decide +kernel
theorem s_L_law_1570 {ca : Nat → List Value → tM → tO} {M : tM} {L : tL} {S : List Value} : rn ca C_L_law 1570 L S M = rn ca C_L_law 1571 L (.int (iI 1) :: S) M := (rn_at k_L_law_1570).trans rfl
theorem k_L_law_1571 : lk 1571 C_L_law = some (.ireturn, (1, 0, 0, 0)) := by decide +kernel
theorem s_L_law_1571 {ca : Nat → List Value → tM → tO} {M : tM} {L : tL} {x : Int32} : rn ca C_L_law 1571 L [.int x] M = if x = iI 0 ∨ x = iI 1 then some (some (.int x), M) else none := (rn_at k_L_law_1571).trans rnx_ite
