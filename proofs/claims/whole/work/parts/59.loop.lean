/-! THE LAW'S LOOP -/
theorem lw_sw {D : Nat} (hD : 64 ≤ D) {M : tM} {S : tS} (hC : RelC S M) (hR : RelR S M) (hI : sInv S) {n i : Nat} (hl : ∀ N, Sc M N → alen N 121 = n) (hn : n ≤ 100000) (hi : i + 6 ≤ n) (x : Int32) : ∃ M' S', rn (exF D) C_L_law 33 [some (.ref 121), some (.ref 88), some (.ref 90), some (.int (iI i))] [.int x] M = rn (exF D) C_L_law 1564 [some (.ref 121), some (.ref 88), some (.ref 90), some (.int (iI i))] [] M' ∧ RelC S' M' ∧ RelR S' M' ∧ sInv S' ∧ Sc M M' := by
  rw [s_L_law_33]
  by_cases h0 : x = iI 0
  · rw [if_pos h0]; exact lw_row (by omega) (by omega) hC hR hI hl hn hi
  rw [if_neg h0]
  by_cases h1 : x = iI 1
  · rw [if_pos h1]; exact lw_set (by omega) (by omega) hC hR hI hl hn hi
  rw [if_neg h1]
  by_cases h2 : x = iI 2
  · rw [if_pos h2]; exact lw_copy (by omega) (by omega) hC hR hI hl hn hi
  rw [if_neg h2]
  by_cases h3 : x = iI 3
  · rw [if_pos h3]; exact lw_element (by omega) (by omega) hC hR hI hl hn hi
  rw [if_neg h3]
  by_cases h4 : x = iI 4
  · rw [if_pos h4]; exact lw_show (by omega) (by omega) hC hR hI hl hn hi
  rw [if_neg h4]
  by_cases h5 : x = iI 5
  · rw [if_pos h5]; exact lw_holds (by omega) (by omega) hC hR hI hl hn hi
  rw [if_neg h5]
  by_cases h6 : x = iI 6
  · rw [if_pos h6]; exact lw_says (by omega) (by omega) hC hR hI hl hn hi
  rw [if_neg h6]
  by_cases h7 : x = iI 7
  · rw [if_pos h7]; exact lw_desk (by omega) (by omega) hC hR hI hl hn hi
  rw [if_neg h7]
  by_cases h8 : x = iI 8
  · rw [if_pos h8]; exact lw_tube (by omega) (by omega) hC hR hI hl hn hi
  rw [if_neg h8]
  by_cases h9 : x = iI 9
  · rw [if_pos h9]; exact lw_capsule (by omega) (by omega) hC hR hI hl hn hi
  rw [if_neg h9]
  by_cases h10 : x = iI 10
  · rw [if_pos h10]; exact lw_shut (by omega) (by omega) hC hR hI hl hn hi
  rw [if_neg h10]
  by_cases h11 : x = iI 11
  · rw [if_pos h11]; exact lw_ask (by omega) (by omega) hC hR hI hl hn hi
  rw [if_neg h11]
  by_cases h12 : x = iI 12
  · rw [if_pos h12]; exact lw_capsuleOf (by omega) (by omega) hC hR hI hl hn hi
  rw [if_neg h12]
  by_cases h13 : x = iI 13
  · rw [if_pos h13]; exact lw_tubeOf (by omega) (by omega) hC hR hI hl hn hi
  rw [if_neg h13]
  by_cases h14 : x = iI 14
  · rw [if_pos h14]; exact lw_signed (by omega) (by omega) hC hR hI hl hn hi
  rw [if_neg h14]
  by_cases h15 : x = iI 15
  · rw [if_pos h15]; exact lw_plan (by omega) (by omega) hC hR hI hl hn hi
  rw [if_neg h15]
  by_cases h16 : x = iI 16
  · rw [if_pos h16]; exact lw_fault (by omega) (by omega) hC hR hI hl hn hi
  rw [if_neg h16]
  by_cases h17 : x = iI 17
  · rw [if_pos h17]; exact lw_time (by omega) (by omega) hC hR hI hl hn hi
  rw [if_neg h17]
  by_cases h18 : x = iI 18
  · rw [if_pos h18]; exact lw_way (by omega) (by omega) hC hR hI hl hn hi
  rw [if_neg h18]
  by_cases h19 : x = iI 19
  · rw [if_pos h19]; exact lw_within (by omega) (by omega) hC hR hI hl hn hi
  rw [if_neg h19]
  by_cases h20 : x = iI 20
  · rw [if_pos h20]; exact lw_round (by omega) (by omega) hC hR hI hl hn hi
  rw [if_neg h20]
  by_cases h21 : x = iI 21
  · rw [if_pos h21]; exact lw_meet (by omega) (by omega) hC hR hI hl hn hi
  rw [if_neg h21]
  by_cases h22 : x = iI 22
  · rw [if_pos h22]; exact lw_cut (by omega) (by omega) hC hR hI hl hn hi
  rw [if_neg h22]
  by_cases h23 : x = iI 23
  · rw [if_pos h23]; exact lw_stuck (by omega) (by omega) hC hR hI hl hn hi
  rw [if_neg h23]
  by_cases h24 : x = iI 24
  · rw [if_pos h24]; exact lw_listen (by omega) (by omega) hC hR hI hl hn hi
  rw [if_neg h24]
  by_cases h25 : x = iI 25
  · rw [if_pos h25]; exact lw_enough (by omega) (by omega) hC hR hI hl hn hi
  rw [if_neg h25]
  by_cases h26 : x = iI 26
  · rw [if_pos h26]; exact lw_tree (by omega) (by omega) hC hR hI hl hn hi
  rw [if_neg h26]
  by_cases h27 : x = iI 27
  · rw [if_pos h27]; exact lw_seat (by omega) (by omega) hC hR hI hl hn hi
  rw [if_neg h27]
  by_cases h28 : x = iI 28
  · rw [if_pos h28]; exact lw_judge (by omega) (by omega) hC hR hI hl hn hi
  rw [if_neg h28]
  by_cases h29 : x = iI 29
  · rw [if_pos h29]; exact lw_behind (by omega) (by omega) hC hR hI hl hn hi
  rw [if_neg h29]
  by_cases h30 : x = iI 30
  · rw [if_pos h30]; exact lw_done (by omega) (by omega) hC hR hI hl hn hi
  rw [if_neg h30]
  by_cases h31 : x = iI 31
  · rw [if_pos h31]; exact lw_send (by omega) (by omega) hC hR hI hl hn hi
  rw [if_neg h31]
  by_cases h32 : x = iI 32
  · rw [if_pos h32]; exact lw_months (by omega) (by omega) hC hR hI hl hn hi
  rw [if_neg h32]
  by_cases h33 : x = iI 33
  · rw [if_pos h33]; exact lw_seed (by omega) (by omega) hC hR hI hl hn hi
  rw [if_neg h33]
  by_cases h34 : x = iI 34
  · rw [if_pos h34]; exact lw_act (by omega) (by omega) hC hR hI hl hn hi
  rw [if_neg h34]
  by_cases h35 : x = iI 35
  · rw [if_pos h35]; exact lw_trace (by omega) (by omega) hC hR hI hl hn hi
  rw [if_neg h35]
  by_cases h36 : x = iI 36
  · rw [if_pos h36]; exact lw_image (by omega) (by omega) hC hR hI hl hn hi
  rw [if_neg h36]
  by_cases h37 : x = iI 37
  · rw [if_pos h37]; exact lw_restore (by omega) (by omega) hC hR hI hl hn hi
  rw [if_neg h37]
  by_cases h38 : x = iI 38
  · rw [if_pos h38]; exact lw_status (by omega) (by omega) hC hR hI hl hn hi
  rw [if_neg h38]
  exact ⟨M, S, rfl, hC, hR, hI, rfl, rfl⟩
theorem lw_loop {D : Nat} (hD : 64 ≤ D) {n : Nat} (hn : n ≤ 100000) : ∀ (k i : Nat) (M : tM) (S : tS), n < i + k → i ≤ n → RelC S M → RelR S M → sInv S → (∀ N, Sc M N → alen N 121 = n) → ∃ M', rn (exF D) C_L_law 18 [some (.ref 121), some (.ref 88), some (.ref 90), some (.int (iI i))] [] M = some (some (.int (iI 1)), M') := by
  intro k
  induction k with
  | zero => intro i M S h1 h2; omega
  | succ k ih =>
    intro i M S h1 h2 hC hR hI hl
    have e : akind 121 = 7 := rfl
    have l1 := hl M ⟨rfl, rfl⟩
    by_cases hi : i + 6 ≤ n
    · obtain ⟨M1, S1, q, c1, c2, c3, c4⟩ := lw_sw hD hC hR hI hl hn hi (M.1 121 i &&& iI 63)
      obtain ⟨M2, q2⟩ := ih (i + 6) M1 S1 (by omega) (by omega) c1 c2 c3 (fun N hN => hl N ⟨hN.1.trans c4.1, hN.2.trans c4.2⟩)
      refine ⟨M2, ?_⟩
      have q3 : rn (exF D) C_L_law 1564 [some (.ref 121), some (.ref 88), some (.ref 90), some (.int (iI i))] [] M1 = some (some (.int (iI 1)), M2) := by
        rw [s_L_law_1564, s_L_law_1567, iI_add]
        exact q2
      rw [q3] at q
      simp (maxSteps := 4000000) (disch := omega) only [s_L_law_18, s_L_law_19, s_L_law_20, s_L_law_21, s_L_law_23, s_L_law_24, s_L_law_27, s_L_law_28, s_L_law_29, s_L_law_30, s_L_law_32, e, l1, q, tn_n, Nat.reduceLT, ltF (show ((i : Nat) : Int) ≤ (n : Int) - 6 by omega), iI_add, iI_sub, iI_mul, iI_neg, iI_lt, iI_le, iI_eq, iI_toInt, tn_n, tn_1, inb_I, Int.reduceEq, Int.reduceLT, Int.reduceLE, Int.reduceAdd, Int.reduceSub, Int.reduceMul, Int.reduceNeg, Int.reduceToNat, Nat.reduceAdd, Nat.reduceMul, Int.reduceNatCast, reduceCtorEq, Int.cast_ofNat_Int, bi_tr, bi_fa, bi_0, bi_1, not_true_eq_false, not_false_eq_true, rnk_v, rnk_n, ↓reduceIte, i00, i11, ibi, or_true, true_or, and_true, true_and, List.cons_append, List.nil_append, Option.toList, nop]
    · refine ⟨M, ?_⟩
      simp (maxSteps := 4000000) (disch := omega) only [s_L_law_18, s_L_law_19, s_L_law_20, s_L_law_21, s_L_law_23, s_L_law_24, s_L_law_1570, s_L_law_1571, e, l1, Nat.reduceLT, ltT (show (n : Int) - 6 < ((i : Nat) : Int) by omega), iI_add, iI_sub, iI_mul, iI_neg, iI_lt, iI_le, iI_eq, iI_toInt, tn_n, tn_1, inb_I, Int.reduceEq, Int.reduceLT, Int.reduceLE, Int.reduceAdd, Int.reduceSub, Int.reduceMul, Int.reduceNeg, Int.reduceToNat, Nat.reduceAdd, Nat.reduceMul, Int.reduceNatCast, reduceCtorEq, Int.cast_ofNat_Int, bi_tr, bi_fa, bi_0, bi_1, not_true_eq_false, not_false_eq_true, rnk_v, rnk_n, ↓reduceIte, i00, i11, ibi, or_true, true_or, and_true, true_and, List.cons_append, List.nil_append, Option.toList, nop]
