/-! every call keeps what holds always -/
theorem iv_T {S : tS} (h : sInv S) {n : Nat} {t : Nat → Int} (h1 : n ≤ 1000) (h2 : ∀ i, -1 ≤ t i ∧ t i ≤ 100) : sInv (upT S n t) := by
  obtain ⟨a1, a2, a3, a4, a5, -⟩ := h
  exact ⟨a1, a2, a3, a4, a5, h1, h2⟩
theorem iv_F {S : tS} (h : sInv S) {z : Int} (h1 : -1 ≤ z ∧ z ≤ 160) : sInv (upF S z) := by
  obtain ⟨a1, a2, a3, a4, a5, a6⟩ := h
  exact ⟨a1, a2, a3, a4, h1, a6⟩
theorem iv_ite {p : Prop} [Decidable p] {A B : Int × tS} (h1 : p → sInv A.2) (h2 : ¬ p → sInv B.2) : sInv (if p then A else B).2 := by
  split
  · rename_i q; exact h1 q
  · rename_i q; exact h2 q
theorem iv_row {S : tS} (h : sInv S) (s sort n : Int) : sInv (p_row S s sort n).2 := by
  unfold p_row
  refine iv_ite (fun _ => h) fun q1 => iv_ite (fun _ => h) fun q2 => iv_ite (fun _ => h) fun q3 => iv_ite (fun _ => h) fun q4 => ?_
  refine sInv_Q h (qRow_inv h.2.2.1 (by omega) (by omega)) fun x hx a b => ?_
  have := h.2.2.2.1 x hx
  simp only [qRow, qH] at *
  by_cases e : x = s.toNat
  · rw [if_pos e] at b; omega
  · rw [if_neg e] at *; exact this a b
theorem iv_set {S : tS} (h : sInv S) (s i : Int) (v : Int64) : sInv (p_set S s i v).2 := by
  unfold p_set
  exact iv_ite (fun _ => h) fun q1 => iv_ite (fun _ => h) fun q2 => sInv_Q h (qSet_inv h.2.2.1) h.2.2.2.1
theorem iv_copy {S : tS} (h : sInv S) (p q i j n : Int) : sInv (p_copy S p q i j n).2 := by
  unfold p_copy
  refine iv_ite (fun _ => h) fun q1 => iv_ite (fun _ => h) fun q2 => iv_ite (fun _ => h) fun q3 => iv_ite (fun _ => h) fun q4 => ?_
  first | exact sInv_Q h (qCopy_inv h.2.2.1) h.2.2.2.1 | exact iv_ite (fun _ => h) fun q5 => sInv_Q h (qCopy_inv h.2.2.1) h.2.2.2.1
theorem iv_show {S : tS} (h : sInv S) (s c : Int) : sInv (p_show S s c).2 := by
  unfold p_show
  have n0 := kI_n h.1
  refine iv_ite (fun _ => h) fun q1 => ?_
  have q2 : (0 ≤ s ∧ s < 8) ∧ (c = -1 ∨ 0 ≤ c ∧ c < (kC (stK S) : Int)) := Classical.not_not.mp q1
  refine sInv_Q h (qPut_inv h.2.2.1 (by omega)) fun x hx a b => ?_
  have := h.2.2.2.1 x hx
  simp only [qPut, qH] at *
  by_cases e : x = s.toNat
  · rw [if_pos e] at *; omega
  · rw [if_neg e] at *; exact this a b
theorem iv_desk {S : tS} (h : sInv S) : sInv (p_desk S).2 := by
  unfold p_desk
  have n0 := kI_n h.1
  exact iv_ite (fun _ => h) fun q1 => sInv_K h (uDesk_inv h.1 (by omega)) (by simp [uDesk, ks, kC])
theorem iv_tube {S : tS} (h : sInv S) (f t l b : Int) : sInv (p_tube S f t l b).2 := by
  unfold p_tube
  have n0 := kI_n h.1
  refine iv_ite (fun _ => h) fun q1 => iv_ite (fun _ => h) fun q2 => iv_ite (fun _ => h) fun q3 => ?_
  exact sInv_K h (uTube_inv h.1 (by omega) (by omega) (by omega) (by omega) (by omega) (by omega)) (by simp [uTube, ks, kC])
theorem iv_capsule {S : tS} (h : sInv S) (k a w x : Int) : sInv (p_capsule S k a w x).2 := by
  unfold p_capsule
  have n0 := kI_n h.1
  refine iv_ite (fun _ => h) fun q1 => iv_ite (fun _ => h) fun q2 => iv_ite (fun _ => h) fun q3 => ?_
  exact sInv_K h (uCap_inv h.1 (by omega) (by omega) (by omega) (by omega) (by omega)) (by simp [uCap, ks, kC])
theorem iv_shut {S : tS} (h : sInv S) (t : Int) (q : Prop) [Decidable q] : sInv (p_shut S t q).2 := by
  unfold p_shut
  exact iv_ite (fun _ => h) fun q1 => sInv_K h (uShut_inv h.1 (by split <;> omega)) (by simp [uShut, ks, kC])
theorem iv_ask {S : tS} (h : sInv S) (v : Int) : sInv (p_ask S v).2 := by
  unfold p_ask
  exact iv_ite (fun _ => h) fun q1 => sInv_K h (uPres_inv h.1 (by omega)) (by simp [uPres, ks, kC])
theorem iv_seed {S : tS} (h : sInv S) (v : Int) : sInv (p_seed S v).2 := sInv_K h (uSeed_inv h.1 _) (Nat.le_refl _)
theorem iv_image {S : tS} (h : sInv S) : sInv (p_image S).2 := by
  obtain ⟨a1, a2, a3, a4, a5, a6⟩ := h
  exact ⟨a1, a1, a3, a4, a5, a6⟩
theorem iv_restore {S : tS} (h : sInv S) : sInv (p_restore S).2 := by
  unfold p_restore
  refine iv_ite (fun _ => h) fun q1 => ?_
  obtain ⟨a1, a2, a3, a4, a5, a6⟩ := h
  refine ⟨a2, a2, qDrop_inv a3, fun x hx a b => ?_, a5, a6⟩
  show qH (qDrop (stQ S) (kC (stI S))) x < (kC (stI S) : Int)
  change 0 ≤ qH (qDrop (stQ S) (kC (stI S))) x at a
  change qH (qDrop (stQ S) (kC (stI S))) x < 100 at b
  simp only [qDrop, qH] at *
  split at a
  · omega
  · rename_i z
    rw [if_neg z] at *
    omega
theorem iv_send {S : tS} (h : sInv S) (c d : Int) (q : Prop) [Decidable q] : sInv (p_send S c d q).2 := by
  unfold p_send
  refine iv_ite (fun _ => h) fun q1 => iv_ite (fun _ => h) fun q2 => sInv_K h (uGo_inv h.1 (by omega)) ?_
  simp [uGo, uMin, ks, kC]
theorem iv_months {S : tS} (h : sInv S) (n : Int) : sInv (p_months S n).2 := by
  unfold p_months
  refine iv_ite (fun _ => h) fun q1 => iv_ite (fun _ => h) fun q2 => sInv_K h (mnN_inv h.1 (by omega) _) ?_
  rw [mnN_C]; exact Nat.le_refl _
theorem iv_done {S : tS} (h : sInv S) (s n : Int) : sInv (p_done S s n).2 := by
  unfold p_done
  refine iv_ite (fun _ => h) fun q1 => iv_ite (fun _ => h) fun q2 => sInv_K h (dy_inv h.1 _ _).1 ?_
  rw [(dy_inv h.1 _ _).2.1]; exact Nat.le_refl _
theorem iv_plan {S : tS} (h : sInv S) (s : Int) : sInv (p_plan S s).2 := by
  unfold p_plan
  have k2 := rrQ_ri (stQ S) s
  refine iv_ite (fun _ => h) fun q1 => ?_
  obtain ⟨k3, k4, k5⟩ := k2.2 q1
  have hn := (h.2.2.1 s.toNat (by omega)).2
  have v1 := rdP_inv (a := qI (stQ S) s.toNat) (n := qN (stQ S) s.toNat) 161 (stK S) 0 0 h.1
  have v2 := rdP_n (a := qI (stQ S) s.toNat) (n := qN (stQ S) s.toNat) 161 (stK S) 0 0 (by omega)
  refine iv_ite (fun _ => iv_F (sInv_K h v1.1 v1.2) (by omega)) fun q2 => ?_
  have v3 := v2 (by simpa using q2)
  exact iv_F h (by omega)
theorem app_rg : ∀ (l : List Int) (T : tT), (∀ b ∈ l, -1 ≤ b ∧ b ≤ 100) → (∀ i, -1 ≤ T.2 i ∧ T.2 i ≤ 100) → ∀ i, -1 ≤ (app T l).2 i ∧ (app T l).2 i ≤ 100
  | [], T, _, h => h
  | b :: l, T, hl, h => by
    rw [← app_c]
    refine app_rg l (bg T b) (fun x hx => hl x (List.mem_cons_of_mem _ hx)) fun i => ?_
    have := hl b List.mem_cons_self
    have := h i
    unfold bg
    dsimp only
    (repeat' split) <;> omega
theorem hsT_rg (kd : Nat) : ∀ b ∈ hsT kd, -1 ≤ b ∧ b ≤ 100 := by
  unfold hsT; (repeat' split) <;> · intro b hb; simp at hb; omega
theorem laT_rg (own kd : Nat) : ∀ b ∈ laT own kd, -1 ≤ b ∧ b ≤ 100 := by
  have h := hsT_rg own
  intro b hb
  by_cases z : b ∈ hsT own
  · exact h b z
  · unfold laT at hb
    (repeat' split at hb) <;>
    · simp only [List.mem_cons, z, or_false] at hb
      omega
theorem siT_rg (own kd : Nat) : ∀ b ∈ siT own kd, -1 ≤ b ∧ b ≤ 100 := by
  have h := hsT_rg own
  have h2 := laT_rg own own
  intro b hb
  by_cases z : b ∈ hsT own
  · exact h b z
  by_cases z2 : b ∈ laT own own
  · exact h2 b z2
  · unfold siT at hb
    (repeat' split at hb) <;>
    · simp only [List.mem_cons, List.mem_append, z, z2, or_false] at hb
      omega
theorem iv_act {S : tS} (h : sInv S) (c mv x : Int) : sInv (p_act S c mv x).2 := by
  have hT := h.2.2.2.2.2.2
  unfold p_act
  refine iv_ite (fun _ => iv_T h (by omega) hT) fun q1 => ?_
  refine iv_T h ?_ (app_rg _ _ ?_ hT)
  · rw [app_1]
    have := acT_len (kK (stK S) c.toNat) mv
    dsimp only
    omega
  · unfold acT
    split
    · exact hsT_rg _
    · split
      · exact laT_rg _ _
      · exact siT_rg _ _
theorem iv_says {S : tS} (h : sInv S) (s w : Int) : sInv (p_says S s w).2 := by
  unfold p_says
  exact iv_ite (fun _ => h) fun _ => iv_ite (fun _ => h) fun _ => iv_ite (fun _ => h) fun _ => h
theorem iv_holds {S : tS} (h : sInv S) (s : Int) : sInv (p_holds S s).2 := h
theorem iv_capsuleOf {S : tS} (h : sInv S) (c w : Int) : sInv (p_capsuleOf S c w).2 := by
  unfold p_capsuleOf
  exact iv_ite (fun _ => h) fun _ => h
theorem iv_tubeOf {S : tS} (h : sInv S) (c w : Int) : sInv (p_tubeOf S c w).2 := by
  unfold p_tubeOf
  exact iv_ite (fun _ => h) fun _ => h
theorem iv_signed {S : tS} (h : sInv S) (d : Int) : sInv (p_signed S d).2 := by
  unfold p_signed
  exact iv_ite (fun _ => h) fun _ => h
theorem iv_time {S : tS} (h : sInv S) (c t : Int) : sInv (p_time S c t).2 := by
  unfold p_time
  exact iv_ite (fun _ => h) fun _ => h
theorem iv_trace {S : tS} (h : sInv S) (i : Int) : sInv (p_trace S i).2 := h
theorem iv_judge {S : tS} (h : sInv S) (s n : Int) : sInv (p_judge S s n).2 := by
  unfold p_judge
  exact iv_ite (fun _ => h) fun _ => iv_ite (fun _ => h) fun _ => h
theorem iv_behind {S : tS} (h : sInv S) (s n w : Int) : sInv (p_behind S s n w).2 := by
  unfold p_behind
  exact iv_ite (fun _ => h) fun _ => iv_ite (fun _ => h) fun _ => iv_ite (fun _ => h) fun _ => h
theorem iv_stuck {S : tS} (h : sInv S) (s n : Int) : sInv (p_stuck S s n).2 := by
  unfold p_stuck
  exact iv_ite (fun _ => h) fun _ => h
theorem iv_listen {S : tS} (h : sInv S) (s n : Int) : sInv (p_listen S s n).2 := by
  unfold p_listen
  exact iv_ite (fun _ => h) fun _ => h
theorem iv_tree {S : tS} (h : sInv S) (w : Int) : sInv (p_tree S w).2 := by
  unfold p_tree
  exact iv_ite (fun _ => h) fun _ => h
theorem iv_cut {S : tS} (h : sInv S) (c d w : Int) : sInv (p_cut S c d w).2 := by
  unfold p_cut
  exact iv_ite (fun _ => h) fun _ => iv_ite (fun _ => h) fun _ => iv_ite (fun _ => h) fun _ => h
theorem iv_way {S : tS} (h : sInv S) (c d w : Int) : sInv (p_way S c d w).2 := by
  unfold p_way
  exact iv_ite (fun _ => h) fun _ => iv_ite (fun _ => h) fun _ => h
theorem iv_within {S : tS} (h : sInv S) (c m : Int) : sInv (p_within S c m).2 := by
  unfold p_within
  exact iv_ite (fun _ => h) fun _ => iv_ite (fun _ => h) fun _ => h
theorem iv_meet {S : tS} (h : sInv S) (a b w : Int) : sInv (p_meet S a b w).2 := by
  unfold p_meet
  exact iv_ite (fun _ => h) fun _ => iv_ite (fun _ => h) fun _ => h
theorem iv_enough {S : tS} (h : sInv S) (c d m : Int) : sInv (p_enough S c d m).2 := by
  unfold p_enough
  exact iv_ite (fun _ => h) fun _ => iv_ite (fun _ => h) fun _ => h
theorem iv_seat {S : tS} (h : sInv S) (c w : Int) : sInv (p_seat S c w).2 := by
  unfold p_seat
  exact iv_ite (fun _ => h) fun _ => iv_ite (fun _ => h) fun _ => h
theorem iv_round {S : tS} (h : sInv S) (c s st i : Int) : sInv (p_round S c s st i).2 := by
  unfold p_round
  exact iv_ite (fun _ => h) fun _ => iv_ite (fun _ => h) fun _ => iv_ite (fun _ => h) fun _ => iv_ite (fun _ => h) fun _ => h
theorem iv_status {S : tS} (h : sInv S) (w : Int) : sInv (p_status S w).2 := h
