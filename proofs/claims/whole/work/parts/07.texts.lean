/-! TEXTS: charAt and length of the twelve constants, by hand -/
theorem dJ0_charAt_5068e_0 : decode cJ0_charAt_5068e 0 = .ok (.aload_n 0, 1) := by decide +kernel
theorem dJ0_charAt_5068e_1 : decode cJ0_charAt_5068e 1 = .ok (.invokevirtual 492, 3) := by decide +kernel
theorem dJ0_charAt_5068e_4 : decode cJ0_charAt_5068e 4 = .ok (.ifCond .eq 12, 3) := by decide +kernel
theorem dJ0_charAt_5068e_7 : decode cJ0_charAt_5068e 7 = .ok (.aload_n 0, 1) := by decide +kernel
theorem dJ0_charAt_5068e_8 : decode cJ0_charAt_5068e 8 = .ok (.getfield 9, 3) := by decide +kernel
theorem dJ0_charAt_5068e_11 : decode cJ0_charAt_5068e 11 = .ok (.iload_n 1, 1) := by decide +kernel
theorem dJ0_charAt_5068e_12 : decode cJ0_charAt_5068e 12 = .ok (.invokestatic 495, 3) := by decide +kernel
theorem dJ0_charAt_5068e_15 : decode cJ0_charAt_5068e 15 = .ok (.ireturn, 1) := by decide +kernel
theorem dJ0_charAt_5068e_16 : decode cJ0_charAt_5068e 16 = .ok (.aload_n 0, 1) := by decide +kernel
theorem dJ0_charAt_5068e_17 : decode cJ0_charAt_5068e 17 = .ok (.getfield 9, 3) := by decide +kernel
theorem dJ0_charAt_5068e_20 : decode cJ0_charAt_5068e 20 = .ok (.iload_n 1, 1) := by decide +kernel
theorem dJ0_charAt_5068e_21 : decode cJ0_charAt_5068e 21 = .ok (.invokestatic 498, 3) := by decide +kernel
theorem dJ0_charAt_5068e_24 : decode cJ0_charAt_5068e 24 = .ok (.ireturn, 1) := by decide +kernel
theorem dJ0_isLatin1_aae02_0 : decode cJ0_isLatin1_aae02 0 = .ok (.getstatic 38, 3) := by decide +kernel
theorem dJ0_isLatin1_aae02_3 : decode cJ0_isLatin1_aae02 3 = .ok (.ifCond .eq 14, 3) := by decide +kernel
theorem dJ0_isLatin1_aae02_6 : decode cJ0_isLatin1_aae02 6 = .ok (.aload_n 0, 1) := by decide +kernel
theorem dJ0_isLatin1_aae02_7 : decode cJ0_isLatin1_aae02 7 = .ok (.getfield 15, 3) := by decide +kernel
theorem dJ0_isLatin1_aae02_10 : decode cJ0_isLatin1_aae02 10 = .ok (.ifCond .ne 7, 3) := by decide +kernel
theorem dJ0_isLatin1_aae02_13 : decode cJ0_isLatin1_aae02 13 = .ok (.iconst 1, 1) := by decide +kernel
theorem dJ0_isLatin1_aae02_14 : decode cJ0_isLatin1_aae02 14 = .ok (.goto 4, 3) := by decide +kernel
theorem dJ0_isLatin1_aae02_17 : decode cJ0_isLatin1_aae02 17 = .ok (.iconst 0, 1) := by decide +kernel
theorem dJ0_isLatin1_aae02_18 : decode cJ0_isLatin1_aae02 18 = .ok (.ireturn, 1) := by decide +kernel
theorem dJ1_charAt_3b067_0 : decode cJ1_charAt_3b067 0 = .ok (.iload_n 1, 1) := by decide +kernel
theorem dJ1_charAt_3b067_1 : decode cJ1_charAt_3b067 1 = .ok (.aload_n 0, 1) := by decide +kernel
theorem dJ1_charAt_3b067_2 : decode cJ1_charAt_3b067 2 = .ok (.arraylength, 1) := by decide +kernel
theorem dJ1_charAt_3b067_3 : decode cJ1_charAt_3b067 3 = .ok (.invokestatic 9, 3) := by decide +kernel
theorem dJ1_charAt_3b067_6 : decode cJ1_charAt_3b067 6 = .ok (.aload_n 0, 1) := by decide +kernel
theorem dJ1_charAt_3b067_7 : decode cJ1_charAt_3b067 7 = .ok (.iload_n 1, 1) := by decide +kernel
theorem dJ1_charAt_3b067_8 : decode cJ1_charAt_3b067 8 = .ok (.baload, 1) := by decide +kernel
theorem dJ1_charAt_3b067_9 : decode cJ1_charAt_3b067 9 = .ok (.sipush 255, 3) := by decide +kernel
theorem dJ1_charAt_3b067_12 : decode cJ1_charAt_3b067 12 = .ok (.iand, 1) := by decide +kernel
theorem dJ1_charAt_3b067_13 : decode cJ1_charAt_3b067 13 = .ok (.i2c, 1) := by decide +kernel
theorem dJ1_charAt_3b067_14 : decode cJ1_charAt_3b067 14 = .ok (.ireturn, 1) := by decide +kernel
theorem dJ0_checkIndex_df160_0 : decode cJ0_checkIndex_df160 0 = .ok (.iload_n 0, 1) := by decide +kernel
theorem dJ0_checkIndex_df160_1 : decode cJ0_checkIndex_df160 1 = .ok (.iload_n 1, 1) := by decide +kernel
theorem dJ0_checkIndex_df160_2 : decode cJ0_checkIndex_df160 2 = .ok (.getstatic 1053, 3) := by decide +kernel
theorem dJ0_checkIndex_df160_5 : decode cJ0_checkIndex_df160 5 = .ok (.invokestatic 1059, 3) := by decide +kernel
theorem dJ0_checkIndex_df160_8 : decode cJ0_checkIndex_df160 8 = .ok (.pop, 1) := by decide +kernel
theorem dJ0_checkIndex_df160_9 : decode cJ0_checkIndex_df160 9 = .ok (.return_, 1) := by decide +kernel
theorem dJ3_checkIndex_8e157_0 : decode cJ3_checkIndex_8e157 0 = .ok (.iload_n 0, 1) := by decide +kernel
theorem dJ3_checkIndex_8e157_1 : decode cJ3_checkIndex_8e157 1 = .ok (.ifCond .lt 8, 3) := by decide +kernel
theorem dJ3_checkIndex_8e157_4 : decode cJ3_checkIndex_8e157 4 = .ok (.iload_n 0, 1) := by decide +kernel
theorem dJ3_checkIndex_8e157_5 : decode cJ3_checkIndex_8e157 5 = .ok (.iload_n 1, 1) := by decide +kernel
theorem dJ3_checkIndex_8e157_6 : decode cJ3_checkIndex_8e157 6 = .ok (.if_icmp .lt 10, 3) := by decide +kernel
theorem dJ3_checkIndex_8e157_9 : decode cJ3_checkIndex_8e157 9 = .ok (.aload_n 2, 1) := by decide +kernel
theorem dJ3_checkIndex_8e157_10 : decode cJ3_checkIndex_8e157 10 = .ok (.iload_n 0, 1) := by decide +kernel
theorem dJ3_checkIndex_8e157_11 : decode cJ3_checkIndex_8e157 11 = .ok (.iload_n 1, 1) := by decide +kernel
theorem dJ3_checkIndex_8e157_12 : decode cJ3_checkIndex_8e157 12 = .ok (.invokestatic 95, 3) := by decide +kernel
theorem dJ3_checkIndex_8e157_15 : decode cJ3_checkIndex_8e157 15 = .ok (.athrow, 1) := by decide +kernel
theorem dJ3_checkIndex_8e157_16 : decode cJ3_checkIndex_8e157 16 = .ok (.iload_n 0, 1) := by decide +kernel
theorem dJ3_checkIndex_8e157_17 : decode cJ3_checkIndex_8e157 17 = .ok (.ireturn, 1) := by decide +kernel
theorem dJ0_length_8abf5_0 : decode cJ0_length_8abf5 0 = .ok (.aload_n 0, 1) := by decide +kernel
theorem dJ0_length_8abf5_1 : decode cJ0_length_8abf5 1 = .ok (.getfield 9, 3) := by decide +kernel
theorem dJ0_length_8abf5_4 : decode cJ0_length_8abf5 4 = .ok (.arraylength, 1) := by decide +kernel
theorem dJ0_length_8abf5_5 : decode cJ0_length_8abf5 5 = .ok (.aload_n 0, 1) := by decide +kernel
theorem dJ0_length_8abf5_6 : decode cJ0_length_8abf5 6 = .ok (.invokevirtual 335, 3) := by decide +kernel
theorem dJ0_length_8abf5_9 : decode cJ0_length_8abf5 9 = .ok (.ishr, 1) := by decide +kernel
theorem dJ0_length_8abf5_10 : decode cJ0_length_8abf5 10 = .ok (.ireturn, 1) := by decide +kernel
theorem dJ0_coder_7d493_0 : decode cJ0_coder_7d493 0 = .ok (.getstatic 38, 3) := by decide +kernel
theorem dJ0_coder_7d493_3 : decode cJ0_coder_7d493 3 = .ok (.ifCond .eq 10, 3) := by decide +kernel
theorem dJ0_coder_7d493_6 : decode cJ0_coder_7d493 6 = .ok (.aload_n 0, 1) := by decide +kernel
theorem dJ0_coder_7d493_7 : decode cJ0_coder_7d493 7 = .ok (.getfield 15, 3) := by decide +kernel
theorem dJ0_coder_7d493_10 : decode cJ0_coder_7d493 10 = .ok (.goto 4, 3) := by decide +kernel
theorem dJ0_coder_7d493_13 : decode cJ0_coder_7d493 13 = .ok (.iconst 1, 1) := by decide +kernel
theorem dJ0_coder_7d493_14 : decode cJ0_coder_7d493 14 = .ok (.ireturn, 1) := by decide +kernel
def eIL : tE := ([], 1, yJ0_isLatin1_aae02, cJ0_isLatin1_aae02, some .boolean, RJ0)
def eC1 : tE := ([], 2, yJ1_charAt_3b067, cJ1_charAt_3b067, some .char, RJ1)
def eCI : tE := ([], 2, yJ0_checkIndex_df160, cJ0_checkIndex_df160, none, RJ0)
def ePC : tE := ([], 3, yJ3_checkIndex_8e157, cJ3_checkIndex_8e157, some .int, RJ3)
def eCO : tE := ([], 1, yJ0_coder_7d493, cJ0_coder_7d493, some .byte, RJ0)
def ConV (l : Launch) (ad : Nat → Nat) (cA : Nat → ClassId) (DD : va_G) (D : Nat) (e : tE) (as : List Value) (M : tM) (v : Option Value) : Prop := Met l e.2.2.1 (wdE e) (room D) (va_Pc as (OKH ad cA DD M)) (QcO ad cA DD v M) 0 0 (A0 ad)
theorem vPc_blind {ad : Nat → Nat} {cA : Nat → ClassId} {DD : va_G} {as : List Value} {M : tM} : FrameBlind (va_Pc as (OKH ad cA DD M)) := by
  rintro a U g mk ⟨h1, h2, h3, h4⟩
  exact ⟨h1, h2, va_K.moved (u := U) (U := U.calling g mk a) (Vm.Alike.refl U.vm) h3, ST_same rfl h4⟩
theorem vPc_at {ad : Nat → Nat} {cA : Nat → ClassId} {DD : va_G} {as : List Value} {M : tM} {s U : State} {H : Heap} {locs : List Loc} (hK : va_K DD classes (tysA cA) s) (hP : va_P DD classes (wsO ad cA M) H) (hS : va_S (A0 ad) s.heap H locs) (hT : ST ad M s s.heap) (hU : U.heap = H) (hW : s.WarmedH U.vm) {a : Array Value} (ha : a = as.toArray) : va_Pc as (OKH ad cA DD M) a U :=
  ⟨ha, by rw [hU]; exact hP, va_K.moved hW.alike hK, by rw [hU]; exact ST_warm hW (ST_heap hT hS.1 hS.2.1)⟩
theorem con_pc (l : Launch) (ad : Nat → Nat) (cA : Nat → ClassId) (DD : va_G) (D : Nat) (M : tM) (i n : Int32) (w : Value) (hw : w.category = 1) (h0 : 0 ≤ i.toInt) (h1 : i < n) : ConV l ad cA DD D ePC [.int i, .int n, w] M (some (.int i)) := by
  refine Met.ofW (cc := cJ3_checkIndex_8e157) (maxL := 3) (ret := some .int) (by decide +kernel) rfl ?_
  intro p e s m args below meth c s₁ B hml hv
  obtain ⟨rfl, hP, hK, hT⟩ := hv
  have hX := B.exec
  have hb := B.bytes
  have hr := B.returns
  have hl := lv_entry ([.int i, .int n, w]) (n := 3) (by simp [lg_sl, hw, show (Value.int i).category = 1 from rfl, show (Value.int n).category = 1 from rfl])
  rw [lg_entry_eq]
  generalize (lg_sl ([.int i, .int n, w]) ++ List.replicate (3 - (lg_sl ([.int i, .int n, w])).length) Slot.unset).toArray = ls at hl ⊢
  have hl : lv_has ls 3 [(0, .int i), (1, .int n), (2, w)] := hl
  refine lv_iload_n hX hb dJ3_checkIndex_8e157_0 rfl (lv_at hl 0 rfl) ?_
  refine lv_if_lt (tgt := 9) hX hb dJ3_checkIndex_8e157_1 (by decide) (fun z => absurd z (nlt0 h0)) (fun _ => ?_)
  refine lv_iload_n hX hb dJ3_checkIndex_8e157_4 rfl (lv_at hl 0 rfl) ?_
  refine lv_iload_n hX hb dJ3_checkIndex_8e157_5 rfl (lv_at hl 1 rfl) ?_
  refine lv_icmp_lt (tgt := 16) hX hb dJ3_checkIndex_8e157_6 (by decide) (fun _ => ?_) (fun z => absurd h1 z)
  refine lv_iload_n hX hb dJ3_checkIndex_8e157_16 rfl (lv_at hl 0 rfl) ?_
  exact W.iret (v := i) hX hb hr (QcO_at (v := some (.int i)) hK hP va_S.rf hT) (fun _ h => by cases h) dJ3_checkIndex_8e157_17 B.notSynchronized
theorem con_ci (l : Launch) (ad : Nat → Nat) (cA : Nat → ClassId) (DD : va_G) (D : Nat) (M : tM) (i n : Int32) (h0 : 0 ≤ i.toInt) (h1 : i < n) : ConV l ad cA DD (D + 1) eCI [.int i, .int n] M none := by
  refine Met.ofW (cc := cJ0_checkIndex_df160) (maxL := 2) (ret := none) (by decide +kernel) rfl ?_
  intro p e s m args below meth c s₁ B hml hv
  obtain ⟨rfl, hP, hK, hT⟩ := hv
  have hX := B.exec
  have hb := B.bytes
  have hr := B.returns
  have hts0 := atoms_spec (ws := wdE eCI) B.pre
  have hts : ∀ w ∈ WS, w.before ([.int i, .int n] : List Value).toArray s = true := fun w hw => hts0 w (List.mem_cons_of_mem _ hw)
  have hown : s.vm.findClass RJ0 = some m.cls := findClass_of_methodNamed B.named
  have hl := lv_entry ([.int i, .int n]) (n := 2) (Nat.le_of_ble_eq_true rfl)
  rw [lg_entry_eq]
  generalize (lg_sl ([.int i, .int n]) ++ List.replicate (2 - (lg_sl ([.int i, .int n])).length) Slot.unset).toArray = ls at hl ⊢
  have hl : lv_has ls 2 [(0, .int i), (1, .int n)] := hl
  refine lv_iload_n hX hb dJ0_checkIndex_df160_0 rfl (lv_at hl 0 rfl) ?_
  refine lv_iload_n hX hb dJ0_checkIndex_df160_1 rfl (lv_at hl 1 rfl) ?_
  have key : ∀ w : Value, w.category = 1 → va_Z "jdk/internal/util/Preconditions" "SIOOBE_FORMATTER" "Ljava/util/function/BiFunction;" w (A0 ad) s s.heap → W p l e (room (D + 1)) s m ([.int i, .int n] : List Value).toArray below meth c s.heap [] 0 0 (MQ below (QcO ad cA DD none M) ([.int i, .int n] : List Value).toArray s 0 0 (A0 ad)) (F0 m 2 ls [.int n, .int i]) := by
    intro w hw hZ
    refine va_gets (ref := "jdk/internal/util/Preconditions") hX hb hZ va_S.rf hown (hts _ (wat_mem (k := 530) (by decide +kernel))) (fun _ h => h) dJ0_checkIndex_df160_2 ?_
    refine call_any (v := some (.int i)) (va_runS (As := [.int i, .int n, w]) (rest := []) ⟨hX, hb, hml, hown, hts⟩ (con_pc l ad cA DD D M i n w hw h0 h1) (va_cwS 3 hts (gin fun z hz => ?_) rfl rfl rfl (by decide +kernel) ⟨Nat.le_refl _, by show 8 + (3 + 11) + 64 * D ≤ 64 * (D + 1); omega⟩) ⟨vPc_blind, fun U hU hW => vPc_at hK hP va_S.rf hT hU hW rfl⟩ rfl rfl hl.1 rfl (lv_room (Nat.le_of_ble_eq_true rfl)) dJ0_checkIndex_df160_5 ⟨Nat.le_refl _, Nat.le_refl _⟩) va_S.rf (fun H1 locs1 hP1 hS1 => ?_)
    · unfold va_wsS wdE at hz
      simp only [List.cons_append, List.nil_append, List.mem_cons] at hz
      rcases hz with rfl | rfl | rfl | rfl | hz
      · exact wat_mem (k := 531) (by decide +kernel)
      · exact wat_mem (k := 532) (by decide +kernel)
      · exact wat_mem (k := 533) (by decide +kernel)
      · exact wat_mem (k := 534) (by decide +kernel)
      · exact hz
    · refine lv_pop hX hb dJ0_checkIndex_df160_8 rfl ?_
      exact W.vret hX hb hr (QcO_at (v := none) hK hP1 hS1 hT) hS1.2.2 dJ0_checkIndex_df160_9 B.notSynchronized
  rcases hT.2.2.2.2.2.2.1 with hZ | ⟨t, hZ⟩
  · exact key .null rfl hZ
  · exact key (.ref t) rfl hZ
theorem txNl : ∀ k, k < 6 → txN.getD k 0 = txl (130 + k) := by decide +kernel
theorem txk : ∀ k, k < 6 → ∀ j, j < 10 → j < txl (130 + k) → ((((txB.getD k []).getD j 0 &&& 255).toUInt32 % 65536).toInt32 = iI (txc (130 + k) j) ∧ narrow .char (.int (iI (txc (130 + k) j))) = .int (iI (txc (130 + k) j))) := by decide +kernel
theorem txs : ∀ k, k < 6 → txl (130 + k) < 10 := by decide +kernel
theorem con_c1 (l : Launch) (ad : Nat → Nat) (cA : Nat → ClassId) (DD : va_G) (D : Nat) (M : tM) {k : Nat} (hk : k < 6) (i : Int32) (hi : inb i (txl (130 + k))) : ConV l ad cA DD (D + 2) eC1 [.ref (ad (140 + k)), .int i] M (some (.int (iI (txc (130 + k) i.toInt.toNat)))) := by
  refine Met.ofW (cc := cJ1_charAt_3b067) (maxL := 2) (ret := some .char) (by decide +kernel) rfl ?_
  intro p e s m args below meth c s₁ B hml hv
  obtain ⟨rfl, hP, hK, hT⟩ := hv
  have hX := B.exec
  have hb := B.bytes
  have hr := B.returns
  have hts0 := atoms_spec (ws := wdE eC1) B.pre
  have hts : ∀ w ∈ WS, w.before ([.ref (ad (140 + k)), .int i] : List Value).toArray s = true := fun w hw => hts0 w (List.mem_cons_of_mem _ hw)
  have hown : s.vm.findClass RJ1 = some m.cls := findClass_of_methodNamed B.named
  have hl := lv_entry ([.ref (ad (140 + k)), .int i]) (n := 2) (Nat.le_of_ble_eq_true rfl)
  rw [lg_entry_eq]
  generalize (lg_sl ([.ref (ad (140 + k)), .int i]) ++ List.replicate (2 - (lg_sl ([.ref (ad (140 + k)), .int i])).length) Slot.unset).toArray = ls at hl ⊢
  have hl : lv_has ls 2 [(0, .ref (ad (140 + k))), (1, .int i)] := hl
  have hTb := (hT.2.2.2.1.1 k hk).2.2.2
  rw [txNl k hk] at hTb
  have h10 := txs k hk
  have hlt : i < Int32.ofNat (txl (130 + k)) := by
    rw [iI_nat]
    apply Int32.lt_iff_toInt_lt.mpr
    rw [iI_toInt (by omega) (by omega)]
    exact hi.2
  refine lv_iload_n hX hb dJ1_charAt_3b067_0 rfl (lv_at hl 1 rfl) ?_
  refine lv_aload_n hX hb dJ1_charAt_3b067_1 rfl (lv_at hl 0 rfl) ?_
  refine va_tlen hX hb hTb va_S.rf rfl dJ1_charAt_3b067_2 ?_
  refine call_any (v := none) (va_runS (As := [.int i, .int (Int32.ofNat (txl (130 + k)))]) (rest := []) ⟨hX, hb, hml, hown, hts⟩ (con_ci l ad cA DD D M i _ hi.1 hlt) (va_cwS 2 hts (gin fun z hz => ?_) rfl rfl rfl (by decide +kernel) ⟨Nat.le_refl _, by show 8 + (2 + 11) + 64 * (D + 1) ≤ 64 * (D + 2); omega⟩) ⟨vPc_blind, fun U hU hW => vPc_at hK hP va_S.rf hT hU hW rfl⟩ rfl rfl hl.1 rfl (lv_room (Nat.le_of_ble_eq_true rfl)) dJ1_charAt_3b067_3 ⟨Nat.le_refl _, Nat.le_refl _⟩) va_S.rf (fun H1 locs1 hP1 hS1 => ?_)
  · unfold va_wsS wdE at hz
    simp only [List.cons_append, List.nil_append, List.mem_cons] at hz
    rcases hz with rfl | rfl | rfl | rfl | hz
    · exact wat_mem (k := 527) (by decide +kernel)
    · exact wat_mem (k := 528) (by decide +kernel)
    · exact wat_mem (k := 514) (by decide +kernel)
    · exact wat_mem (k := 529) (by decide +kernel)
    · exact hz
  · refine lv_aload_n hX hb dJ1_charAt_3b067_6 rfl (lv_at hl 0 rfl) ?_
    refine lv_iload_n hX hb dJ1_charAt_3b067_7 rfl (lv_at hl 1 rfl) ?_
    refine va_tb (v := .int ((txB.getD k []).getD i.toInt.toNat 0)) hX hb hTb hS1 (vp_in_iff.mpr hi) rfl dJ1_charAt_3b067_8 ?_
    refine lv_sipush (v := 255) hX hb dJ1_charAt_3b067_9 (by decide) ?_
    refine lv_iand hX hb dJ1_charAt_3b067_12 ?_
    obtain ⟨t1, t2⟩ := txk k hk i.toInt.toNat (by have := hi.1; have := hi.2; omega) (by have := hi.1; have := hi.2; omega)
    refine lv_i2c hX hb dJ1_charAt_3b067_13 t1 ?_
    exact W.zret (v := iI (txc (130 + k) i.toInt.toNat)) (ty := .char) hX hb hr t2 (QcO_at (v := some (.int (iI (txc (130 + k) i.toInt.toNat)))) hK hP1 hS1 hT) hS1.2.2 dJ1_charAt_3b067_14 B.notSynchronized
theorem con_il (l : Launch) (ad : Nat → Nat) (cA : Nat → ClassId) (DD : va_G) (D : Nat) (M : tM) {k : Nat} (hk : k < 6) : ConV l ad cA DD D eIL [.ref (ad (130 + k))] M (some (.int 1)) := by
  refine Met.ofW (cc := cJ0_isLatin1_aae02) (maxL := 1) (ret := some .boolean) (by decide +kernel) rfl ?_
  intro p e s m args below meth c s₁ B hml hv
  obtain ⟨rfl, hP, hK, hT⟩ := hv
  have hX := B.exec
  have hb := B.bytes
  have hr := B.returns
  have hts0 := atoms_spec (ws := wdE eIL) B.pre
  have hts : ∀ w ∈ WS, w.before ([.ref (ad (130 + k))] : List Value).toArray s = true := fun w hw => hts0 w (List.mem_cons_of_mem _ hw)
  have hown : s.vm.findClass RJ0 = some m.cls := findClass_of_methodNamed B.named
  have hl := lv_entry ([.ref (ad (130 + k))]) (n := 1) (Nat.le_of_ble_eq_true rfl)
  rw [lg_entry_eq]
  generalize (lg_sl ([.ref (ad (130 + k))]) ++ List.replicate (1 - (lg_sl ([.ref (ad (130 + k))])).length) Slot.unset).toArray = ls at hl ⊢
  have hl : lv_has ls 1 [(0, .ref (ad (130 + k)))] := hl
  refine va_gets (ref := "java/lang/String") hX hb hT.2.2.2.2.2.1 va_S.rf hown (hts _ (wat_mem (k := 521) (by decide +kernel))) (fun _ h => h) dJ0_isLatin1_aae02_0 ?_
  refine lv_if_eq (tgt := 17) hX hb dJ0_isLatin1_aae02_3 (by decide) (fun z => absurd z (by decide)) (fun _ => ?_)
  refine lv_aload_n hX hb dJ0_isLatin1_aae02_6 rfl (lv_at hl 0 rfl) ?_
  refine va_getX (N := 6) (v := fun _ => .int 0) (ad := fun k => ad (130 + k)) (i := k) (o := "java/lang/String") (n := "coder") (d := "B") (ref := "java/lang/String") hX hb (fun j hj => (hT.2.2.2.1.1 j hj).2.1) hk va_S.rf hown (hts _ (wat_mem (k := 522) (by decide +kernel))) (fun _ h => h) dJ0_isLatin1_aae02_7 ?_
  refine lv_if_ne (tgt := 17) hX hb dJ0_isLatin1_aae02_10 (by decide) (fun z => absurd rfl z) (fun _ => ?_)
  refine lv_iconst (v := 1) hX hb dJ0_isLatin1_aae02_13 (by decide) ?_
  refine lv_goto (tgt := 18) hX hb dJ0_isLatin1_aae02_14 (by decide) ?_
  exact W.zret (v := 1) (ty := .boolean) hX hb hr rfl (QcO_at (v := some (.int 1)) hK hP va_S.rf hT) (fun _ h => by cases h) dJ0_isLatin1_aae02_18 B.notSynchronized
theorem con_co (l : Launch) (ad : Nat → Nat) (cA : Nat → ClassId) (DD : va_G) (D : Nat) (M : tM) {k : Nat} (hk : k < 6) : ConV l ad cA DD D eCO [.ref (ad (130 + k))] M (some (.int 0)) := by
  refine Met.ofW (cc := cJ0_coder_7d493) (maxL := 1) (ret := some .byte) (by decide +kernel) rfl ?_
  intro p e s m args below meth c s₁ B hml hv
  obtain ⟨rfl, hP, hK, hT⟩ := hv
  have hX := B.exec
  have hb := B.bytes
  have hr := B.returns
  have hts0 := atoms_spec (ws := wdE eCO) B.pre
  have hts : ∀ w ∈ WS, w.before ([.ref (ad (130 + k))] : List Value).toArray s = true := fun w hw => hts0 w (List.mem_cons_of_mem _ hw)
  have hown : s.vm.findClass RJ0 = some m.cls := findClass_of_methodNamed B.named
  have hl := lv_entry ([.ref (ad (130 + k))]) (n := 1) (Nat.le_of_ble_eq_true rfl)
  rw [lg_entry_eq]
  generalize (lg_sl ([.ref (ad (130 + k))]) ++ List.replicate (1 - (lg_sl ([.ref (ad (130 + k))])).length) Slot.unset).toArray = ls at hl ⊢
  have hl : lv_has ls 1 [(0, .ref (ad (130 + k)))] := hl
  refine va_gets (ref := "java/lang/String") hX hb hT.2.2.2.2.2.1 va_S.rf hown (hts _ (wat_mem (k := 521) (by decide +kernel))) (fun _ h => h) dJ0_coder_7d493_0 ?_
  refine lv_if_eq (tgt := 13) hX hb dJ0_coder_7d493_3 (by decide) (fun z => absurd z (by decide)) (fun _ => ?_)
  refine lv_aload_n hX hb dJ0_coder_7d493_6 rfl (lv_at hl 0 rfl) ?_
  refine va_getX (N := 6) (v := fun _ => .int 0) (ad := fun k => ad (130 + k)) (i := k) (o := "java/lang/String") (n := "coder") (d := "B") (ref := "java/lang/String") hX hb (fun j hj => (hT.2.2.2.1.1 j hj).2.1) hk va_S.rf hown (hts _ (wat_mem (k := 522) (by decide +kernel))) (fun _ h => h) dJ0_coder_7d493_7 ?_
  refine lv_goto (tgt := 14) hX hb dJ0_coder_7d493_10 (by decide) ?_
  exact W.zret (v := 0) (ty := .byte) hX hb hr rfl (QcO_at (v := some (.int 0)) hK hP va_S.rf hT) (fun _ h => by cases h) dJ0_coder_7d493_14 B.notSynchronized
theorem tx_recv {ad : Nat → Nat} {M : tM} {s : State} {H : Heap} {locs : List Loc} {k : Nat} (hk : k < 6) (hS : va_S (A0 ad) s.heap H locs) (hT : ST ad M s s.heap) : ∃ cellB : Cell, H[ad (130 + k)]? = some cellB ∧ cellB.vm.isStatics = false ∧ s.vm.findClass "java/lang/String" = some cellB.cls := by
  obtain ⟨cell, q1, q2, q3, q4⟩ := ((ST_heap hT hS.1 hS.2.1).2.2.2.1.1 k hk).1
  exact ⟨cell, q1, q2, q3⟩
theorem con_300 (l : Launch) (ad : Nat → Nat) (cA : Nat → ClassId) (DD : va_G) (D : Nat) (M : tM) {k : Nat} (hk : k < 6) (i : Int32) (hi : inb i (txl (130 + k))) : Con l ad cA DD (D + 3) e300 [.ref (130 + k), .int i] M (some (.int (iI (txc (130 + k) i.toInt.toNat)))) M := by
  refine Met.ofW (cc := cJ0_charAt_5068e) (maxL := 2) (ret := some .char) (by decide +kernel) rfl ?_
  intro p e s m args below meth c s₁ B hml hv
  obtain ⟨rfl, hP, hK, hT⟩ := hv
  have hX := B.exec
  have hb := B.bytes
  have hr := B.returns
  have hts0 := atoms_spec (ws := wdE e300) B.pre
  have hts : ∀ w ∈ WS, w.before ([.ref (ad (130 + k)), .int i] : List Value).toArray s = true := fun w hw => hts0 w (List.mem_cons_of_mem _ hw)
  have hown : s.vm.findClass RJ0 = some m.cls := findClass_of_methodNamed B.named
  show W p l e _ s m ([.ref (ad (130 + k)), .int i] : List Value).toArray below meth c s.heap [] 0 0 _ (entryFrame m ([.ref (ad (130 + k)), .int i] : List Value).toArray 2)
  have hl := lv_entry ([.ref (ad (130 + k)), .int i]) (n := 2) (Nat.le_of_ble_eq_true rfl)
  rw [lg_entry_eq]
  generalize (lg_sl ([.ref (ad (130 + k)), .int i]) ++ List.replicate (2 - (lg_sl ([.ref (ad (130 + k)), .int i])).length) Slot.unset).toArray = ls at hl ⊢
  have hl : lv_has ls 2 [(0, .ref (ad (130 + k))), (1, .int i)] := hl
  refine lv_aload_n hX hb dJ0_charAt_5068e_0 rfl (lv_at hl 0 rfl) ?_
  refine call_any (v := some (.int 1)) (va_runV (As := []) (rest := []) ⟨hX, hb, hml, hown, hts⟩ (con_il l ad cA DD (D + 2) M hk) (cwV 0 hts (gin fun z hz => ?_) rfl rfl rfl (by decide +kernel) ⟨Nat.le_refl _, by show 8 + (1 + 11) + 64 * (D + 2) ≤ 64 * (D + 3); omega⟩) ⟨vPc_blind, tx_recv hk va_S.rf hT, fun U hU hW => vPc_at hK hP va_S.rf hT hU hW rfl⟩ rfl rfl hl.1 rfl (lv_room (Nat.le_of_ble_eq_true rfl)) dJ0_charAt_5068e_1 ⟨Nat.le_refl _, Nat.le_refl _⟩) va_S.rf (fun H1 locs1 hP1 hS1 => ?_)
  · unfold wsV wdE at hz
    simp only [List.cons_append, List.nil_append, List.mem_cons] at hz
    rcases hz with rfl | rfl | rfl | rfl | rfl | hz
    · exact wat_mem (k := 517) (by decide +kernel)
    · exact wat_mem (k := 518) (by decide +kernel)
    · exact wat_mem (k := 519) (by decide +kernel)
    · exact wat_mem (k := 514) (by decide +kernel)
    · exact wat_mem (k := 520) (by decide +kernel)
    · exact hz
  · refine lv_if_eq (x := 1) (tgt := 16) hX hb dJ0_charAt_5068e_4 (by decide) (fun z => absurd z (by decide)) (fun _ => ?_)
    refine lv_aload_n hX hb dJ0_charAt_5068e_7 rfl (lv_at hl 0 rfl) ?_
    refine va_getX (N := 6) (v := fun k => .ref (ad (140 + k))) (ad := fun k => ad (130 + k)) (i := k) (o := "java/lang/String") (n := "value") (d := "[B") (ref := "java/lang/String") hX hb (fun j hj => (hT.2.2.2.1.1 j hj).2.2.1) hk hS1 hown (hts _ (wat_mem (k := 516) (by decide +kernel))) (fun _ h => h) dJ0_charAt_5068e_8 ?_
    refine lv_iload_n hX hb dJ0_charAt_5068e_11 rfl (lv_at hl 1 rfl) ?_
    refine call_any (v := some (.int (iI (txc (130 + k) i.toInt.toNat)))) (va_runS (As := [.ref (ad (140 + k)), .int i]) (rest := []) ⟨hX, hb, hml, hown, hts⟩ (con_c1 l ad cA DD D M hk i hi) (va_cwS 2 hts (gin fun z hz => ?_) rfl rfl rfl (by decide +kernel) ⟨Nat.le_refl _, by show 8 + (2 + 11) + 64 * (D + 2) ≤ 64 * (D + 3); omega⟩) ⟨vPc_blind, fun U hU hW => vPc_at hK hP1 hS1 hT hU hW rfl⟩ rfl rfl hl.1 rfl (lv_room (Nat.le_of_ble_eq_true rfl)) dJ0_charAt_5068e_12 ⟨Nat.le_refl _, Nat.le_refl _⟩) hS1 (fun H2 locs2 hP2 hS2 => ?_)
    · unfold va_wsS wdE at hz
      simp only [List.cons_append, List.nil_append, List.mem_cons] at hz
      rcases hz with rfl | rfl | rfl | rfl | hz
      · exact wat_mem (k := 523) (by decide +kernel)
      · exact wat_mem (k := 524) (by decide +kernel)
      · exact wat_mem (k := 525) (by decide +kernel)
      · exact wat_mem (k := 526) (by decide +kernel)
      · exact hz
    · obtain ⟨t1, t2⟩ := txk k hk i.toInt.toNat (by have := hi.1; have := hi.2; have := txs k hk; omega) (by have := hi.1; have := hi.2; omega)
      exact W.zret (v := iI (txc (130 + k) i.toInt.toNat)) (ty := .char) hX hb hr t2 (QcO_at (v := some (.int (iI (txc (130 + k) i.toInt.toNat)))) hK hP2 hS2 hT) hS2.2.2 dJ0_charAt_5068e_15 B.notSynchronized
theorem txsh : ∀ k, k < 6 → Int32.ofNat (txl (130 + k)) >>> ((0 : Int32) &&& 31) = iI (txl (130 + k) : Int) := by decide +kernel
theorem con_301 (l : Launch) (ad : Nat → Nat) (cA : Nat → ClassId) (DD : va_G) (D : Nat) (M : tM) {k : Nat} (hk : k < 6) : Con l ad cA DD (D + 1) e301 [.ref (130 + k)] M (some (.int (iI (txl (130 + k) : Int)))) M := by
  refine Met.ofW (cc := cJ0_length_8abf5) (maxL := 1) (ret := some .int) (by decide +kernel) rfl ?_
  intro p e s m args below meth c s₁ B hml hv
  obtain ⟨rfl, hP, hK, hT⟩ := hv
  have hX := B.exec
  have hb := B.bytes
  have hr := B.returns
  have hts0 := atoms_spec (ws := wdE e301) B.pre
  have hts : ∀ w ∈ WS, w.before ([.ref (ad (130 + k))] : List Value).toArray s = true := fun w hw => hts0 w (List.mem_cons_of_mem _ hw)
  have hown : s.vm.findClass RJ0 = some m.cls := findClass_of_methodNamed B.named
  show W p l e _ s m ([.ref (ad (130 + k))] : List Value).toArray below meth c s.heap [] 0 0 _ (entryFrame m ([.ref (ad (130 + k))] : List Value).toArray 1)
  have hl := lv_entry ([.ref (ad (130 + k))]) (n := 1) (Nat.le_of_ble_eq_true rfl)
  rw [lg_entry_eq]
  generalize (lg_sl ([.ref (ad (130 + k))]) ++ List.replicate (1 - (lg_sl ([.ref (ad (130 + k))])).length) Slot.unset).toArray = ls at hl ⊢
  have hl : lv_has ls 1 [(0, .ref (ad (130 + k)))] := hl
  have hTb := (hT.2.2.2.1.1 k hk).2.2.2
  rw [txNl k hk] at hTb
  refine lv_aload_n hX hb dJ0_length_8abf5_0 rfl (lv_at hl 0 rfl) ?_
  refine va_getX (N := 6) (v := fun k => .ref (ad (140 + k))) (ad := fun k => ad (130 + k)) (i := k) (o := "java/lang/String") (n := "value") (d := "[B") (ref := "java/lang/String") hX hb (fun j hj => (hT.2.2.2.1.1 j hj).2.2.1) hk va_S.rf hown (hts _ (wat_mem (k := 516) (by decide +kernel))) (fun _ h => h) dJ0_length_8abf5_1 ?_
  refine va_tlen hX hb hTb va_S.rf rfl dJ0_length_8abf5_4 ?_
  refine lv_aload_n hX hb dJ0_length_8abf5_5 rfl (lv_at hl 0 rfl) ?_
  refine call_any (v := some (.int 0)) (va_runV (As := []) (rest := [.int (Int32.ofNat (txl (130 + k)))]) ⟨hX, hb, hml, hown, hts⟩ (con_co l ad cA DD D M hk) (cwV 0 hts (gin fun z hz => ?_) rfl rfl rfl (by decide +kernel) ⟨Nat.le_refl _, by show 8 + (1 + 11) + 64 * D ≤ 64 * (D + 1); omega⟩) ⟨vPc_blind, tx_recv hk va_S.rf hT, fun U hU hW => vPc_at hK hP va_S.rf hT hU hW rfl⟩ rfl rfl hl.1 rfl (lv_room (Nat.le_of_ble_eq_true rfl)) dJ0_length_8abf5_6 ⟨Nat.le_refl _, Nat.le_refl _⟩) va_S.rf (fun H1 locs1 hP1 hS1 => ?_)
  · unfold wsV wdE at hz
    simp only [List.cons_append, List.nil_append, List.mem_cons] at hz
    rcases hz with rfl | rfl | rfl | rfl | rfl | hz
    · exact wat_mem (k := 564) (by decide +kernel)
    · exact wat_mem (k := 565) (by decide +kernel)
    · exact wat_mem (k := 566) (by decide +kernel)
    · exact wat_mem (k := 514) (by decide +kernel)
    · exact wat_mem (k := 567) (by decide +kernel)
    · exact hz
  · refine lv_ishr (y := 0) hX hb dJ0_length_8abf5_9 ?_
    rw [txsh k hk]
    exact W.iret (v := iI (txl (130 + k) : Int)) hX hb hr (QcO_at (v := some (.int (iI (txl (130 + k) : Int)))) hK hP1 hS1 hT) hS1.2.2 dJ0_length_8abf5_10 B.notSynchronized
/-- every method of the table, at every depth -/
theorem ca_all (l : Launch) {ad : Nat → Nat} (cA : Nat → ClassId) (DD : va_G) (hI : adI ad)
    (hchk : ∀ (y : Nat) (e : tE), mtl[y]? = some e → e.1.all (okI e.2.2.2.2.2 e.2.2.2.1 e.2.1 (lwl.getD y [])) = true ∧ (y ≠ 242 → okM e (mpl.getD y []) = true))
    (h300 : okM e300 mp300 = true) (h301 : okM e301 mp301 = true) (hrt : ∀ (y : Nat) (e : tE), mtl[y]? = some e → y ≠ 242 → e.1.all (okT e.2.2.2.2.1) = true) :
    ∀ (D y : Nat) (as : List Value) (M : tM) (v : Option Value) (M' : tM), exF D y as M = some (v, M') → cOK l ad cA DD D y as M v M' := by
  intro D
  induction D with
  | zero => intro y as M v M' h; simp [exF] at h
  | succ D ih =>
    intro y as M v M' h
    simp only [exF] at h
    split at h
    · rename_i hy
      subst hy
      unfold chA at h
      split at h
      · rename_i s i
        split at h
        · rename_i hc
          cases h
          obtain ⟨⟨h5, hs1, hs2⟩, hi⟩ := hc
          obtain ⟨k, rfl⟩ : ∃ k : Nat, s = 130 + k := ⟨s - 130, (Nat.add_sub_cancel' hs1).symm⟩
          have hk6 : k < 6 := Nat.lt_of_add_lt_add_left (show 130 + k < 130 + 6 from hs2)
          refine ⟨kp_rf, fun _ => ⟨e300, rfl, ⟨mp300, h300, fun z => absurd z (by decide), fun _ => ⟨rfl, rfl⟩⟩, ?_⟩⟩
          have := con_300 l ad cA DD (D - 2) M (k := k) hk6 i hi
          rwa [show D - 2 + 3 = D + 1 by omega] at this
        · cases h
      · cases h
    · split at h
      · rename_i hy
        subst hy
        unfold lnA at h
        split at h
        · rename_i s
          split at h
          · rename_i hc
            cases h
            obtain ⟨h5, hs1, hs2⟩ := hc
            obtain ⟨k, rfl⟩ : ∃ k : Nat, s = 130 + k := ⟨s - 130, (Nat.add_sub_cancel' hs1).symm⟩
            have hk6 : k < 6 := Nat.lt_of_add_lt_add_left (show 130 + k < 130 + 6 from hs2)
            exact ⟨kp_rf, fun _ => ⟨e301, rfl, ⟨mp301, h301, fun z => absurd z (by decide), fun _ => ⟨rfl, rfl⟩⟩, con_301 l ad cA DD D M (k := k) hk6⟩⟩
          · cases h
        · cases h
      · rename_i hy0 hy1
        split at h
        · rename_i e he
          split at h
          · rename_i hc
            obtain ⟨n, hn⟩ := rn_ex h
            refine ⟨runN_kp (fun y as M v M' q => (ih y as M v M' q).1) _ _ _ _ _ _ _ hn, fun hy => ?_⟩
            have hlt := (List.getElem?_eq_some_iff.mp he).1
            have hl239 : mtl.length ≤ 300 := by decide +kernel
            have hlaw : y ≠ 242 := by
              rintro rfl
              rcases hy with hy | hy
              · exact hy (by decide +kernel)
              · omega
            obtain ⟨g1, g2⟩ := hchk y e he
            refine ⟨e, by unfold mif; rw [if_neg hy0, if_neg hy1]; exact he, ⟨mpl.getD y [], g2 hlaw, fun _ => rfl, fun z => by omega⟩, ?_⟩
            exact con_of hI (g2 hlaw) g1 (hrt y e he hlaw) ih hc.1 hc.2 hn
          · cases h
        · cases h
