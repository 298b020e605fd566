/-! THE MAKER of the whole class -/
theorem dk_X10_init_0 : decode cX10_init 0 = .ok (.aload_n 0, 1) := by decide +kernel
theorem dk_X10_init_1 : decode cX10_init 1 = .ok (.invokespecial 1, 3) := by decide +kernel
theorem dk_X10_init_4 : decode cX10_init 4 = .ok (.aload_n 0, 1) := by decide +kernel
theorem dk_X10_init_5 : decode cX10_init 5 = .ok (.new 7, 3) := by decide +kernel
theorem dk_X10_init_8 : decode cX10_init 8 = .ok (.dup, 1) := by decide +kernel
theorem dk_X10_init_9 : decode cX10_init 9 = .ok (.invokespecial 9, 3) := by decide +kernel
theorem dk_X10_init_12 : decode cX10_init 12 = .ok (.putfield 10, 3) := by decide +kernel
theorem dk_X10_init_15 : decode cX10_init 15 = .ok (.aload_n 0, 1) := by decide +kernel
theorem dk_X10_init_16 : decode cX10_init 16 = .ok (.new 7, 3) := by decide +kernel
theorem dk_X10_init_19 : decode cX10_init 19 = .ok (.dup, 1) := by decide +kernel
theorem dk_X10_init_20 : decode cX10_init 20 = .ok (.invokespecial 9, 3) := by decide +kernel
theorem dk_X10_init_23 : decode cX10_init 23 = .ok (.putfield 16, 3) := by decide +kernel
theorem dk_X10_init_26 : decode cX10_init 26 = .ok (.aload_n 0, 1) := by decide +kernel
theorem dk_X10_init_27 : decode cX10_init 27 = .ok (.new 7, 3) := by decide +kernel
theorem dk_X10_init_30 : decode cX10_init 30 = .ok (.dup, 1) := by decide +kernel
theorem dk_X10_init_31 : decode cX10_init 31 = .ok (.invokespecial 9, 3) := by decide +kernel
theorem dk_X10_init_34 : decode cX10_init 34 = .ok (.putfield 19, 3) := by decide +kernel
theorem dk_X10_init_37 : decode cX10_init 37 = .ok (.aload_n 0, 1) := by decide +kernel
theorem dk_X10_init_38 : decode cX10_init 38 = .ok (.new 22, 3) := by decide +kernel
theorem dk_X10_init_41 : decode cX10_init 41 = .ok (.dup, 1) := by decide +kernel
theorem dk_X10_init_42 : decode cX10_init 42 = .ok (.invokespecial 24, 3) := by decide +kernel
theorem dk_X10_init_45 : decode cX10_init 45 = .ok (.putfield 25, 3) := by decide +kernel
theorem dk_X10_init_48 : decode cX10_init 48 = .ok (.aload_n 0, 1) := by decide +kernel
theorem dk_X10_init_49 : decode cX10_init 49 = .ok (.new 29, 3) := by decide +kernel
theorem dk_X10_init_52 : decode cX10_init 52 = .ok (.dup, 1) := by decide +kernel
theorem dk_X10_init_53 : decode cX10_init 53 = .ok (.invokespecial 31, 3) := by decide +kernel
theorem dk_X10_init_56 : decode cX10_init 56 = .ok (.putfield 32, 3) := by decide +kernel
theorem dk_X10_init_59 : decode cX10_init 59 = .ok (.aload_n 0, 1) := by decide +kernel
theorem dk_X10_init_60 : decode cX10_init 60 = .ok (.new 36, 3) := by decide +kernel
theorem dk_X10_init_63 : decode cX10_init 63 = .ok (.dup, 1) := by decide +kernel
theorem dk_X10_init_64 : decode cX10_init 64 = .ok (.invokespecial 38, 3) := by decide +kernel
theorem dk_X10_init_67 : decode cX10_init 67 = .ok (.putfield 39, 3) := by decide +kernel
theorem dk_X10_init_70 : decode cX10_init 70 = .ok (.aload_n 0, 1) := by decide +kernel
theorem dk_X10_init_71 : decode cX10_init 71 = .ok (.new 43, 3) := by decide +kernel
theorem dk_X10_init_74 : decode cX10_init 74 = .ok (.dup, 1) := by decide +kernel
theorem dk_X10_init_75 : decode cX10_init 75 = .ok (.invokespecial 45, 3) := by decide +kernel
theorem dk_X10_init_78 : decode cX10_init 78 = .ok (.putfield 46, 3) := by decide +kernel
theorem dk_X10_init_81 : decode cX10_init 81 = .ok (.aload_n 0, 1) := by decide +kernel
theorem dk_X10_init_82 : decode cX10_init 82 = .ok (.new 50, 3) := by decide +kernel
theorem dk_X10_init_85 : decode cX10_init 85 = .ok (.dup, 1) := by decide +kernel
theorem dk_X10_init_86 : decode cX10_init 86 = .ok (.invokespecial 52, 3) := by decide +kernel
theorem dk_X10_init_89 : decode cX10_init 89 = .ok (.putfield 53, 3) := by decide +kernel
theorem dk_X10_init_92 : decode cX10_init 92 = .ok (.aload_n 0, 1) := by decide +kernel
theorem dk_X10_init_93 : decode cX10_init 93 = .ok (.new 57, 3) := by decide +kernel
theorem dk_X10_init_96 : decode cX10_init 96 = .ok (.dup, 1) := by decide +kernel
theorem dk_X10_init_97 : decode cX10_init 97 = .ok (.invokespecial 59, 3) := by decide +kernel
theorem dk_X10_init_100 : decode cX10_init 100 = .ok (.putfield 60, 3) := by decide +kernel
theorem dk_X10_init_103 : decode cX10_init 103 = .ok (.aload_n 0, 1) := by decide +kernel
theorem dk_X10_init_104 : decode cX10_init 104 = .ok (.new 64, 3) := by decide +kernel
theorem dk_X10_init_107 : decode cX10_init 107 = .ok (.dup, 1) := by decide +kernel
theorem dk_X10_init_108 : decode cX10_init 108 = .ok (.invokespecial 66, 3) := by decide +kernel
theorem dk_X10_init_111 : decode cX10_init 111 = .ok (.putfield 67, 3) := by decide +kernel
theorem dk_X10_init_114 : decode cX10_init 114 = .ok (.aload_n 0, 1) := by decide +kernel
theorem dk_X10_init_115 : decode cX10_init 115 = .ok (.new 71, 3) := by decide +kernel
theorem dk_X10_init_118 : decode cX10_init 118 = .ok (.dup, 1) := by decide +kernel
theorem dk_X10_init_119 : decode cX10_init 119 = .ok (.invokespecial 73, 3) := by decide +kernel
theorem dk_X10_init_122 : decode cX10_init 122 = .ok (.putfield 74, 3) := by decide +kernel
theorem dk_X10_init_125 : decode cX10_init 125 = .ok (.aload_n 0, 1) := by decide +kernel
theorem dk_X10_init_126 : decode cX10_init 126 = .ok (.new 78, 3) := by decide +kernel
theorem dk_X10_init_129 : decode cX10_init 129 = .ok (.dup, 1) := by decide +kernel
theorem dk_X10_init_130 : decode cX10_init 130 = .ok (.invokespecial 80, 3) := by decide +kernel
theorem dk_X10_init_133 : decode cX10_init 133 = .ok (.putfield 81, 3) := by decide +kernel
theorem dk_X10_init_136 : decode cX10_init 136 = .ok (.aload_n 0, 1) := by decide +kernel
theorem dk_X10_init_137 : decode cX10_init 137 = .ok (.bipush 8, 2) := by decide +kernel
theorem dk_X10_init_139 : decode cX10_init 139 = .ok (.newarray .int, 2) := by decide +kernel
theorem dk_X10_init_141 : decode cX10_init 141 = .ok (.putfield 85, 3) := by decide +kernel
theorem dk_X10_init_144 : decode cX10_init 144 = .ok (.aload_n 0, 1) := by decide +kernel
theorem dk_X10_init_145 : decode cX10_init 145 = .ok (.iconst 0, 1) := by decide +kernel
theorem dk_X10_init_146 : decode cX10_init 146 = .ok (.putfield 89, 3) := by decide +kernel
theorem dk_X10_init_149 : decode cX10_init 149 = .ok (.aload_n 0, 1) := by decide +kernel
theorem dk_X10_init_150 : decode cX10_init 150 = .ok (.iconst (-1), 1) := by decide +kernel
theorem dk_X10_init_151 : decode cX10_init 151 = .ok (.putfield 93, 3) := by decide +kernel
theorem dk_X10_init_154 : decode cX10_init 154 = .ok (.return_, 1) := by decide +kernel
def dfX10 : List Value := [.null, .null, .null, .null, .null, .null, .null, .null, .null, .null, .null, .null, .null, .int 0, .int 0]
theorem dfX10_ok : ∀ j, j < 15 → defaultValue (tyX10 j) = vp_V dfX10 j := by
  intro j hj
  match j, hj with
  | 0, _ => rfl
  | 1, _ => rfl
  | 2, _ => rfl
  | 3, _ => rfl
  | 4, _ => rfl
  | 5, _ => rfl
  | 6, _ => rfl
  | 7, _ => rfl
  | 8, _ => rfl
  | 9, _ => rfl
  | 10, _ => rfl
  | 11, _ => rfl
  | 12, _ => rfl
  | 13, _ => rfl
  | 14, _ => rfl
  | j + 15, h => exact absurd h (by omega)
abbrev wX10 (cA : Nat → ClassId) (h0 q5 q5_1 q5_2 q5_3 q5_4 q5_5 q5_6 q5_7 q5_8 q5_9 q16 q16_1 q16_2 q16_3 q16_4 q16_5 q16_6 q16_7 q16_8 q16_9 q27 q27_1 q27_2 q27_3 q27_4 q27_5 q27_6 q27_7 q27_8 q27_9 q38 q38_1 q38_2 q38_3 q49 q49_1 q49_2 q49_3 q49_4 q49_5 q49_6 q60 q60_1 q71 q71_1 q71_2 q82 q82_1 q82_2 q82_3 q93 q93_1 q104 q104_1 q104_2 q115 q126 q126_1 q139 : Nat) : va_W := ((h0, .inr (10, [.ref q5, .ref q16, .ref q27, .ref q38, .ref q49, .ref q60, .ref q71, .ref q82, .ref q93, .ref q104, .ref q115, .ref q126, .ref q139, .int 0, .int (-1)])) :: (((((((((((wX4 cA q5 q5_1 q5_2 q5_3 q5_4 q5_5 q5_6 q5_7 q5_8 q5_9 ++ wX4 cA q16 q16_1 q16_2 q16_3 q16_4 q16_5 q16_6 q16_7 q16_8 q16_9) ++ wX4 cA q27 q27_1 q27_2 q27_3 q27_4 q27_5 q27_6 q27_7 q27_8 q27_9) ++ wX8 cA q38 q38_1 q38_2 q38_3) ++ wX9 cA q49 q49_1 q49_2 q49_3 q49_4 q49_5 q49_6) ++ wX7 cA q60 q60_1) ++ wX0 cA q71 q71_1 q71_2) ++ wX3 cA q82 q82_1 q82_2 q82_3) ++ wX2 cA q93 q93_1) ++ wX6 cA q104 q104_1 q104_2) ++ wX1 cA q115) ++ wX5 cA q126 q126_1)) ++ [cI q139 cA 8]
abbrev atX10 (DD : va_G) (cA : Nat → ClassId) (A : Nat → Prop) (h0 : Nat) (_ : Unit) (t : State) : Prop := ∃ q5 q5_1 q5_2 q5_3 q5_4 q5_5 q5_6 q5_7 q5_8 q5_9 q16 q16_1 q16_2 q16_3 q16_4 q16_5 q16_6 q16_7 q16_8 q16_9 q27 q27_1 q27_2 q27_3 q27_4 q27_5 q27_6 q27_7 q27_8 q27_9 q38 q38_1 q38_2 q38_3 q49 q49_1 q49_2 q49_3 q49_4 q49_5 q49_6 q60 q60_1 q71 q71_1 q71_2 q82 q82_1 q82_2 q82_3 q93 q93_1 q104 q104_1 q104_2 q115 q126 q126_1 q139 : Nat, va_P DD classes (wX10 cA h0 q5 q5_1 q5_2 q5_3 q5_4 q5_5 q5_6 q5_7 q5_8 q5_9 q16 q16_1 q16_2 q16_3 q16_4 q16_5 q16_6 q16_7 q16_8 q16_9 q27 q27_1 q27_2 q27_3 q27_4 q27_5 q27_6 q27_7 q27_8 q27_9 q38 q38_1 q38_2 q38_3 q49 q49_1 q49_2 q49_3 q49_4 q49_5 q49_6 q60 q60_1 q71 q71_1 q71_2 q82 q82_1 q82_2 q82_3 q93 q93_1 q104 q104_1 q104_2 q115 q126 q126_1 q139) t.heap ∧ va_K DD classes (tysA cA) t ∧ va_D A (wX10 cA h0 q5 q5_1 q5_2 q5_3 q5_4 q5_5 q5_6 q5_7 q5_8 q5_9 q16 q16_1 q16_2 q16_3 q16_4 q16_5 q16_6 q16_7 q16_8 q16_9 q27 q27_1 q27_2 q27_3 q27_4 q27_5 q27_6 q27_7 q27_8 q27_9 q38 q38_1 q38_2 q38_3 q49 q49_1 q49_2 q49_3 q49_4 q49_5 q49_6 q60 q60_1 q71 q71_1 q71_2 q82 q82_1 q82_2 q82_3 q93 q93_1 q104 q104_1 q104_2 q115 q126 q126_1 q139)
theorem gk_X10 : GoodIn WS (.code yX10_init cX10_init 1 none :: WS) := gin (fun w hw => by
  rcases List.mem_cons.mp hw with rfl | h
  · exact (wat_mem (k := 9) (by decide +kernel))
  · exact h)
set_option maxHeartbeats 4000000 in
set_option maxRecDepth 100000 in
theorem mk_X10 (l : Launch) (DD : va_G) (cA : Nat → ClassId) (h0 sz : Nat) : Met l yX10_init (.code yX10_init cX10_init 1 none :: WS) ({ frames := 3, cells := 91, slots := 4228, locals := 200 } : Room) (va_Pc [.ref h0] (fun U => U.heap.size = sz ∧ va_P DD classes [(h0, .inr (10, dfX10))] U.heap ∧ va_K DD classes (tysA cA) U ∧ va_D (fun _ => True) [(h0, .inr (10, dfX10))] ∧ mkT U)) (va_Qv (fun _ : Unit => True) (atX10 DD cA (va_A [(h0, .inr (10, dfX10))] sz) h0) (va_A [(h0, .inr (10, dfX10))] sz)) 91 4228 (va_A [(h0, .inr (10, dfX10))] sz) := by
  refine Met.ofW (cc := cX10_init) (maxL := 1) (ret := none) (by decide +kernel) rfl ?_
  intro p e s m args below meth c s₁ B hml hv
  obtain ⟨rfl, hsz, hP, hK, hD0, hT⟩ := hv
  have hx := B.exec
  have hb := B.bytes
  have hr := B.returns
  have hts0 := atoms_spec (ws := .code yX10_init cX10_init 1 none :: WS) B.pre
  have hts : ∀ w ∈ WS, w.before _ s = true := fun w hw => hts0 w (List.mem_cons_of_mem _ hw)
  have hown : s.vm.findClass RX10 = some m.cls := findClass_of_methodNamed B.named
  have hlocks := B.notSynchronized
  have hin : meth.name = "<init>" := (name_of_methodNamed B.named B.method).1
  subst hsz
  have hD := hD0.self (sz := s.heap.size)
  generalize hAe : va_A [(h0, .inr (10, dfX10))] s.heap.size = A at hD ⊢
  have hA : ∀ q : Nat, s.heap.size ≤ q → A q := fun q h => by rw [← hAe]; exact Or.inr h
  have hS : va_S A s.heap s.heap [] := va_S.rf
  have hP : va_P DD classes [(h0, .inr (10, dfX10))] s.heap := hP
  have hl := lv_entry ([.ref h0]) (n := 1) (Nat.le_of_ble_eq_true rfl)
  rw [lg_entry_eq]
  generalize (lg_sl ([.ref h0]) ++ List.replicate (1 - (lg_sl ([.ref h0])).length) Slot.unset).toArray = ls at hl ⊢
  have hl : lv_has ls 1 [(0, .ref h0)] := hl
  refine lv_aload_n hx hb dk_X10_init_0 rfl (lv_at hl 0 rfl) ?_
  refine W.objInit hx hb hown (hts (.methodLink RX10 1 objectInit) (wat_mem (k := 10) (by decide +kernel))) (hts (.instanceMethod objectInit) (wat_mem (k := 11) (by decide +kernel))) (hts (.code objectInit ⟨#[0xb1]⟩ 1 none) (wat_mem (k := 12) (by decide +kernel))) rfl (by rw [hml]; exact hl.1) rfl dk_X10_init_1 (Nat.le_of_ble_eq_true rfl) (Nat.le_of_ble_eq_true rfl) ?_
  refine W.eq (g2 := F0 m 4 ls []) rfl ?_
  refine lv_aload_n hx hb dk_X10_init_4 rfl (lv_at hl 0 rfl) ?_
  refine va_new (ci := 4) (fs := dfX4) (C := RX4) (T := TX4) (N := 16) hx hb hts wsi4 tyX4 tyX4_ok hown (hts (.classLink RX10 7 RX4) (wat_mem (k := 13) (by decide +kernel))) (hts (.instantiable RX4 16) (wat_mem (k := 14) (by decide +kernel))) (hts (.initialized RX4) (wat_mem (k := 15) (by decide +kernel))) hK hP hD hS hA rfl dfX4_ok (Nat.le_of_ble_eq_true rfl) (Nat.le_of_ble_eq_true rfl) dk_X10_init_5 (fun q5 H hP hD hS => ?_)
  have hP : va_P DD classes ([(h0, .inr (10, [.null, .null, .null, .null, .null, .null, .null, .null, .null, .null, .null, .null, .null, .int 0, .int 0]))] ++ [(q5, .inr (4, [.int 0, .null, .int 0, .null, .null, .null, .null, .int 0, .int 0, .null, .null, .null, .null, .int 0, .int 0, .int 0]))]) H := hP
  have hD : va_D A ([(h0, .inr (10, [.null, .null, .null, .null, .null, .null, .null, .null, .null, .null, .null, .null, .null, .int 0, .int 0]))] ++ [(q5, .inr (4, [.int 0, .null, .int 0, .null, .null, .null, .null, .int 0, .int 0, .null, .null, .null, .null, .int 0, .int 0, .int 0]))]) := hD
  refine W.widen (k := 1) (n := 16) (by omega) (by omega) ?_
  refine lv_dup hx hb dk_X10_init_8 rfl ?_
  have hPc := va_lastP hP
  have hDc := va_lastD hD
  have hFc := va_lastF hD hS hA
  refine va_callv (va_runIN (As := []) (rest := [.ref q5, .ref h0]) (host := RX10) ⟨hx, hb, hml, hown, hts⟩ (mk_X4 l DD cA q5 H.size) ⟨va_cnB 0 hts gk_X4 rfl rfl rfl (hT.2.2 (RX10, 9, yX4_init, RX10) (List.mem_of_getElem? (i := 0) (by decide +kernel))) (hts (.initialized RX4) (wat_mem (k := 15) (by decide +kernel))) ⟨by decide +kernel, by decide +kernel, by decide +kernel⟩ ⟨(Nat.le_of_ble_eq_true rfl), (Nat.le_of_ble_eq_true rfl)⟩, rfl, (hts (.instanceMethod yX4_init) (wat_mem (k := 59) (by decide +kernel)))⟩ ⟨fun a U g mk q => by obtain ⟨q0, q1, qP, qK, qD⟩ := q; exact ⟨q0, q1, qP, va_K.moved (u := U) (U := U.calling g mk a) (Vm.Alike.refl U.vm) qK, qD⟩, fun U hU hW => ⟨rfl, by rw [hU], by rw [hU]; exact hPc, va_K.moved hW.alike hK, hDc.weaken (fun _ _ _ _ => trivial)⟩⟩ rfl rfl hl.1 rfl (lv_room (Nat.le_of_ble_eq_true rfl)) dk_X10_init_9 ⟨(Nat.le_of_ble_eq_true rfl), (Nat.le_of_ble_eq_true rfl)⟩) hS (fun q _ h => hFc q h) hFc (fun u t H1 locs ht hvm h5 hB hz1 hk1 hS => ?_)
  obtain ⟨q5_1, q5_2, q5_3, q5_4, q5_5, q5_6, q5_7, q5_8, q5_9, hP1, hK1, hD1⟩ := hB
  rw [ht] at hP1
  obtain ⟨hP, hD⟩ := va_jn (w1 := wX4 cA q5 q5_1 q5_2 q5_3 q5_4 q5_5 q5_6 q5_7 q5_8 q5_9) hP hD hk1 hFc hP1 hD1
  clear hP1 hD1 hK1 hk1 hPc hDc hFc
  generalize H1 = H at hP hS ⊢
  have hP : va_P DD classes ((h0, .inr (10, [.null, .null, .null, .null, .null, .null, .null, .null, .null, .null, .null, .null, .null, .int 0, .int 0])) :: (wX4 cA q5 q5_1 q5_2 q5_3 q5_4 q5_5 q5_6 q5_7 q5_8 q5_9)) H := hP
  have hD : va_D A ((h0, .inr (10, [.null, .null, .null, .null, .null, .null, .null, .null, .null, .null, .null, .null, .null, .int 0, .int 0])) :: (wX4 cA q5 q5_1 q5_2 q5_3 q5_4 q5_5 q5_6 q5_7 q5_8 q5_9)) := hD
  generalize hR1 : wX4 cA q5 q5_1 q5_2 q5_3 q5_4 q5_5 q5_6 q5_7 q5_8 q5_9 = R1 at hP hD
  have hP : va_P DD classes (((h0, .inr (10, [.null, .null, .null, .null, .null, .null, .null, .null, .null, .null, .null, .null, .null, .int 0, .int 0])) :: R1)) H := hP
  have hD : va_D A (((h0, .inr (10, [.null, .null, .null, .null, .null, .null, .null, .null, .null, .null, .null, .null, .null, .int 0, .int 0])) :: R1)) := hD
  refine W.widen (k := 10) (n := 108) (by omega) (by omega) ?_
  refine va_putF (D := DD) (ci := 10) (v := .ref q5) (ty := .object "TubesOfCourt$Ministry") (C := RX10) (T := TX10) (N := 15) hx hb hts wsi10 tyX10 tyX10_ok nmX10 hown hK hP hD hS 0 rfl rfl 0 (by decide) (hts (.fieldLink RX10 10 "TubesOfCourt" "ministry" "LTubesOfCourt$Ministry;") (wat_mem (k := 16) (by decide +kernel))) (fun _ h9 => h9) rfl hin rfl (by decide +kernel) rfl rfl (Nat.le_of_ble_eq_true rfl) dk_X10_init_12 (fun H locs hP hD hS => ?_)
  have hP : va_P DD classes (((h0, .inr (10, [.ref q5, .null, .null, .null, .null, .null, .null, .null, .null, .null, .null, .null, .null, .int 0, .int 0])) :: R1)) H := hP
  have hD : va_D A (((h0, .inr (10, [.ref q5, .null, .null, .null, .null, .null, .null, .null, .null, .null, .null, .null, .null, .int 0, .int 0])) :: R1)) := hD
  refine lv_aload_n hx hb dk_X10_init_15 rfl (lv_at hl 0 rfl) ?_
  refine va_new (ci := 4) (fs := dfX4) (C := RX4) (T := TX4) (N := 16) hx hb hts wsi4 tyX4 tyX4_ok hown (hts (.classLink RX10 7 RX4) (wat_mem (k := 13) (by decide +kernel))) (hts (.instantiable RX4 16) (wat_mem (k := 14) (by decide +kernel))) (hts (.initialized RX4) (wat_mem (k := 15) (by decide +kernel))) hK hP hD hS hA rfl dfX4_ok (Nat.le_of_ble_eq_true rfl) (Nat.le_of_ble_eq_true rfl) dk_X10_init_16 (fun q16 H hP hD hS => ?_)
  have hP : va_P DD classes (((h0, .inr (10, [.ref q5, .null, .null, .null, .null, .null, .null, .null, .null, .null, .null, .null, .null, .int 0, .int 0])) :: R1) ++ [(q16, .inr (4, [.int 0, .null, .int 0, .null, .null, .null, .null, .int 0, .int 0, .null, .null, .null, .null, .int 0, .int 0, .int 0]))]) H := hP
  have hD : va_D A (((h0, .inr (10, [.ref q5, .null, .null, .null, .null, .null, .null, .null, .null, .null, .null, .null, .null, .int 0, .int 0])) :: R1) ++ [(q16, .inr (4, [.int 0, .null, .int 0, .null, .null, .null, .null, .int 0, .int 0, .null, .null, .null, .null, .int 0, .int 0, .int 0]))]) := hD
  refine W.widen (k := 11) (n := 124) (by omega) (by omega) ?_
  refine lv_dup hx hb dk_X10_init_19 rfl ?_
  have hPc := va_lastP hP
  have hDc := va_lastD hD
  have hFc := va_lastF hD hS hA
  refine va_callv (va_runIN (As := []) (rest := [.ref q16, .ref h0]) (host := RX10) ⟨hx, hb, hml, hown, hts⟩ (mk_X4 l DD cA q16 H.size) ⟨va_cnB 0 hts gk_X4 rfl rfl rfl (hT.2.2 (RX10, 9, yX4_init, RX10) (List.mem_of_getElem? (i := 0) (by decide +kernel))) (hts (.initialized RX4) (wat_mem (k := 15) (by decide +kernel))) ⟨by decide +kernel, by decide +kernel, by decide +kernel⟩ ⟨(Nat.le_of_ble_eq_true rfl), (Nat.le_of_ble_eq_true rfl)⟩, rfl, (hts (.instanceMethod yX4_init) (wat_mem (k := 59) (by decide +kernel)))⟩ ⟨fun a U g mk q => by obtain ⟨q0, q1, qP, qK, qD⟩ := q; exact ⟨q0, q1, qP, va_K.moved (u := U) (U := U.calling g mk a) (Vm.Alike.refl U.vm) qK, qD⟩, fun U hU hW => ⟨rfl, by rw [hU], by rw [hU]; exact hPc, va_K.moved hW.alike hK, hDc.weaken (fun _ _ _ _ => trivial)⟩⟩ rfl rfl hl.1 rfl (lv_room (Nat.le_of_ble_eq_true rfl)) dk_X10_init_20 ⟨(Nat.le_of_ble_eq_true rfl), (Nat.le_of_ble_eq_true rfl)⟩) hS (fun q _ h => hFc q h) hFc (fun u t H1 locs ht hvm h5 hB hz1 hk1 hS => ?_)
  obtain ⟨q16_1, q16_2, q16_3, q16_4, q16_5, q16_6, q16_7, q16_8, q16_9, hP1, hK1, hD1⟩ := hB
  rw [ht] at hP1
  obtain ⟨hP, hD⟩ := va_jn (w1 := wX4 cA q16 q16_1 q16_2 q16_3 q16_4 q16_5 q16_6 q16_7 q16_8 q16_9) hP hD hk1 hFc hP1 hD1
  clear hP1 hD1 hK1 hk1 hPc hDc hFc
  generalize H1 = H at hP hS ⊢
  have hP : va_P DD classes ((h0, .inr (10, [.ref q5, .null, .null, .null, .null, .null, .null, .null, .null, .null, .null, .null, .null, .int 0, .int 0])) :: (R1 ++ wX4 cA q16 q16_1 q16_2 q16_3 q16_4 q16_5 q16_6 q16_7 q16_8 q16_9)) H := hP
  have hD : va_D A ((h0, .inr (10, [.ref q5, .null, .null, .null, .null, .null, .null, .null, .null, .null, .null, .null, .null, .int 0, .int 0])) :: (R1 ++ wX4 cA q16 q16_1 q16_2 q16_3 q16_4 q16_5 q16_6 q16_7 q16_8 q16_9)) := hD
  generalize hR2 : R1 ++ wX4 cA q16 q16_1 q16_2 q16_3 q16_4 q16_5 q16_6 q16_7 q16_8 q16_9 = R2 at hP hD
  have hP : va_P DD classes (((h0, .inr (10, [.ref q5, .null, .null, .null, .null, .null, .null, .null, .null, .null, .null, .null, .null, .int 0, .int 0])) :: R2)) H := hP
  have hD : va_D A (((h0, .inr (10, [.ref q5, .null, .null, .null, .null, .null, .null, .null, .null, .null, .null, .null, .null, .int 0, .int 0])) :: R2)) := hD
  refine W.widen (k := 20) (n := 216) (by omega) (by omega) ?_
  refine va_putF (D := DD) (ci := 10) (v := .ref q16) (ty := .object "TubesOfCourt$Ministry") (C := RX10) (T := TX10) (N := 15) hx hb hts wsi10 tyX10 tyX10_ok nmX10 hown hK hP hD hS 0 rfl rfl 1 (by decide) (hts (.fieldLink RX10 16 "TubesOfCourt" "kept" "LTubesOfCourt$Ministry;") (wat_mem (k := 17) (by decide +kernel))) (fun _ h9 => h9) rfl hin rfl (by decide +kernel) rfl rfl (Nat.le_of_ble_eq_true rfl) dk_X10_init_23 (fun H locs hP hD hS => ?_)
  have hP : va_P DD classes (((h0, .inr (10, [.ref q5, .ref q16, .null, .null, .null, .null, .null, .null, .null, .null, .null, .null, .null, .int 0, .int 0])) :: R2)) H := hP
  have hD : va_D A (((h0, .inr (10, [.ref q5, .ref q16, .null, .null, .null, .null, .null, .null, .null, .null, .null, .null, .null, .int 0, .int 0])) :: R2)) := hD
  refine lv_aload_n hx hb dk_X10_init_26 rfl (lv_at hl 0 rfl) ?_
  refine va_new (ci := 4) (fs := dfX4) (C := RX4) (T := TX4) (N := 16) hx hb hts wsi4 tyX4 tyX4_ok hown (hts (.classLink RX10 7 RX4) (wat_mem (k := 13) (by decide +kernel))) (hts (.instantiable RX4 16) (wat_mem (k := 14) (by decide +kernel))) (hts (.initialized RX4) (wat_mem (k := 15) (by decide +kernel))) hK hP hD hS hA rfl dfX4_ok (Nat.le_of_ble_eq_true rfl) (Nat.le_of_ble_eq_true rfl) dk_X10_init_27 (fun q27 H hP hD hS => ?_)
  have hP : va_P DD classes (((h0, .inr (10, [.ref q5, .ref q16, .null, .null, .null, .null, .null, .null, .null, .null, .null, .null, .null, .int 0, .int 0])) :: R2) ++ [(q27, .inr (4, [.int 0, .null, .int 0, .null, .null, .null, .null, .int 0, .int 0, .null, .null, .null, .null, .int 0, .int 0, .int 0]))]) H := hP
  have hD : va_D A (((h0, .inr (10, [.ref q5, .ref q16, .null, .null, .null, .null, .null, .null, .null, .null, .null, .null, .null, .int 0, .int 0])) :: R2) ++ [(q27, .inr (4, [.int 0, .null, .int 0, .null, .null, .null, .null, .int 0, .int 0, .null, .null, .null, .null, .int 0, .int 0, .int 0]))]) := hD
  refine W.widen (k := 21) (n := 232) (by omega) (by omega) ?_
  refine lv_dup hx hb dk_X10_init_30 rfl ?_
  have hPc := va_lastP hP
  have hDc := va_lastD hD
  have hFc := va_lastF hD hS hA
  refine va_callv (va_runIN (As := []) (rest := [.ref q27, .ref h0]) (host := RX10) ⟨hx, hb, hml, hown, hts⟩ (mk_X4 l DD cA q27 H.size) ⟨va_cnB 0 hts gk_X4 rfl rfl rfl (hT.2.2 (RX10, 9, yX4_init, RX10) (List.mem_of_getElem? (i := 0) (by decide +kernel))) (hts (.initialized RX4) (wat_mem (k := 15) (by decide +kernel))) ⟨by decide +kernel, by decide +kernel, by decide +kernel⟩ ⟨(Nat.le_of_ble_eq_true rfl), (Nat.le_of_ble_eq_true rfl)⟩, rfl, (hts (.instanceMethod yX4_init) (wat_mem (k := 59) (by decide +kernel)))⟩ ⟨fun a U g mk q => by obtain ⟨q0, q1, qP, qK, qD⟩ := q; exact ⟨q0, q1, qP, va_K.moved (u := U) (U := U.calling g mk a) (Vm.Alike.refl U.vm) qK, qD⟩, fun U hU hW => ⟨rfl, by rw [hU], by rw [hU]; exact hPc, va_K.moved hW.alike hK, hDc.weaken (fun _ _ _ _ => trivial)⟩⟩ rfl rfl hl.1 rfl (lv_room (Nat.le_of_ble_eq_true rfl)) dk_X10_init_31 ⟨(Nat.le_of_ble_eq_true rfl), (Nat.le_of_ble_eq_true rfl)⟩) hS (fun q _ h => hFc q h) hFc (fun u t H1 locs ht hvm h5 hB hz1 hk1 hS => ?_)
  obtain ⟨q27_1, q27_2, q27_3, q27_4, q27_5, q27_6, q27_7, q27_8, q27_9, hP1, hK1, hD1⟩ := hB
  rw [ht] at hP1
  obtain ⟨hP, hD⟩ := va_jn (w1 := wX4 cA q27 q27_1 q27_2 q27_3 q27_4 q27_5 q27_6 q27_7 q27_8 q27_9) hP hD hk1 hFc hP1 hD1
  clear hP1 hD1 hK1 hk1 hPc hDc hFc
  generalize H1 = H at hP hS ⊢
  have hP : va_P DD classes ((h0, .inr (10, [.ref q5, .ref q16, .null, .null, .null, .null, .null, .null, .null, .null, .null, .null, .null, .int 0, .int 0])) :: (R2 ++ wX4 cA q27 q27_1 q27_2 q27_3 q27_4 q27_5 q27_6 q27_7 q27_8 q27_9)) H := hP
  have hD : va_D A ((h0, .inr (10, [.ref q5, .ref q16, .null, .null, .null, .null, .null, .null, .null, .null, .null, .null, .null, .int 0, .int 0])) :: (R2 ++ wX4 cA q27 q27_1 q27_2 q27_3 q27_4 q27_5 q27_6 q27_7 q27_8 q27_9)) := hD
  generalize hR3 : R2 ++ wX4 cA q27 q27_1 q27_2 q27_3 q27_4 q27_5 q27_6 q27_7 q27_8 q27_9 = R3 at hP hD
  have hP : va_P DD classes (((h0, .inr (10, [.ref q5, .ref q16, .null, .null, .null, .null, .null, .null, .null, .null, .null, .null, .null, .int 0, .int 0])) :: R3)) H := hP
  have hD : va_D A (((h0, .inr (10, [.ref q5, .ref q16, .null, .null, .null, .null, .null, .null, .null, .null, .null, .null, .null, .int 0, .int 0])) :: R3)) := hD
  refine W.widen (k := 30) (n := 324) (by omega) (by omega) ?_
  refine va_putF (D := DD) (ci := 10) (v := .ref q27) (ty := .object "TubesOfCourt$Ministry") (C := RX10) (T := TX10) (N := 15) hx hb hts wsi10 tyX10 tyX10_ok nmX10 hown hK hP hD hS 0 rfl rfl 2 (by decide) (hts (.fieldLink RX10 19 "TubesOfCourt" "draft" "LTubesOfCourt$Ministry;") (wat_mem (k := 18) (by decide +kernel))) (fun _ h9 => h9) rfl hin rfl (by decide +kernel) rfl rfl (Nat.le_of_ble_eq_true rfl) dk_X10_init_34 (fun H locs hP hD hS => ?_)
  have hP : va_P DD classes (((h0, .inr (10, [.ref q5, .ref q16, .ref q27, .null, .null, .null, .null, .null, .null, .null, .null, .null, .null, .int 0, .int 0])) :: R3)) H := hP
  have hD : va_D A (((h0, .inr (10, [.ref q5, .ref q16, .ref q27, .null, .null, .null, .null, .null, .null, .null, .null, .null, .null, .int 0, .int 0])) :: R3)) := hD
  refine lv_aload_n hx hb dk_X10_init_37 rfl (lv_at hl 0 rfl) ?_
  refine va_new (ci := 8) (fs := dfX8) (C := RX8) (T := TX8) (N := 3) hx hb hts wsi8 tyX8 tyX8_ok hown (hts (.classLink RX10 22 RX8) (wat_mem (k := 19) (by decide +kernel))) (hts (.instantiable RX8 3) (wat_mem (k := 20) (by decide +kernel))) (hts (.initialized RX8) (wat_mem (k := 21) (by decide +kernel))) hK hP hD hS hA rfl dfX8_ok (Nat.le_of_ble_eq_true rfl) (Nat.le_of_ble_eq_true rfl) dk_X10_init_38 (fun q38 H hP hD hS => ?_)
  have hP : va_P DD classes (((h0, .inr (10, [.ref q5, .ref q16, .ref q27, .null, .null, .null, .null, .null, .null, .null, .null, .null, .null, .int 0, .int 0])) :: R3) ++ [(q38, .inr (8, [.null, .null, .null]))]) H := hP
  have hD : va_D A (((h0, .inr (10, [.ref q5, .ref q16, .ref q27, .null, .null, .null, .null, .null, .null, .null, .null, .null, .null, .int 0, .int 0])) :: R3) ++ [(q38, .inr (8, [.null, .null, .null]))]) := hD
  refine W.widen (k := 31) (n := 327) (by omega) (by omega) ?_
  refine lv_dup hx hb dk_X10_init_41 rfl ?_
  have hPc := va_lastP hP
  have hDc := va_lastD hD
  have hFc := va_lastF hD hS hA
  refine va_callv (va_runIN (As := []) (rest := [.ref q38, .ref h0]) (host := RX10) ⟨hx, hb, hml, hown, hts⟩ (mk_X8 l DD cA q38 H.size) ⟨va_cnB 0 hts gk_X8 rfl rfl rfl (hT.2.2 (RX10, 24, yX8_init, RX10) (List.mem_of_getElem? (i := 1) (by decide +kernel))) (hts (.initialized RX8) (wat_mem (k := 21) (by decide +kernel))) ⟨by decide +kernel, by decide +kernel, by decide +kernel⟩ ⟨(Nat.le_of_ble_eq_true rfl), (Nat.le_of_ble_eq_true rfl)⟩, rfl, (hts (.instanceMethod yX8_init) (wat_mem (k := 78) (by decide +kernel)))⟩ ⟨fun a U g mk q => by obtain ⟨q0, q1, qP, qK, qD, qT⟩ := q; exact ⟨q0, q1, qP, va_K.moved (u := U) (U := U.calling g mk a) (Vm.Alike.refl U.vm) qK, qD, mkT_same rfl qT⟩, fun U hU hW => ⟨rfl, by rw [hU], by rw [hU]; exact hPc, va_K.moved hW.alike hK, hDc.weaken (fun _ _ _ _ => trivial), mkT_warm hW hT⟩⟩ rfl rfl hl.1 rfl (lv_room (Nat.le_of_ble_eq_true rfl)) dk_X10_init_42 ⟨(Nat.le_of_ble_eq_true rfl), (Nat.le_of_ble_eq_true rfl)⟩) hS (fun q _ h => hFc q h) hFc (fun u t H1 locs ht hvm h5 hB hz1 hk1 hS => ?_)
  obtain ⟨q38_1, q38_2, q38_3, hP1, hK1, hD1⟩ := hB
  rw [ht] at hP1
  obtain ⟨hP, hD⟩ := va_jn (w1 := wX8 cA q38 q38_1 q38_2 q38_3) hP hD hk1 hFc hP1 hD1
  clear hP1 hD1 hK1 hk1 hPc hDc hFc
  generalize H1 = H at hP hS ⊢
  have hP : va_P DD classes ((h0, .inr (10, [.ref q5, .ref q16, .ref q27, .null, .null, .null, .null, .null, .null, .null, .null, .null, .null, .int 0, .int 0])) :: (R3 ++ wX8 cA q38 q38_1 q38_2 q38_3)) H := hP
  have hD : va_D A ((h0, .inr (10, [.ref q5, .ref q16, .ref q27, .null, .null, .null, .null, .null, .null, .null, .null, .null, .null, .int 0, .int 0])) :: (R3 ++ wX8 cA q38 q38_1 q38_2 q38_3)) := hD
  generalize hR4 : R3 ++ wX8 cA q38 q38_1 q38_2 q38_3 = R4 at hP hD
  have hP : va_P DD classes (((h0, .inr (10, [.ref q5, .ref q16, .ref q27, .null, .null, .null, .null, .null, .null, .null, .null, .null, .null, .int 0, .int 0])) :: R4)) H := hP
  have hD : va_D A (((h0, .inr (10, [.ref q5, .ref q16, .ref q27, .null, .null, .null, .null, .null, .null, .null, .null, .null, .null, .int 0, .int 0])) :: R4)) := hD
  refine W.widen (k := 42) (n := 1631) (by omega) (by omega) ?_
  refine va_putF (D := DD) (ci := 10) (v := .ref q38) (ty := .object "TubesOfCourt$Shelves") (C := RX10) (T := TX10) (N := 15) hx hb hts wsi10 tyX10 tyX10_ok nmX10 hown hK hP hD hS 0 rfl rfl 3 (by decide) (hts (.fieldLink RX10 25 "TubesOfCourt" "shelves" "LTubesOfCourt$Shelves;") (wat_mem (k := 22) (by decide +kernel))) (fun _ h9 => h9) rfl hin rfl (by decide +kernel) rfl rfl (Nat.le_of_ble_eq_true rfl) dk_X10_init_45 (fun H locs hP hD hS => ?_)
  have hP : va_P DD classes (((h0, .inr (10, [.ref q5, .ref q16, .ref q27, .ref q38, .null, .null, .null, .null, .null, .null, .null, .null, .null, .int 0, .int 0])) :: R4)) H := hP
  have hD : va_D A (((h0, .inr (10, [.ref q5, .ref q16, .ref q27, .ref q38, .null, .null, .null, .null, .null, .null, .null, .null, .null, .int 0, .int 0])) :: R4)) := hD
  refine lv_aload_n hx hb dk_X10_init_48 rfl (lv_at hl 0 rfl) ?_
  refine va_new (ci := 9) (fs := dfX9) (C := RX9) (T := TX9) (N := 6) hx hb hts wsi9 tyX9 tyX9_ok hown (hts (.classLink RX10 29 RX9) (wat_mem (k := 23) (by decide +kernel))) (hts (.instantiable RX9 6) (wat_mem (k := 24) (by decide +kernel))) (hts (.initialized RX9) (wat_mem (k := 25) (by decide +kernel))) hK hP hD hS hA rfl dfX9_ok (Nat.le_of_ble_eq_true rfl) (Nat.le_of_ble_eq_true rfl) dk_X10_init_49 (fun q49 H hP hD hS => ?_)
  have hP : va_P DD classes (((h0, .inr (10, [.ref q5, .ref q16, .ref q27, .ref q38, .null, .null, .null, .null, .null, .null, .null, .null, .null, .int 0, .int 0])) :: R4) ++ [(q49, .inr (9, [.null, .null, .null, .null, .null, .null]))]) H := hP
  have hD : va_D A (((h0, .inr (10, [.ref q5, .ref q16, .ref q27, .ref q38, .null, .null, .null, .null, .null, .null, .null, .null, .null, .int 0, .int 0])) :: R4) ++ [(q49, .inr (9, [.null, .null, .null, .null, .null, .null]))]) := hD
  refine W.widen (k := 43) (n := 1637) (by omega) (by omega) ?_
  refine lv_dup hx hb dk_X10_init_52 rfl ?_
  have hPc := va_lastP hP
  have hDc := va_lastD hD
  have hFc := va_lastF hD hS hA
  refine va_callv (va_runIN (As := []) (rest := [.ref q49, .ref h0]) (host := RX10) ⟨hx, hb, hml, hown, hts⟩ (mk_X9 l DD cA q49 H.size) ⟨va_cnB 0 hts gk_X9 rfl rfl rfl (hT.2.2 (RX10, 31, yX9_init, RX10) (List.mem_of_getElem? (i := 2) (by decide +kernel))) (hts (.initialized RX9) (wat_mem (k := 25) (by decide +kernel))) ⟨by decide +kernel, by decide +kernel, by decide +kernel⟩ ⟨(Nat.le_of_ble_eq_true rfl), (Nat.le_of_ble_eq_true rfl)⟩, rfl, (hts (.instanceMethod yX9_init) (wat_mem (k := 86) (by decide +kernel)))⟩ ⟨fun a U g mk q => by obtain ⟨q0, q1, qP, qK, qD, qT⟩ := q; exact ⟨q0, q1, qP, va_K.moved (u := U) (U := U.calling g mk a) (Vm.Alike.refl U.vm) qK, qD, mkT_same rfl qT⟩, fun U hU hW => ⟨rfl, by rw [hU], by rw [hU]; exact hPc, va_K.moved hW.alike hK, hDc.weaken (fun _ _ _ _ => trivial), mkT_warm hW hT⟩⟩ rfl rfl hl.1 rfl (lv_room (Nat.le_of_ble_eq_true rfl)) dk_X10_init_53 ⟨(Nat.le_of_ble_eq_true rfl), (Nat.le_of_ble_eq_true rfl)⟩) hS (fun q _ h => hFc q h) hFc (fun u t H1 locs ht hvm h5 hB hz1 hk1 hS => ?_)
  obtain ⟨q49_1, q49_2, q49_3, q49_4, q49_5, q49_6, hP1, hK1, hD1⟩ := hB
  rw [ht] at hP1
  obtain ⟨hP, hD⟩ := va_jn (w1 := wX9 cA q49 q49_1 q49_2 q49_3 q49_4 q49_5 q49_6) hP hD hk1 hFc hP1 hD1
  clear hP1 hD1 hK1 hk1 hPc hDc hFc
  generalize H1 = H at hP hS ⊢
  have hP : va_P DD classes ((h0, .inr (10, [.ref q5, .ref q16, .ref q27, .ref q38, .null, .null, .null, .null, .null, .null, .null, .null, .null, .int 0, .int 0])) :: (R4 ++ wX9 cA q49 q49_1 q49_2 q49_3 q49_4 q49_5 q49_6)) H := hP
  have hD : va_D A ((h0, .inr (10, [.ref q5, .ref q16, .ref q27, .ref q38, .null, .null, .null, .null, .null, .null, .null, .null, .null, .int 0, .int 0])) :: (R4 ++ wX9 cA q49 q49_1 q49_2 q49_3 q49_4 q49_5 q49_6)) := hD
  generalize hR5 : R4 ++ wX9 cA q49 q49_1 q49_2 q49_3 q49_4 q49_5 q49_6 = R5 at hP hD
  have hP : va_P DD classes (((h0, .inr (10, [.ref q5, .ref q16, .ref q27, .ref q38, .null, .null, .null, .null, .null, .null, .null, .null, .null, .int 0, .int 0])) :: R5)) H := hP
  have hD : va_D A (((h0, .inr (10, [.ref q5, .ref q16, .ref q27, .ref q38, .null, .null, .null, .null, .null, .null, .null, .null, .null, .int 0, .int 0])) :: R5)) := hD
  refine W.widen (k := 57) (n := 1773) (by omega) (by omega) ?_
  refine va_putF (D := DD) (ci := 10) (v := .ref q49) (ty := .object "TubesOfCourt$Ways") (C := RX10) (T := TX10) (N := 15) hx hb hts wsi10 tyX10 tyX10_ok nmX10 hown hK hP hD hS 0 rfl rfl 4 (by decide) (hts (.fieldLink RX10 32 "TubesOfCourt" "ways" "LTubesOfCourt$Ways;") (wat_mem (k := 26) (by decide +kernel))) (fun _ h9 => h9) rfl hin rfl (by decide +kernel) rfl rfl (Nat.le_of_ble_eq_true rfl) dk_X10_init_56 (fun H locs hP hD hS => ?_)
  have hP : va_P DD classes (((h0, .inr (10, [.ref q5, .ref q16, .ref q27, .ref q38, .ref q49, .null, .null, .null, .null, .null, .null, .null, .null, .int 0, .int 0])) :: R5)) H := hP
  have hD : va_D A (((h0, .inr (10, [.ref q5, .ref q16, .ref q27, .ref q38, .ref q49, .null, .null, .null, .null, .null, .null, .null, .null, .int 0, .int 0])) :: R5)) := hD
  refine lv_aload_n hx hb dk_X10_init_59 rfl (lv_at hl 0 rfl) ?_
  refine va_new (ci := 7) (fs := dfX7) (C := RX7) (T := TX7) (N := 1) hx hb hts wsi7 tyX7 tyX7_ok hown (hts (.classLink RX10 36 RX7) (wat_mem (k := 27) (by decide +kernel))) (hts (.instantiable RX7 1) (wat_mem (k := 28) (by decide +kernel))) (hts (.initialized RX7) (wat_mem (k := 29) (by decide +kernel))) hK hP hD hS hA rfl dfX7_ok (Nat.le_of_ble_eq_true rfl) (Nat.le_of_ble_eq_true rfl) dk_X10_init_60 (fun q60 H hP hD hS => ?_)
  have hP : va_P DD classes (((h0, .inr (10, [.ref q5, .ref q16, .ref q27, .ref q38, .ref q49, .null, .null, .null, .null, .null, .null, .null, .null, .int 0, .int 0])) :: R5) ++ [(q60, .inr (7, [.null]))]) H := hP
  have hD : va_D A (((h0, .inr (10, [.ref q5, .ref q16, .ref q27, .ref q38, .ref q49, .null, .null, .null, .null, .null, .null, .null, .null, .int 0, .int 0])) :: R5) ++ [(q60, .inr (7, [.null]))]) := hD
  refine W.widen (k := 58) (n := 1774) (by omega) (by omega) ?_
  refine lv_dup hx hb dk_X10_init_63 rfl ?_
  have hPc := va_lastP hP
  have hDc := va_lastD hD
  have hFc := va_lastF hD hS hA
  refine va_callv (va_runIN (As := []) (rest := [.ref q60, .ref h0]) (host := RX10) ⟨hx, hb, hml, hown, hts⟩ (mk_X7 l DD cA q60 H.size) ⟨va_cnB 0 hts gk_X7 rfl rfl rfl (hT.2.2 (RX10, 38, yX7_init, RX10) (List.mem_of_getElem? (i := 3) (by decide +kernel))) (hts (.initialized RX7) (wat_mem (k := 29) (by decide +kernel))) ⟨by decide +kernel, by decide +kernel, by decide +kernel⟩ ⟨(Nat.le_of_ble_eq_true rfl), (Nat.le_of_ble_eq_true rfl)⟩, rfl, (hts (.instanceMethod yX7_init) (wat_mem (k := 97) (by decide +kernel)))⟩ ⟨fun a U g mk q => by obtain ⟨q0, q1, qP, qK, qD⟩ := q; exact ⟨q0, q1, qP, va_K.moved (u := U) (U := U.calling g mk a) (Vm.Alike.refl U.vm) qK, qD⟩, fun U hU hW => ⟨rfl, by rw [hU], by rw [hU]; exact hPc, va_K.moved hW.alike hK, hDc.weaken (fun _ _ _ _ => trivial)⟩⟩ rfl rfl hl.1 rfl (lv_room (Nat.le_of_ble_eq_true rfl)) dk_X10_init_64 ⟨(Nat.le_of_ble_eq_true rfl), (Nat.le_of_ble_eq_true rfl)⟩) hS (fun q _ h => hFc q h) hFc (fun u t H1 locs ht hvm h5 hB hz1 hk1 hS => ?_)
  obtain ⟨q60_1, hP1, hK1, hD1⟩ := hB
  rw [ht] at hP1
  obtain ⟨hP, hD⟩ := va_jn (w1 := wX7 cA q60 q60_1) hP hD hk1 hFc hP1 hD1
  clear hP1 hD1 hK1 hk1 hPc hDc hFc
  generalize H1 = H at hP hS ⊢
  have hP : va_P DD classes ((h0, .inr (10, [.ref q5, .ref q16, .ref q27, .ref q38, .ref q49, .null, .null, .null, .null, .null, .null, .null, .null, .int 0, .int 0])) :: (R5 ++ wX7 cA q60 q60_1)) H := hP
  have hD : va_D A ((h0, .inr (10, [.ref q5, .ref q16, .ref q27, .ref q38, .ref q49, .null, .null, .null, .null, .null, .null, .null, .null, .int 0, .int 0])) :: (R5 ++ wX7 cA q60 q60_1)) := hD
  generalize hR6 : R5 ++ wX7 cA q60 q60_1 = R6 at hP hD
  have hP : va_P DD classes (((h0, .inr (10, [.ref q5, .ref q16, .ref q27, .ref q38, .ref q49, .null, .null, .null, .null, .null, .null, .null, .null, .int 0, .int 0])) :: R6)) H := hP
  have hD : va_D A (((h0, .inr (10, [.ref q5, .ref q16, .ref q27, .ref q38, .ref q49, .null, .null, .null, .null, .null, .null, .null, .null, .int 0, .int 0])) :: R6)) := hD
  refine W.widen (k := 59) (n := 3822) (by omega) (by omega) ?_
  refine va_putF (D := DD) (ci := 10) (v := .ref q60) (ty := .object "TubesOfCourt$Rounds") (C := RX10) (T := TX10) (N := 15) hx hb hts wsi10 tyX10 tyX10_ok nmX10 hown hK hP hD hS 0 rfl rfl 5 (by decide) (hts (.fieldLink RX10 39 "TubesOfCourt" "rounds" "LTubesOfCourt$Rounds;") (wat_mem (k := 30) (by decide +kernel))) (fun _ h9 => h9) rfl hin rfl (by decide +kernel) rfl rfl (Nat.le_of_ble_eq_true rfl) dk_X10_init_67 (fun H locs hP hD hS => ?_)
  have hP : va_P DD classes (((h0, .inr (10, [.ref q5, .ref q16, .ref q27, .ref q38, .ref q49, .ref q60, .null, .null, .null, .null, .null, .null, .null, .int 0, .int 0])) :: R6)) H := hP
  have hD : va_D A (((h0, .inr (10, [.ref q5, .ref q16, .ref q27, .ref q38, .ref q49, .ref q60, .null, .null, .null, .null, .null, .null, .null, .int 0, .int 0])) :: R6)) := hD
  refine lv_aload_n hx hb dk_X10_init_70 rfl (lv_at hl 0 rfl) ?_
  refine va_new (ci := 0) (fs := dfX0) (C := RX0) (T := TX0) (N := 2) hx hb hts wsi0 tyX0 tyX0_ok hown (hts (.classLink RX10 43 RX0) (wat_mem (k := 31) (by decide +kernel))) (hts (.instantiable RX0 2) (wat_mem (k := 32) (by decide +kernel))) (hts (.initialized RX0) (wat_mem (k := 33) (by decide +kernel))) hK hP hD hS hA rfl dfX0_ok (Nat.le_of_ble_eq_true rfl) (Nat.le_of_ble_eq_true rfl) dk_X10_init_71 (fun q71 H hP hD hS => ?_)
  have hP : va_P DD classes (((h0, .inr (10, [.ref q5, .ref q16, .ref q27, .ref q38, .ref q49, .ref q60, .null, .null, .null, .null, .null, .null, .null, .int 0, .int 0])) :: R6) ++ [(q71, .inr (0, [.null, .null]))]) H := hP
  have hD : va_D A (((h0, .inr (10, [.ref q5, .ref q16, .ref q27, .ref q38, .ref q49, .ref q60, .null, .null, .null, .null, .null, .null, .null, .int 0, .int 0])) :: R6) ++ [(q71, .inr (0, [.null, .null]))]) := hD
  refine W.widen (k := 60) (n := 3824) (by omega) (by omega) ?_
  refine lv_dup hx hb dk_X10_init_74 rfl ?_
  have hPc := va_lastP hP
  have hDc := va_lastD hD
  have hFc := va_lastF hD hS hA
  refine va_callv (va_runIN (As := []) (rest := [.ref q71, .ref h0]) (host := RX10) ⟨hx, hb, hml, hown, hts⟩ (mk_X0 l DD cA q71 H.size) ⟨va_cnB 0 hts gk_X0 rfl rfl rfl (hT.2.2 (RX10, 45, yX0_init, RX10) (List.mem_of_getElem? (i := 4) (by decide +kernel))) (hts (.initialized RX0) (wat_mem (k := 33) (by decide +kernel))) ⟨by decide +kernel, by decide +kernel, by decide +kernel⟩ ⟨(Nat.le_of_ble_eq_true rfl), (Nat.le_of_ble_eq_true rfl)⟩, rfl, (hts (.instanceMethod yX0_init) (wat_mem (k := 101) (by decide +kernel)))⟩ ⟨fun a U g mk q => by obtain ⟨q0, q1, qP, qK, qD⟩ := q; exact ⟨q0, q1, qP, va_K.moved (u := U) (U := U.calling g mk a) (Vm.Alike.refl U.vm) qK, qD⟩, fun U hU hW => ⟨rfl, by rw [hU], by rw [hU]; exact hPc, va_K.moved hW.alike hK, hDc.weaken (fun _ _ _ _ => trivial)⟩⟩ rfl rfl hl.1 rfl (lv_room (Nat.le_of_ble_eq_true rfl)) dk_X10_init_75 ⟨(Nat.le_of_ble_eq_true rfl), (Nat.le_of_ble_eq_true rfl)⟩) hS (fun q _ h => hFc q h) hFc (fun u t H1 locs ht hvm h5 hB hz1 hk1 hS => ?_)
  obtain ⟨q71_1, q71_2, hP1, hK1, hD1⟩ := hB
  rw [ht] at hP1
  obtain ⟨hP, hD⟩ := va_jn (w1 := wX0 cA q71 q71_1 q71_2) hP hD hk1 hFc hP1 hD1
  clear hP1 hD1 hK1 hk1 hPc hDc hFc
  generalize H1 = H at hP hS ⊢
  have hP : va_P DD classes ((h0, .inr (10, [.ref q5, .ref q16, .ref q27, .ref q38, .ref q49, .ref q60, .null, .null, .null, .null, .null, .null, .null, .int 0, .int 0])) :: (R6 ++ wX0 cA q71 q71_1 q71_2)) H := hP
  have hD : va_D A ((h0, .inr (10, [.ref q5, .ref q16, .ref q27, .ref q38, .ref q49, .ref q60, .null, .null, .null, .null, .null, .null, .null, .int 0, .int 0])) :: (R6 ++ wX0 cA q71 q71_1 q71_2)) := hD
  generalize hR7 : R6 ++ wX0 cA q71 q71_1 q71_2 = R7 at hP hD
  have hP : va_P DD classes (((h0, .inr (10, [.ref q5, .ref q16, .ref q27, .ref q38, .ref q49, .ref q60, .null, .null, .null, .null, .null, .null, .null, .int 0, .int 0])) :: R7)) H := hP
  have hD : va_D A (((h0, .inr (10, [.ref q5, .ref q16, .ref q27, .ref q38, .ref q49, .ref q60, .null, .null, .null, .null, .null, .null, .null, .int 0, .int 0])) :: R7)) := hD
  refine W.widen (k := 62) (n := 3848) (by omega) (by omega) ?_
  refine va_putF (D := DD) (ci := 10) (v := .ref q71) (ty := .object "TubesOfCourt$Cuts") (C := RX10) (T := TX10) (N := 15) hx hb hts wsi10 tyX10 tyX10_ok nmX10 hown hK hP hD hS 0 rfl rfl 6 (by decide) (hts (.fieldLink RX10 46 "TubesOfCourt" "cuts" "LTubesOfCourt$Cuts;") (wat_mem (k := 34) (by decide +kernel))) (fun _ h9 => h9) rfl hin rfl (by decide +kernel) rfl rfl (Nat.le_of_ble_eq_true rfl) dk_X10_init_78 (fun H locs hP hD hS => ?_)
  have hP : va_P DD classes (((h0, .inr (10, [.ref q5, .ref q16, .ref q27, .ref q38, .ref q49, .ref q60, .ref q71, .null, .null, .null, .null, .null, .null, .int 0, .int 0])) :: R7)) H := hP
  have hD : va_D A (((h0, .inr (10, [.ref q5, .ref q16, .ref q27, .ref q38, .ref q49, .ref q60, .ref q71, .null, .null, .null, .null, .null, .null, .int 0, .int 0])) :: R7)) := hD
  refine lv_aload_n hx hb dk_X10_init_81 rfl (lv_at hl 0 rfl) ?_
  refine va_new (ci := 3) (fs := dfX3) (C := RX3) (T := TX3) (N := 4) hx hb hts wsi3 tyX3 tyX3_ok hown (hts (.classLink RX10 50 RX3) (wat_mem (k := 35) (by decide +kernel))) (hts (.instantiable RX3 4) (wat_mem (k := 36) (by decide +kernel))) (hts (.initialized RX3) (wat_mem (k := 37) (by decide +kernel))) hK hP hD hS hA rfl dfX3_ok (Nat.le_of_ble_eq_true rfl) (Nat.le_of_ble_eq_true rfl) dk_X10_init_82 (fun q82 H hP hD hS => ?_)
  have hP : va_P DD classes (((h0, .inr (10, [.ref q5, .ref q16, .ref q27, .ref q38, .ref q49, .ref q60, .ref q71, .null, .null, .null, .null, .null, .null, .int 0, .int 0])) :: R7) ++ [(q82, .inr (3, [.null, .null, .int 0, .null]))]) H := hP
  have hD : va_D A (((h0, .inr (10, [.ref q5, .ref q16, .ref q27, .ref q38, .ref q49, .ref q60, .ref q71, .null, .null, .null, .null, .null, .null, .int 0, .int 0])) :: R7) ++ [(q82, .inr (3, [.null, .null, .int 0, .null]))]) := hD
  refine W.widen (k := 63) (n := 3852) (by omega) (by omega) ?_
  refine lv_dup hx hb dk_X10_init_85 rfl ?_
  have hPc := va_lastP hP
  have hDc := va_lastD hD
  have hFc := va_lastF hD hS hA
  refine va_callv (va_runIN (As := []) (rest := [.ref q82, .ref h0]) (host := RX10) ⟨hx, hb, hml, hown, hts⟩ (mk_X3 l DD cA q82 H.size) ⟨va_cnB 0 hts gk_X3 rfl rfl rfl (hT.2.2 (RX10, 52, yX3_init, RX10) (List.mem_of_getElem? (i := 5) (by decide +kernel))) (hts (.initialized RX3) (wat_mem (k := 37) (by decide +kernel))) ⟨by decide +kernel, by decide +kernel, by decide +kernel⟩ ⟨(Nat.le_of_ble_eq_true rfl), (Nat.le_of_ble_eq_true rfl)⟩, rfl, (hts (.instanceMethod yX3_init) (wat_mem (k := 106) (by decide +kernel)))⟩ ⟨fun a U g mk q => by obtain ⟨q0, q1, qP, qK, qD, qT⟩ := q; exact ⟨q0, q1, qP, va_K.moved (u := U) (U := U.calling g mk a) (Vm.Alike.refl U.vm) qK, qD, mkT_same rfl qT⟩, fun U hU hW => ⟨rfl, by rw [hU], by rw [hU]; exact hPc, va_K.moved hW.alike hK, hDc.weaken (fun _ _ _ _ => trivial), mkT_warm hW hT⟩⟩ rfl rfl hl.1 rfl (lv_room (Nat.le_of_ble_eq_true rfl)) dk_X10_init_86 ⟨(Nat.le_of_ble_eq_true rfl), (Nat.le_of_ble_eq_true rfl)⟩) hS (fun q _ h => hFc q h) hFc (fun u t H1 locs ht hvm h5 hB hz1 hk1 hS => ?_)
  obtain ⟨q82_1, q82_2, q82_3, hP1, hK1, hD1⟩ := hB
  rw [ht] at hP1
  obtain ⟨hP, hD⟩ := va_jn (w1 := wX3 cA q82 q82_1 q82_2 q82_3) hP hD hk1 hFc hP1 hD1
  clear hP1 hD1 hK1 hk1 hPc hDc hFc
  generalize H1 = H at hP hS ⊢
  have hP : va_P DD classes ((h0, .inr (10, [.ref q5, .ref q16, .ref q27, .ref q38, .ref q49, .ref q60, .ref q71, .null, .null, .null, .null, .null, .null, .int 0, .int 0])) :: (R7 ++ wX3 cA q82 q82_1 q82_2 q82_3)) H := hP
  have hD : va_D A ((h0, .inr (10, [.ref q5, .ref q16, .ref q27, .ref q38, .ref q49, .ref q60, .ref q71, .null, .null, .null, .null, .null, .null, .int 0, .int 0])) :: (R7 ++ wX3 cA q82 q82_1 q82_2 q82_3)) := hD
  generalize hR8 : R7 ++ wX3 cA q82 q82_1 q82_2 q82_3 = R8 at hP hD
  have hP : va_P DD classes (((h0, .inr (10, [.ref q5, .ref q16, .ref q27, .ref q38, .ref q49, .ref q60, .ref q71, .null, .null, .null, .null, .null, .null, .int 0, .int 0])) :: R8)) H := hP
  have hD : va_D A (((h0, .inr (10, [.ref q5, .ref q16, .ref q27, .ref q38, .ref q49, .ref q60, .ref q71, .null, .null, .null, .null, .null, .null, .int 0, .int 0])) :: R8)) := hD
  refine W.widen (k := 82) (n := 4012) (by omega) (by omega) ?_
  refine va_putF (D := DD) (ci := 10) (v := .ref q82) (ty := .object "TubesOfCourt$Knocks") (C := RX10) (T := TX10) (N := 15) hx hb hts wsi10 tyX10 tyX10_ok nmX10 hown hK hP hD hS 0 rfl rfl 7 (by decide) (hts (.fieldLink RX10 53 "TubesOfCourt" "knocks" "LTubesOfCourt$Knocks;") (wat_mem (k := 38) (by decide +kernel))) (fun _ h9 => h9) rfl hin rfl (by decide +kernel) rfl rfl (Nat.le_of_ble_eq_true rfl) dk_X10_init_89 (fun H locs hP hD hS => ?_)
  have hP : va_P DD classes (((h0, .inr (10, [.ref q5, .ref q16, .ref q27, .ref q38, .ref q49, .ref q60, .ref q71, .ref q82, .null, .null, .null, .null, .null, .int 0, .int 0])) :: R8)) H := hP
  have hD : va_D A (((h0, .inr (10, [.ref q5, .ref q16, .ref q27, .ref q38, .ref q49, .ref q60, .ref q71, .ref q82, .null, .null, .null, .null, .null, .int 0, .int 0])) :: R8)) := hD
  refine lv_aload_n hx hb dk_X10_init_92 rfl (lv_at hl 0 rfl) ?_
  refine va_new (ci := 2) (fs := dfX2) (C := RX2) (T := TX2) (N := 3) hx hb hts wsi2 tyX2 tyX2_ok hown (hts (.classLink RX10 57 RX2) (wat_mem (k := 39) (by decide +kernel))) (hts (.instantiable RX2 3) (wat_mem (k := 40) (by decide +kernel))) (hts (.initialized RX2) (wat_mem (k := 41) (by decide +kernel))) hK hP hD hS hA rfl dfX2_ok (Nat.le_of_ble_eq_true rfl) (Nat.le_of_ble_eq_true rfl) dk_X10_init_93 (fun q93 H hP hD hS => ?_)
  have hP : va_P DD classes (((h0, .inr (10, [.ref q5, .ref q16, .ref q27, .ref q38, .ref q49, .ref q60, .ref q71, .ref q82, .null, .null, .null, .null, .null, .int 0, .int 0])) :: R8) ++ [(q93, .inr (2, [.null, .int 0, .int 0]))]) H := hP
  have hD : va_D A (((h0, .inr (10, [.ref q5, .ref q16, .ref q27, .ref q38, .ref q49, .ref q60, .ref q71, .ref q82, .null, .null, .null, .null, .null, .int 0, .int 0])) :: R8) ++ [(q93, .inr (2, [.null, .int 0, .int 0]))]) := hD
  refine W.widen (k := 83) (n := 4015) (by omega) (by omega) ?_
  refine lv_dup hx hb dk_X10_init_96 rfl ?_
  have hPc := va_lastP hP
  have hDc := va_lastD hD
  have hFc := va_lastF hD hS hA
  refine va_callv (va_runIN (As := []) (rest := [.ref q93, .ref h0]) (host := RX10) ⟨hx, hb, hml, hown, hts⟩ (mk_X2 l DD cA q93 H.size) ⟨va_cnB 0 hts gk_X2 rfl rfl rfl (hT.2.2 (RX10, 59, yX2_init, RX10) (List.mem_of_getElem? (i := 6) (by decide +kernel))) (hts (.initialized RX2) (wat_mem (k := 41) (by decide +kernel))) ⟨by decide +kernel, by decide +kernel, by decide +kernel⟩ ⟨(Nat.le_of_ble_eq_true rfl), (Nat.le_of_ble_eq_true rfl)⟩, rfl, (hts (.instanceMethod yX2_init) (wat_mem (k := 114) (by decide +kernel)))⟩ ⟨fun a U g mk q => by obtain ⟨q0, q1, qP, qK, qD⟩ := q; exact ⟨q0, q1, qP, va_K.moved (u := U) (U := U.calling g mk a) (Vm.Alike.refl U.vm) qK, qD⟩, fun U hU hW => ⟨rfl, by rw [hU], by rw [hU]; exact hPc, va_K.moved hW.alike hK, hDc.weaken (fun _ _ _ _ => trivial)⟩⟩ rfl rfl hl.1 rfl (lv_room (Nat.le_of_ble_eq_true rfl)) dk_X10_init_97 ⟨(Nat.le_of_ble_eq_true rfl), (Nat.le_of_ble_eq_true rfl)⟩) hS (fun q _ h => hFc q h) hFc (fun u t H1 locs ht hvm h5 hB hz1 hk1 hS => ?_)
  obtain ⟨q93_1, hP1, hK1, hD1⟩ := hB
  rw [ht] at hP1
  obtain ⟨hP, hD⟩ := va_jn (w1 := wX2 cA q93 q93_1) hP hD hk1 hFc hP1 hD1
  clear hP1 hD1 hK1 hk1 hPc hDc hFc
  generalize H1 = H at hP hS ⊢
  have hP : va_P DD classes ((h0, .inr (10, [.ref q5, .ref q16, .ref q27, .ref q38, .ref q49, .ref q60, .ref q71, .ref q82, .null, .null, .null, .null, .null, .int 0, .int 0])) :: (R8 ++ wX2 cA q93 q93_1)) H := hP
  have hD : va_D A ((h0, .inr (10, [.ref q5, .ref q16, .ref q27, .ref q38, .ref q49, .ref q60, .ref q71, .ref q82, .null, .null, .null, .null, .null, .int 0, .int 0])) :: (R8 ++ wX2 cA q93 q93_1)) := hD
  generalize hR9 : R8 ++ wX2 cA q93 q93_1 = R9 at hP hD
  have hP : va_P DD classes (((h0, .inr (10, [.ref q5, .ref q16, .ref q27, .ref q38, .ref q49, .ref q60, .ref q71, .ref q82, .null, .null, .null, .null, .null, .int 0, .int 0])) :: R9)) H := hP
  have hD : va_D A (((h0, .inr (10, [.ref q5, .ref q16, .ref q27, .ref q38, .ref q49, .ref q60, .ref q71, .ref q82, .null, .null, .null, .null, .null, .int 0, .int 0])) :: R9)) := hD
  refine W.widen (k := 84) (n := 4023) (by omega) (by omega) ?_
  refine va_putF (D := DD) (ci := 10) (v := .ref q93) (ty := .object "TubesOfCourt$Joining") (C := RX10) (T := TX10) (N := 15) hx hb hts wsi10 tyX10 tyX10_ok nmX10 hown hK hP hD hS 0 rfl rfl 8 (by decide) (hts (.fieldLink RX10 60 "TubesOfCourt" "joining" "LTubesOfCourt$Joining;") (wat_mem (k := 42) (by decide +kernel))) (fun _ h9 => h9) rfl hin rfl (by decide +kernel) rfl rfl (Nat.le_of_ble_eq_true rfl) dk_X10_init_100 (fun H locs hP hD hS => ?_)
  have hP : va_P DD classes (((h0, .inr (10, [.ref q5, .ref q16, .ref q27, .ref q38, .ref q49, .ref q60, .ref q71, .ref q82, .ref q93, .null, .null, .null, .null, .int 0, .int 0])) :: R9)) H := hP
  have hD : va_D A (((h0, .inr (10, [.ref q5, .ref q16, .ref q27, .ref q38, .ref q49, .ref q60, .ref q71, .ref q82, .ref q93, .null, .null, .null, .null, .int 0, .int 0])) :: R9)) := hD
  refine lv_aload_n hx hb dk_X10_init_103 rfl (lv_at hl 0 rfl) ?_
  refine va_new (ci := 6) (fs := dfX6) (C := RX6) (T := TX6) (N := 6) hx hb hts wsi6 tyX6 tyX6_ok hown (hts (.classLink RX10 64 RX6) (wat_mem (k := 43) (by decide +kernel))) (hts (.instantiable RX6 6) (wat_mem (k := 44) (by decide +kernel))) (hts (.initialized RX6) (wat_mem (k := 45) (by decide +kernel))) hK hP hD hS hA rfl dfX6_ok (Nat.le_of_ble_eq_true rfl) (Nat.le_of_ble_eq_true rfl) dk_X10_init_104 (fun q104 H hP hD hS => ?_)
  have hP : va_P DD classes (((h0, .inr (10, [.ref q5, .ref q16, .ref q27, .ref q38, .ref q49, .ref q60, .ref q71, .ref q82, .ref q93, .null, .null, .null, .null, .int 0, .int 0])) :: R9) ++ [(q104, .inr (6, [.null, .null, .int 0, .int 0, .int 0, .int 0]))]) H := hP
  have hD : va_D A (((h0, .inr (10, [.ref q5, .ref q16, .ref q27, .ref q38, .ref q49, .ref q60, .ref q71, .ref q82, .ref q93, .null, .null, .null, .null, .int 0, .int 0])) :: R9) ++ [(q104, .inr (6, [.null, .null, .int 0, .int 0, .int 0, .int 0]))]) := hD
  refine W.widen (k := 85) (n := 4029) (by omega) (by omega) ?_
  refine lv_dup hx hb dk_X10_init_107 rfl ?_
  have hPc := va_lastP hP
  have hDc := va_lastD hD
  have hFc := va_lastF hD hS hA
  refine va_callv (va_runIN (As := []) (rest := [.ref q104, .ref h0]) (host := RX10) ⟨hx, hb, hml, hown, hts⟩ (mk_X6 l DD cA q104 H.size) ⟨va_cnB 0 hts gk_X6 rfl rfl rfl (hT.2.2 (RX10, 66, yX6_init, RX10) (List.mem_of_getElem? (i := 7) (by decide +kernel))) (hts (.initialized RX6) (wat_mem (k := 45) (by decide +kernel))) ⟨by decide +kernel, by decide +kernel, by decide +kernel⟩ ⟨(Nat.le_of_ble_eq_true rfl), (Nat.le_of_ble_eq_true rfl)⟩, rfl, (hts (.instanceMethod yX6_init) (wat_mem (k := 120) (by decide +kernel)))⟩ ⟨fun a U g mk q => by obtain ⟨q0, q1, qP, qK, qD⟩ := q; exact ⟨q0, q1, qP, va_K.moved (u := U) (U := U.calling g mk a) (Vm.Alike.refl U.vm) qK, qD⟩, fun U hU hW => ⟨rfl, by rw [hU], by rw [hU]; exact hPc, va_K.moved hW.alike hK, hDc.weaken (fun _ _ _ _ => trivial)⟩⟩ rfl rfl hl.1 rfl (lv_room (Nat.le_of_ble_eq_true rfl)) dk_X10_init_108 ⟨(Nat.le_of_ble_eq_true rfl), (Nat.le_of_ble_eq_true rfl)⟩) hS (fun q _ h => hFc q h) hFc (fun u t H1 locs ht hvm h5 hB hz1 hk1 hS => ?_)
  obtain ⟨q104_1, q104_2, hP1, hK1, hD1⟩ := hB
  rw [ht] at hP1
  obtain ⟨hP, hD⟩ := va_jn (w1 := wX6 cA q104 q104_1 q104_2) hP hD hk1 hFc hP1 hD1
  clear hP1 hD1 hK1 hk1 hPc hDc hFc
  generalize H1 = H at hP hS ⊢
  have hP : va_P DD classes ((h0, .inr (10, [.ref q5, .ref q16, .ref q27, .ref q38, .ref q49, .ref q60, .ref q71, .ref q82, .ref q93, .null, .null, .null, .null, .int 0, .int 0])) :: (R9 ++ wX6 cA q104 q104_1 q104_2)) H := hP
  have hD : va_D A ((h0, .inr (10, [.ref q5, .ref q16, .ref q27, .ref q38, .ref q49, .ref q60, .ref q71, .ref q82, .ref q93, .null, .null, .null, .null, .int 0, .int 0])) :: (R9 ++ wX6 cA q104 q104_1 q104_2)) := hD
  generalize hR10 : R9 ++ wX6 cA q104 q104_1 q104_2 = R10 at hP hD
  have hP : va_P DD classes (((h0, .inr (10, [.ref q5, .ref q16, .ref q27, .ref q38, .ref q49, .ref q60, .ref q71, .ref q82, .ref q93, .null, .null, .null, .null, .int 0, .int 0])) :: R10)) H := hP
  have hD : va_D A (((h0, .inr (10, [.ref q5, .ref q16, .ref q27, .ref q38, .ref q49, .ref q60, .ref q71, .ref q82, .ref q93, .null, .null, .null, .null, .int 0, .int 0])) :: R10)) := hD
  refine W.widen (k := 87) (n := 4193) (by omega) (by omega) ?_
  refine va_putF (D := DD) (ci := 10) (v := .ref q104) (ty := .object "TubesOfCourt$PlanReader") (C := RX10) (T := TX10) (N := 15) hx hb hts wsi10 tyX10 tyX10_ok nmX10 hown hK hP hD hS 0 rfl rfl 9 (by decide) (hts (.fieldLink RX10 67 "TubesOfCourt" "reader" "LTubesOfCourt$PlanReader;") (wat_mem (k := 46) (by decide +kernel))) (fun _ h9 => h9) rfl hin rfl (by decide +kernel) rfl rfl (Nat.le_of_ble_eq_true rfl) dk_X10_init_111 (fun H locs hP hD hS => ?_)
  have hP : va_P DD classes (((h0, .inr (10, [.ref q5, .ref q16, .ref q27, .ref q38, .ref q49, .ref q60, .ref q71, .ref q82, .ref q93, .ref q104, .null, .null, .null, .int 0, .int 0])) :: R10)) H := hP
  have hD : va_D A (((h0, .inr (10, [.ref q5, .ref q16, .ref q27, .ref q38, .ref q49, .ref q60, .ref q71, .ref q82, .ref q93, .ref q104, .null, .null, .null, .int 0, .int 0])) :: R10)) := hD
  refine lv_aload_n hx hb dk_X10_init_114 rfl (lv_at hl 0 rfl) ?_
  refine va_new (ci := 1) (fs := dfX1) (C := RX1) (T := TX1) (N := 2) hx hb hts wsi1 tyX1 tyX1_ok hown (hts (.classLink RX10 71 RX1) (wat_mem (k := 47) (by decide +kernel))) (hts (.instantiable RX1 2) (wat_mem (k := 48) (by decide +kernel))) (hts (.initialized RX1) (wat_mem (k := 49) (by decide +kernel))) hK hP hD hS hA rfl dfX1_ok (Nat.le_of_ble_eq_true rfl) (Nat.le_of_ble_eq_true rfl) dk_X10_init_115 (fun q115 H hP hD hS => ?_)
  have hP : va_P DD classes (((h0, .inr (10, [.ref q5, .ref q16, .ref q27, .ref q38, .ref q49, .ref q60, .ref q71, .ref q82, .ref q93, .ref q104, .null, .null, .null, .int 0, .int 0])) :: R10) ++ [(q115, .inr (1, [.int 0, .int 0]))]) H := hP
  have hD : va_D A (((h0, .inr (10, [.ref q5, .ref q16, .ref q27, .ref q38, .ref q49, .ref q60, .ref q71, .ref q82, .ref q93, .ref q104, .null, .null, .null, .int 0, .int 0])) :: R10) ++ [(q115, .inr (1, [.int 0, .int 0]))]) := hD
  refine W.widen (k := 88) (n := 4195) (by omega) (by omega) ?_
  refine lv_dup hx hb dk_X10_init_118 rfl ?_
  have hPc := va_lastP hP
  have hDc := va_lastD hD
  have hFc := va_lastF hD hS hA
  refine va_callv (va_runIN (As := []) (rest := [.ref q115, .ref h0]) (host := RX10) ⟨hx, hb, hml, hown, hts⟩ (mk_X1 l DD cA q115 H.size) ⟨va_cnB 0 hts gk_X1 rfl rfl rfl (hT.2.2 (RX10, 73, yX1_init, RX10) (List.mem_of_getElem? (i := 8) (by decide +kernel))) (hts (.initialized RX1) (wat_mem (k := 49) (by decide +kernel))) ⟨by decide +kernel, by decide +kernel, by decide +kernel⟩ ⟨(Nat.le_of_ble_eq_true rfl), (Nat.le_of_ble_eq_true rfl)⟩, rfl, (hts (.instanceMethod yX1_init) (wat_mem (k := 129) (by decide +kernel)))⟩ ⟨fun a U g mk q => by obtain ⟨q0, q1, qP, qK, qD⟩ := q; exact ⟨q0, q1, qP, va_K.moved (u := U) (U := U.calling g mk a) (Vm.Alike.refl U.vm) qK, qD⟩, fun U hU hW => ⟨rfl, by rw [hU], by rw [hU]; exact hPc, va_K.moved hW.alike hK, hDc.weaken (fun _ _ _ _ => trivial)⟩⟩ rfl rfl hl.1 rfl (lv_room (Nat.le_of_ble_eq_true rfl)) dk_X10_init_119 ⟨(Nat.le_of_ble_eq_true rfl), (Nat.le_of_ble_eq_true rfl)⟩) hS (fun q _ h => hFc q h) hFc (fun u t H1 locs ht hvm h5 hB hz1 hk1 hS => ?_)
  obtain ⟨hP1, hK1, hD1⟩ := hB
  rw [ht] at hP1
  obtain ⟨hP, hD⟩ := va_jn (w1 := wX1 cA q115) hP hD hk1 hFc hP1 hD1
  clear hP1 hD1 hK1 hk1 hPc hDc hFc
  generalize H1 = H at hP hS ⊢
  have hP : va_P DD classes ((h0, .inr (10, [.ref q5, .ref q16, .ref q27, .ref q38, .ref q49, .ref q60, .ref q71, .ref q82, .ref q93, .ref q104, .null, .null, .null, .int 0, .int 0])) :: (R10 ++ wX1 cA q115)) H := hP
  have hD : va_D A ((h0, .inr (10, [.ref q5, .ref q16, .ref q27, .ref q38, .ref q49, .ref q60, .ref q71, .ref q82, .ref q93, .ref q104, .null, .null, .null, .int 0, .int 0])) :: (R10 ++ wX1 cA q115)) := hD
  generalize hR11 : R10 ++ wX1 cA q115 = R11 at hP hD
  have hP : va_P DD classes (((h0, .inr (10, [.ref q5, .ref q16, .ref q27, .ref q38, .ref q49, .ref q60, .ref q71, .ref q82, .ref q93, .ref q104, .null, .null, .null, .int 0, .int 0])) :: R11)) H := hP
  have hD : va_D A (((h0, .inr (10, [.ref q5, .ref q16, .ref q27, .ref q38, .ref q49, .ref q60, .ref q71, .ref q82, .ref q93, .ref q104, .null, .null, .null, .int 0, .int 0])) :: R11)) := hD
  refine W.widen (k := 88) (n := 4195) (by omega) (by omega) ?_
  refine va_putF (D := DD) (ci := 10) (v := .ref q115) (ty := .object "TubesOfCourt$Days") (C := RX10) (T := TX10) (N := 15) hx hb hts wsi10 tyX10 tyX10_ok nmX10 hown hK hP hD hS 0 rfl rfl 10 (by decide) (hts (.fieldLink RX10 74 "TubesOfCourt" "days" "LTubesOfCourt$Days;") (wat_mem (k := 50) (by decide +kernel))) (fun _ h9 => h9) rfl hin rfl (by decide +kernel) rfl rfl (Nat.le_of_ble_eq_true rfl) dk_X10_init_122 (fun H locs hP hD hS => ?_)
  have hP : va_P DD classes (((h0, .inr (10, [.ref q5, .ref q16, .ref q27, .ref q38, .ref q49, .ref q60, .ref q71, .ref q82, .ref q93, .ref q104, .ref q115, .null, .null, .int 0, .int 0])) :: R11)) H := hP
  have hD : va_D A (((h0, .inr (10, [.ref q5, .ref q16, .ref q27, .ref q38, .ref q49, .ref q60, .ref q71, .ref q82, .ref q93, .ref q104, .ref q115, .null, .null, .int 0, .int 0])) :: R11)) := hD
  refine lv_aload_n hx hb dk_X10_init_125 rfl (lv_at hl 0 rfl) ?_
  refine va_new (ci := 5) (fs := dfX5) (C := RX5) (T := TX5) (N := 5) hx hb hts wsi5 tyX5 tyX5_ok hown (hts (.classLink RX10 78 RX5) (wat_mem (k := 51) (by decide +kernel))) (hts (.instantiable RX5 5) (wat_mem (k := 52) (by decide +kernel))) (hts (.initialized RX5) (wat_mem (k := 53) (by decide +kernel))) hK hP hD hS hA rfl dfX5_ok (Nat.le_of_ble_eq_true rfl) (Nat.le_of_ble_eq_true rfl) dk_X10_init_126 (fun q126 H hP hD hS => ?_)
  have hP : va_P DD classes (((h0, .inr (10, [.ref q5, .ref q16, .ref q27, .ref q38, .ref q49, .ref q60, .ref q71, .ref q82, .ref q93, .ref q104, .ref q115, .null, .null, .int 0, .int 0])) :: R11) ++ [(q126, .inr (5, [.null, .int 0, .int 0, .int 0, .int 0]))]) H := hP
  have hD : va_D A (((h0, .inr (10, [.ref q5, .ref q16, .ref q27, .ref q38, .ref q49, .ref q60, .ref q71, .ref q82, .ref q93, .ref q104, .ref q115, .null, .null, .int 0, .int 0])) :: R11) ++ [(q126, .inr (5, [.null, .int 0, .int 0, .int 0, .int 0]))]) := hD
  refine W.widen (k := 89) (n := 4200) (by omega) (by omega) ?_
  refine lv_dup hx hb dk_X10_init_129 rfl ?_
  have hPc := va_lastP hP
  have hDc := va_lastD hD
  have hFc := va_lastF hD hS hA
  refine va_callv (va_runIN (As := []) (rest := [.ref q126, .ref h0]) (host := RX10) ⟨hx, hb, hml, hown, hts⟩ (mk_X5 l DD cA q126 H.size) ⟨va_cnB 0 hts gk_X5 rfl rfl rfl (hT.2.2 (RX10, 80, yX5_init, RX10) (List.mem_of_getElem? (i := 9) (by decide +kernel))) (hts (.initialized RX5) (wat_mem (k := 53) (by decide +kernel))) ⟨by decide +kernel, by decide +kernel, by decide +kernel⟩ ⟨(Nat.le_of_ble_eq_true rfl), (Nat.le_of_ble_eq_true rfl)⟩, rfl, (hts (.instanceMethod yX5_init) (wat_mem (k := 134) (by decide +kernel)))⟩ ⟨fun a U g mk q => by obtain ⟨q0, q1, qP, qK, qD⟩ := q; exact ⟨q0, q1, qP, va_K.moved (u := U) (U := U.calling g mk a) (Vm.Alike.refl U.vm) qK, qD⟩, fun U hU hW => ⟨rfl, by rw [hU], by rw [hU]; exact hPc, va_K.moved hW.alike hK, hDc.weaken (fun _ _ _ _ => trivial)⟩⟩ rfl rfl hl.1 rfl (lv_room (Nat.le_of_ble_eq_true rfl)) dk_X10_init_130 ⟨(Nat.le_of_ble_eq_true rfl), (Nat.le_of_ble_eq_true rfl)⟩) hS (fun q _ h => hFc q h) hFc (fun u t H1 locs ht hvm h5 hB hz1 hk1 hS => ?_)
  obtain ⟨q126_1, hP1, hK1, hD1⟩ := hB
  rw [ht] at hP1
  obtain ⟨hP, hD⟩ := va_jn (w1 := wX5 cA q126 q126_1) hP hD hk1 hFc hP1 hD1
  clear hP1 hD1 hK1 hk1 hPc hDc hFc
  generalize H1 = H at hP hS ⊢
  have hP : va_P DD classes ((h0, .inr (10, [.ref q5, .ref q16, .ref q27, .ref q38, .ref q49, .ref q60, .ref q71, .ref q82, .ref q93, .ref q104, .ref q115, .null, .null, .int 0, .int 0])) :: (R11 ++ wX5 cA q126 q126_1)) H := hP
  have hD : va_D A ((h0, .inr (10, [.ref q5, .ref q16, .ref q27, .ref q38, .ref q49, .ref q60, .ref q71, .ref q82, .ref q93, .ref q104, .ref q115, .null, .null, .int 0, .int 0])) :: (R11 ++ wX5 cA q126 q126_1)) := hD
  generalize hR12 : R11 ++ wX5 cA q126 q126_1 = R12 at hP hD
  have hP : va_P DD classes (((h0, .inr (10, [.ref q5, .ref q16, .ref q27, .ref q38, .ref q49, .ref q60, .ref q71, .ref q82, .ref q93, .ref q104, .ref q115, .null, .null, .int 0, .int 0])) :: R12)) H := hP
  have hD : va_D A (((h0, .inr (10, [.ref q5, .ref q16, .ref q27, .ref q38, .ref q49, .ref q60, .ref q71, .ref q82, .ref q93, .ref q104, .ref q115, .null, .null, .int 0, .int 0])) :: R12)) := hD
  refine W.widen (k := 90) (n := 4220) (by omega) (by omega) ?_
  refine va_putF (D := DD) (ci := 10) (v := .ref q126) (ty := .object "TubesOfCourt$Moves") (C := RX10) (T := TX10) (N := 15) hx hb hts wsi10 tyX10 tyX10_ok nmX10 hown hK hP hD hS 0 rfl rfl 11 (by decide) (hts (.fieldLink RX10 81 "TubesOfCourt" "moves" "LTubesOfCourt$Moves;") (wat_mem (k := 54) (by decide +kernel))) (fun _ h9 => h9) rfl hin rfl (by decide +kernel) rfl rfl (Nat.le_of_ble_eq_true rfl) dk_X10_init_133 (fun H locs hP hD hS => ?_)
  have hP : va_P DD classes (((h0, .inr (10, [.ref q5, .ref q16, .ref q27, .ref q38, .ref q49, .ref q60, .ref q71, .ref q82, .ref q93, .ref q104, .ref q115, .ref q126, .null, .int 0, .int 0])) :: R12)) H := hP
  have hD : va_D A (((h0, .inr (10, [.ref q5, .ref q16, .ref q27, .ref q38, .ref q49, .ref q60, .ref q71, .ref q82, .ref q93, .ref q104, .ref q115, .ref q126, .null, .int 0, .int 0])) :: R12)) := hD
  refine lv_aload_n hx hb dk_X10_init_136 rfl (lv_at hl 0 rfl) ?_
  refine lv_bipush (v := 8) hx hb dk_X10_init_137 (by decide) ?_
  refine va_newa (atype := .int) hx hb (hts (.arrayClass .int) (wat_mem (k := 55) (by decide +kernel))) rfl hK hP hD hS hA (a0 := (8, .inl (fun _ => 0))) (fun _ => rfl) (by decide) (N' := 8) (by decide) (Nat.le_of_ble_eq_true rfl) (Nat.le_of_ble_eq_true rfl) (Nat.le_of_ble_eq_true rfl) dk_X10_init_139 (fun q139 cQ H hKq hP hD hS => ?_)
  obtain rfl := ty_int hKq
  clear hKq
  have hP : va_P DD classes (((h0, .inr (10, [.ref q5, .ref q16, .ref q27, .ref q38, .ref q49, .ref q60, .ref q71, .ref q82, .ref q93, .ref q104, .ref q115, .ref q126, .null, .int 0, .int 0])) :: R12) ++ [cI q139 cA 8]) H := hP
  have hD : va_D A (((h0, .inr (10, [.ref q5, .ref q16, .ref q27, .ref q38, .ref q49, .ref q60, .ref q71, .ref q82, .ref q93, .ref q104, .ref q115, .ref q126, .null, .int 0, .int 0])) :: R12) ++ [cI q139 cA 8]) := hD
  refine W.widen (k := 91) (n := 4228) (by omega) (by omega) ?_
  refine va_putF (D := DD) (ci := 10) (v := .ref q139) (ty := .array .int) (C := RX10) (T := TX10) (N := 15) hx hb hts wsi10 tyX10 tyX10_ok nmX10 hown hK hP hD hS 0 rfl rfl 12 (by decide) (hts (.fieldLink RX10 85 "TubesOfCourt" "refusals" "[I") (wat_mem (k := 56) (by decide +kernel))) (fun _ h9 => h9) rfl hin rfl (by decide +kernel) rfl rfl (Nat.le_of_ble_eq_true rfl) dk_X10_init_141 (fun H locs hP hD hS => ?_)
  have hP : va_P DD classes (((h0, .inr (10, [.ref q5, .ref q16, .ref q27, .ref q38, .ref q49, .ref q60, .ref q71, .ref q82, .ref q93, .ref q104, .ref q115, .ref q126, .ref q139, .int 0, .int 0])) :: R12) ++ [cI q139 cA 8]) H := hP
  have hD : va_D A (((h0, .inr (10, [.ref q5, .ref q16, .ref q27, .ref q38, .ref q49, .ref q60, .ref q71, .ref q82, .ref q93, .ref q104, .ref q115, .ref q126, .ref q139, .int 0, .int 0])) :: R12) ++ [cI q139 cA 8]) := hD
  refine lv_aload_n hx hb dk_X10_init_144 rfl (lv_at hl 0 rfl) ?_
  refine lv_iconst (v := 0) hx hb dk_X10_init_145 (by decide) ?_
  refine va_put (D := DD) (ci := 10) (v := .int 0) (ty := .boolean) (C := RX10) (T := TX10) (N := 15) hx hb hts wsi10 tyX10 tyX10_ok nmX10 hown hK hP hD hS 0 rfl rfl 13 (by decide) (hts (.fieldLink RX10 89 "TubesOfCourt" "imageTaken" "Z") (wat_mem (k := 57) (by decide +kernel))) (fun _ h9 => h9) rfl (by decide +kernel) rfl rfl (Nat.le_of_ble_eq_true rfl) dk_X10_init_146 (fun H locs hP hD hS => ?_)
  have hP : va_P DD classes (((h0, .inr (10, [.ref q5, .ref q16, .ref q27, .ref q38, .ref q49, .ref q60, .ref q71, .ref q82, .ref q93, .ref q104, .ref q115, .ref q126, .ref q139, .int 0, .int 0])) :: R12) ++ [cI q139 cA 8]) H := hP
  have hD : va_D A (((h0, .inr (10, [.ref q5, .ref q16, .ref q27, .ref q38, .ref q49, .ref q60, .ref q71, .ref q82, .ref q93, .ref q104, .ref q115, .ref q126, .ref q139, .int 0, .int 0])) :: R12) ++ [cI q139 cA 8]) := hD
  refine lv_aload_n hx hb dk_X10_init_149 rfl (lv_at hl 0 rfl) ?_
  refine lv_iconst (v := (-1)) hx hb dk_X10_init_150 (by decide) ?_
  refine va_put (D := DD) (ci := 10) (v := .int (-1)) (ty := .int) (C := RX10) (T := TX10) (N := 15) hx hb hts wsi10 tyX10 tyX10_ok nmX10 hown hK hP hD hS 0 rfl rfl 14 (by decide) (hts (.fieldLink RX10 93 "TubesOfCourt" "latestFault" "I") (wat_mem (k := 58) (by decide +kernel))) (fun _ h9 => h9) rfl (by decide +kernel) rfl rfl (Nat.le_of_ble_eq_true rfl) dk_X10_init_151 (fun H locs hP hD hS => ?_)
  have hP : va_P DD classes (((h0, .inr (10, [.ref q5, .ref q16, .ref q27, .ref q38, .ref q49, .ref q60, .ref q71, .ref q82, .ref q93, .ref q104, .ref q115, .ref q126, .ref q139, .int 0, .int (-1)])) :: R12) ++ [cI q139 cA 8]) H := hP
  have hD : va_D A (((h0, .inr (10, [.ref q5, .ref q16, .ref q27, .ref q38, .ref q49, .ref q60, .ref q71, .ref q82, .ref q93, .ref q104, .ref q115, .ref q126, .ref q139, .int 0, .int (-1)])) :: R12) ++ [cI q139 cA 8]) := hD
  subst hR1
  subst hR2
  subst hR3
  subst hR4
  subst hR5
  subst hR6
  subst hR7
  subst hR8
  subst hR9
  subst hR10
  subst hR11
  subst hR12
  exact W.vret hx hb hr (fun t ht hW => ⟨⟨(), rfl, trivial, q5, q5_1, q5_2, q5_3, q5_4, q5_5, q5_6, q5_7, q5_8, q5_9, q16, q16_1, q16_2, q16_3, q16_4, q16_5, q16_6, q16_7, q16_8, q16_9, q27, q27_1, q27_2, q27_3, q27_4, q27_5, q27_6, q27_7, q27_8, q27_9, q38, q38_1, q38_2, q38_3, q49, q49_1, q49_2, q49_3, q49_4, q49_5, q49_6, q60, q60_1, q71, q71_1, q71_2, q82, q82_1, q82_2, q82_3, q93, q93_1, q104, q104_1, q104_2, q115, q126, q126_1, q139, by rw [ht]; exact hP, va_K.moved hW.alike hK, hD⟩, hS.F ht⟩) hS.2.2 dk_X10_init_154
