/-! THE MAKERS of the class -/
theorem dk_X4_init_0 : decode cX4_init 0 = .ok (.aload_n 0, 1) := by decide +kernel
theorem dk_X4_init_1 : decode cX4_init 1 = .ok (.invokespecial 3, 3) := by decide +kernel
theorem dk_X4_init_4 : decode cX4_init 4 = .ok (.aload_n 0, 1) := by decide +kernel
theorem dk_X4_init_5 : decode cX4_init 5 = .ok (.iconst 0, 1) := by decide +kernel
theorem dk_X4_init_6 : decode cX4_init 6 = .ok (.putfield 9, 3) := by decide +kernel
theorem dk_X4_init_9 : decode cX4_init 9 = .ok (.aload_n 0, 1) := by decide +kernel
theorem dk_X4_init_10 : decode cX4_init 10 = .ok (.bipush 8, 2) := by decide +kernel
theorem dk_X4_init_12 : decode cX4_init 12 = .ok (.newarray .int, 2) := by decide +kernel
theorem dk_X4_init_14 : decode cX4_init 14 = .ok (.putfield 15, 3) := by decide +kernel
theorem dk_X4_init_17 : decode cX4_init 17 = .ok (.aload_n 0, 1) := by decide +kernel
theorem dk_X4_init_18 : decode cX4_init 18 = .ok (.iconst 0, 1) := by decide +kernel
theorem dk_X4_init_19 : decode cX4_init 19 = .ok (.putfield 19, 3) := by decide +kernel
theorem dk_X4_init_22 : decode cX4_init 22 = .ok (.aload_n 0, 1) := by decide +kernel
theorem dk_X4_init_23 : decode cX4_init 23 = .ok (.bipush 16, 2) := by decide +kernel
theorem dk_X4_init_25 : decode cX4_init 25 = .ok (.newarray .int, 2) := by decide +kernel
theorem dk_X4_init_27 : decode cX4_init 27 = .ok (.putfield 22, 3) := by decide +kernel
theorem dk_X4_init_30 : decode cX4_init 30 = .ok (.aload_n 0, 1) := by decide +kernel
theorem dk_X4_init_31 : decode cX4_init 31 = .ok (.bipush 16, 2) := by decide +kernel
theorem dk_X4_init_33 : decode cX4_init 33 = .ok (.newarray .int, 2) := by decide +kernel
theorem dk_X4_init_35 : decode cX4_init 35 = .ok (.putfield 25, 3) := by decide +kernel
theorem dk_X4_init_38 : decode cX4_init 38 = .ok (.aload_n 0, 1) := by decide +kernel
theorem dk_X4_init_39 : decode cX4_init 39 = .ok (.bipush 16, 2) := by decide +kernel
theorem dk_X4_init_41 : decode cX4_init 41 = .ok (.newarray .int, 2) := by decide +kernel
theorem dk_X4_init_43 : decode cX4_init 43 = .ok (.putfield 28, 3) := by decide +kernel
theorem dk_X4_init_46 : decode cX4_init 46 = .ok (.aload_n 0, 1) := by decide +kernel
theorem dk_X4_init_47 : decode cX4_init 47 = .ok (.bipush 16, 2) := by decide +kernel
theorem dk_X4_init_49 : decode cX4_init 49 = .ok (.newarray .int, 2) := by decide +kernel
theorem dk_X4_init_51 : decode cX4_init 51 = .ok (.putfield 31, 3) := by decide +kernel
theorem dk_X4_init_54 : decode cX4_init 54 = .ok (.aload_n 0, 1) := by decide +kernel
theorem dk_X4_init_55 : decode cX4_init 55 = .ok (.iconst 0, 1) := by decide +kernel
theorem dk_X4_init_56 : decode cX4_init 56 = .ok (.putfield 34, 3) := by decide +kernel
theorem dk_X4_init_59 : decode cX4_init 59 = .ok (.aload_n 0, 1) := by decide +kernel
theorem dk_X4_init_60 : decode cX4_init 60 = .ok (.iconst 0, 1) := by decide +kernel
theorem dk_X4_init_61 : decode cX4_init 61 = .ok (.putfield 37, 3) := by decide +kernel
theorem dk_X4_init_64 : decode cX4_init 64 = .ok (.aload_n 0, 1) := by decide +kernel
theorem dk_X4_init_65 : decode cX4_init 65 = .ok (.iconst 5, 1) := by decide +kernel
theorem dk_X4_init_66 : decode cX4_init 66 = .ok (.newarray .int, 2) := by decide +kernel
theorem dk_X4_init_68 : decode cX4_init 68 = .ok (.putfield 40, 3) := by decide +kernel
theorem dk_X4_init_71 : decode cX4_init 71 = .ok (.aload_n 0, 1) := by decide +kernel
theorem dk_X4_init_72 : decode cX4_init 72 = .ok (.iconst 5, 1) := by decide +kernel
theorem dk_X4_init_73 : decode cX4_init 73 = .ok (.newarray .int, 2) := by decide +kernel
theorem dk_X4_init_75 : decode cX4_init 75 = .ok (.putfield 43, 3) := by decide +kernel
theorem dk_X4_init_78 : decode cX4_init 78 = .ok (.aload_n 0, 1) := by decide +kernel
theorem dk_X4_init_79 : decode cX4_init 79 = .ok (.iconst 5, 1) := by decide +kernel
theorem dk_X4_init_80 : decode cX4_init 80 = .ok (.newarray .int, 2) := by decide +kernel
theorem dk_X4_init_82 : decode cX4_init 82 = .ok (.putfield 46, 3) := by decide +kernel
theorem dk_X4_init_85 : decode cX4_init 85 = .ok (.aload_n 0, 1) := by decide +kernel
theorem dk_X4_init_86 : decode cX4_init 86 = .ok (.iconst 5, 1) := by decide +kernel
theorem dk_X4_init_87 : decode cX4_init 87 = .ok (.newarray .int, 2) := by decide +kernel
theorem dk_X4_init_89 : decode cX4_init 89 = .ok (.putfield 49, 3) := by decide +kernel
theorem dk_X4_init_92 : decode cX4_init 92 = .ok (.aload_n 0, 1) := by decide +kernel
theorem dk_X4_init_93 : decode cX4_init 93 = .ok (.iconst 5, 1) := by decide +kernel
theorem dk_X4_init_94 : decode cX4_init 94 = .ok (.putfield 52, 3) := by decide +kernel
theorem dk_X4_init_97 : decode cX4_init 97 = .ok (.aload_n 0, 1) := by decide +kernel
theorem dk_X4_init_98 : decode cX4_init 98 = .ok (.iconst 0, 1) := by decide +kernel
theorem dk_X4_init_99 : decode cX4_init 99 = .ok (.putfield 55, 3) := by decide +kernel
theorem dk_X4_init_102 : decode cX4_init 102 = .ok (.aload_n 0, 1) := by decide +kernel
theorem dk_X4_init_103 : decode cX4_init 103 = .ok (.iconst 1, 1) := by decide +kernel
theorem dk_X4_init_104 : decode cX4_init 104 = .ok (.putfield 58, 3) := by decide +kernel
theorem dk_X4_init_107 : decode cX4_init 107 = .ok (.return_, 1) := by decide +kernel
def dfX4 : List Value := [.int 0, .null, .int 0, .null, .null, .null, .null, .int 0, .int 0, .null, .null, .null, .null, .int 0, .int 0, .int 0]
theorem dfX4_ok : ∀ j, j < 16 → defaultValue (tyX4 j) = vp_V dfX4 j := by
  intro j hj
  match j, hj with
  | 0, _ => rfl
  | 1, _ => rfl
  | 2, _ => rfl
  | 3, _ => rfl
  | 4, _ => rfl
  | 5, _ => rfl
  | 6, _ => rfl
  | 7, _ => rfl
  | 8, _ => rfl
  | 9, _ => rfl
  | 10, _ => rfl
  | 11, _ => rfl
  | 12, _ => rfl
  | 13, _ => rfl
  | 14, _ => rfl
  | 15, _ => rfl
  | j + 16, h => exact absurd h (by omega)
abbrev wX4 (cA : Nat → ClassId) (h0 q12 q25 q33 q41 q49 q66 q73 q80 q87 : Nat) : va_W := [(h0, .inr (4, [.int 0, .ref q12, .int 0, .ref q25, .ref q33, .ref q41, .ref q49, .int 0, .int 0, .ref q66, .ref q73, .ref q80, .ref q87, .int 5, .int 0, .int 1])), cI q12 cA 8, cI q25 cA 16, cI q33 cA 16, cI q41 cA 16, cI q49 cA 16, cI q66 cA 5, cI q73 cA 5, cI q80 cA 5, cI q87 cA 5]
abbrev atX4 (DD : va_G) (cA : Nat → ClassId) (A : Nat → Prop) (h0 : Nat) (_ : Unit) (t : State) : Prop := ∃ q12 q25 q33 q41 q49 q66 q73 q80 q87 : Nat, va_P DD classes (wX4 cA h0 q12 q25 q33 q41 q49 q66 q73 q80 q87) t.heap ∧ va_K DD classes (tysA cA) t ∧ va_D A (wX4 cA h0 q12 q25 q33 q41 q49 q66 q73 q80 q87)
theorem gk_X4 : GoodIn WS (.code yX4_init cX4_init 1 none :: WS) := gin (fun w hw => by
  rcases List.mem_cons.mp hw with rfl | h
  · exact (wat_mem (k := 60) (by decide +kernel))
  · exact h)
set_option maxHeartbeats 4000000 in
set_option maxRecDepth 100000 in
theorem mk_X4 (l : Launch) (DD : va_G) (cA : Nat → ClassId) (h0 sz : Nat) : Met l yX4_init (.code yX4_init cX4_init 1 none :: WS) ({ frames := 1, cells := 9, slots := 92, locals := 12 } : Room) (va_Pc [.ref h0] (fun U => U.heap.size = sz ∧ va_P DD classes [(h0, .inr (4, dfX4))] U.heap ∧ va_K DD classes (tysA cA) U ∧ va_D (fun _ => True) [(h0, .inr (4, dfX4))])) (va_Qv (fun _ : Unit => True) (atX4 DD cA (va_A [(h0, .inr (4, dfX4))] sz) h0) (va_A [(h0, .inr (4, dfX4))] sz)) 9 92 (va_A [(h0, .inr (4, dfX4))] sz) := by
  refine Met.ofW (cc := cX4_init) (maxL := 1) (ret := none) (by decide +kernel) rfl ?_
  intro p e s m args below meth c s₁ B hml hv
  obtain ⟨rfl, hsz, hP, hK, hD0⟩ := hv
  have hx := B.exec
  have hb := B.bytes
  have hr := B.returns
  have hts0 := atoms_spec (ws := .code yX4_init cX4_init 1 none :: WS) B.pre
  have hts : ∀ w ∈ WS, w.before _ s = true := fun w hw => hts0 w (List.mem_cons_of_mem _ hw)
  have hown : s.vm.findClass RX4 = some m.cls := findClass_of_methodNamed B.named
  have hlocks := B.notSynchronized
  have hin : meth.name = "<init>" := (name_of_methodNamed B.named B.method).1
  subst hsz
  have hD := hD0.self (sz := s.heap.size)
  generalize hAe : va_A [(h0, .inr (4, dfX4))] s.heap.size = A at hD ⊢
  have hA : ∀ q : Nat, s.heap.size ≤ q → A q := fun q h => by rw [← hAe]; exact Or.inr h
  have hS : va_S A s.heap s.heap [] := va_S.rf
  have hP : va_P DD classes [(h0, .inr (4, dfX4))] s.heap := hP
  have hl := lv_entry ([.ref h0]) (n := 1) (Nat.le_of_ble_eq_true rfl)
  rw [lg_entry_eq]
  generalize (lg_sl ([.ref h0]) ++ List.replicate (1 - (lg_sl ([.ref h0])).length) Slot.unset).toArray = ls at hl ⊢
  have hl : lv_has ls 1 [(0, .ref h0)] := hl
  refine lv_aload_n hx hb dk_X4_init_0 rfl (lv_at hl 0 rfl) ?_
  refine W.objInit hx hb hown (hts (.methodLink RX4 3 objectInit) (wat_mem (k := 61) (by decide +kernel))) (hts (.instanceMethod objectInit) (wat_mem (k := 11) (by decide +kernel))) (hts (.code objectInit ⟨#[0xb1]⟩ 1 none) (wat_mem (k := 12) (by decide +kernel))) rfl (by rw [hml]; exact hl.1) rfl dk_X4_init_1 (Nat.le_of_ble_eq_true rfl) (Nat.le_of_ble_eq_true rfl) ?_
  refine W.eq (g2 := F0 m 4 ls []) rfl ?_
  refine lv_aload_n hx hb dk_X4_init_4 rfl (lv_at hl 0 rfl) ?_
  refine lv_iconst (v := 0) hx hb dk_X4_init_5 (by decide) ?_
  refine va_put (D := DD) (ci := 4) (v := .int 0) (ty := .int) (C := RX4) (T := TX4) (N := 16) hx hb hts wsi4 tyX4 tyX4_ok nmX4 hown hK hP hD hS 0 rfl rfl 0 (by decide) (hts (.fieldLink RX4 9 "TubesOfCourt$Ministry" "desks" "I") (wat_mem (k := 62) (by decide +kernel))) (fun _ h9 => h9) rfl (by decide +kernel) rfl rfl (Nat.le_of_ble_eq_true rfl) dk_X4_init_6 (fun H locs hP hD hS => ?_)
  have hP : va_P DD classes ([(h0, .inr (4, [.int 0, .null, .int 0, .null, .null, .null, .null, .int 0, .int 0, .null, .null, .null, .null, .int 0, .int 0, .int 0]))]) H := hP
  have hD : va_D A ([(h0, .inr (4, [.int 0, .null, .int 0, .null, .null, .null, .null, .int 0, .int 0, .null, .null, .null, .null, .int 0, .int 0, .int 0]))]) := hD
  refine lv_aload_n hx hb dk_X4_init_9 rfl (lv_at hl 0 rfl) ?_
  refine lv_bipush (v := 8) hx hb dk_X4_init_10 (by decide) ?_
  refine va_newa (atype := .int) hx hb (hts (.arrayClass .int) (wat_mem (k := 55) (by decide +kernel))) rfl hK hP hD hS hA (a0 := (8, .inl (fun _ => 0))) (fun _ => rfl) (by decide) (N' := 8) (by decide) (Nat.le_of_ble_eq_true rfl) (Nat.le_of_ble_eq_true rfl) (Nat.le_of_ble_eq_true rfl) dk_X4_init_12 (fun q12 cQ H hKq hP hD hS => ?_)
  obtain rfl := ty_int hKq
  clear hKq
  have hP : va_P DD classes ([(h0, .inr (4, [.int 0, .null, .int 0, .null, .null, .null, .null, .int 0, .int 0, .null, .null, .null, .null, .int 0, .int 0, .int 0])), cI q12 cA 8]) H := hP
  have hD : va_D A ([(h0, .inr (4, [.int 0, .null, .int 0, .null, .null, .null, .null, .int 0, .int 0, .null, .null, .null, .null, .int 0, .int 0, .int 0])), cI q12 cA 8]) := hD
  refine W.widen (k := 1) (n := 8) (by omega) (by omega) ?_
  refine va_putF (D := DD) (ci := 4) (v := .ref q12) (ty := .array .int) (C := RX4) (T := TX4) (N := 16) hx hb hts wsi4 tyX4 tyX4_ok nmX4 hown hK hP hD hS 0 rfl rfl 1 (by decide) (hts (.fieldLink RX4 15 "TubesOfCourt$Ministry" "signed" "[I") (wat_mem (k := 63) (by decide +kernel))) (fun _ h9 => h9) rfl hin rfl (by decide +kernel) rfl rfl (Nat.le_of_ble_eq_true rfl) dk_X4_init_14 (fun H locs hP hD hS => ?_)
  have hP : va_P DD classes ([(h0, .inr (4, [.int 0, .ref q12, .int 0, .null, .null, .null, .null, .int 0, .int 0, .null, .null, .null, .null, .int 0, .int 0, .int 0])), cI q12 cA 8]) H := hP
  have hD : va_D A ([(h0, .inr (4, [.int 0, .ref q12, .int 0, .null, .null, .null, .null, .int 0, .int 0, .null, .null, .null, .null, .int 0, .int 0, .int 0])), cI q12 cA 8]) := hD
  refine lv_aload_n hx hb dk_X4_init_17 rfl (lv_at hl 0 rfl) ?_
  refine lv_iconst (v := 0) hx hb dk_X4_init_18 (by decide) ?_
  refine va_put (D := DD) (ci := 4) (v := .int 0) (ty := .int) (C := RX4) (T := TX4) (N := 16) hx hb hts wsi4 tyX4 tyX4_ok nmX4 hown hK hP hD hS 0 rfl rfl 2 (by decide) (hts (.fieldLink RX4 19 "TubesOfCourt$Ministry" "tubes" "I") (wat_mem (k := 64) (by decide +kernel))) (fun _ h9 => h9) rfl (by decide +kernel) rfl rfl (Nat.le_of_ble_eq_true rfl) dk_X4_init_19 (fun H locs hP hD hS => ?_)
  have hP : va_P DD classes ([(h0, .inr (4, [.int 0, .ref q12, .int 0, .null, .null, .null, .null, .int 0, .int 0, .null, .null, .null, .null, .int 0, .int 0, .int 0])), cI q12 cA 8]) H := hP
  have hD : va_D A ([(h0, .inr (4, [.int 0, .ref q12, .int 0, .null, .null, .null, .null, .int 0, .int 0, .null, .null, .null, .null, .int 0, .int 0, .int 0])), cI q12 cA 8]) := hD
  refine lv_aload_n hx hb dk_X4_init_22 rfl (lv_at hl 0 rfl) ?_
  refine lv_bipush (v := 16) hx hb dk_X4_init_23 (by decide) ?_
  refine va_newa (atype := .int) hx hb (hts (.arrayClass .int) (wat_mem (k := 55) (by decide +kernel))) rfl hK hP hD hS hA (a0 := (16, .inl (fun _ => 0))) (fun _ => rfl) (by decide) (N' := 16) (by decide) (Nat.le_of_ble_eq_true rfl) (Nat.le_of_ble_eq_true rfl) (Nat.le_of_ble_eq_true rfl) dk_X4_init_25 (fun q25 cQ H hKq hP hD hS => ?_)
  obtain rfl := ty_int hKq
  clear hKq
  have hP : va_P DD classes ([(h0, .inr (4, [.int 0, .ref q12, .int 0, .null, .null, .null, .null, .int 0, .int 0, .null, .null, .null, .null, .int 0, .int 0, .int 0])), cI q12 cA 8, cI q25 cA 16]) H := hP
  have hD : va_D A ([(h0, .inr (4, [.int 0, .ref q12, .int 0, .null, .null, .null, .null, .int 0, .int 0, .null, .null, .null, .null, .int 0, .int 0, .int 0])), cI q12 cA 8, cI q25 cA 16]) := hD
  refine W.widen (k := 2) (n := 24) (by omega) (by omega) ?_
  refine va_putF (D := DD) (ci := 4) (v := .ref q25) (ty := .array .int) (C := RX4) (T := TX4) (N := 16) hx hb hts wsi4 tyX4 tyX4_ok nmX4 hown hK hP hD hS 0 rfl rfl 3 (by decide) (hts (.fieldLink RX4 22 "TubesOfCourt$Ministry" "from" "[I") (wat_mem (k := 65) (by decide +kernel))) (fun _ h9 => h9) rfl hin rfl (by decide +kernel) rfl rfl (Nat.le_of_ble_eq_true rfl) dk_X4_init_27 (fun H locs hP hD hS => ?_)
  have hP : va_P DD classes ([(h0, .inr (4, [.int 0, .ref q12, .int 0, .ref q25, .null, .null, .null, .int 0, .int 0, .null, .null, .null, .null, .int 0, .int 0, .int 0])), cI q12 cA 8, cI q25 cA 16]) H := hP
  have hD : va_D A ([(h0, .inr (4, [.int 0, .ref q12, .int 0, .ref q25, .null, .null, .null, .int 0, .int 0, .null, .null, .null, .null, .int 0, .int 0, .int 0])), cI q12 cA 8, cI q25 cA 16]) := hD
  refine lv_aload_n hx hb dk_X4_init_30 rfl (lv_at hl 0 rfl) ?_
  refine lv_bipush (v := 16) hx hb dk_X4_init_31 (by decide) ?_
  refine va_newa (atype := .int) hx hb (hts (.arrayClass .int) (wat_mem (k := 55) (by decide +kernel))) rfl hK hP hD hS hA (a0 := (16, .inl (fun _ => 0))) (fun _ => rfl) (by decide) (N' := 16) (by decide) (Nat.le_of_ble_eq_true rfl) (Nat.le_of_ble_eq_true rfl) (Nat.le_of_ble_eq_true rfl) dk_X4_init_33 (fun q33 cQ H hKq hP hD hS => ?_)
  obtain rfl := ty_int hKq
  clear hKq
  have hP : va_P DD classes ([(h0, .inr (4, [.int 0, .ref q12, .int 0, .ref q25, .null, .null, .null, .int 0, .int 0, .null, .null, .null, .null, .int 0, .int 0, .int 0])), cI q12 cA 8, cI q25 cA 16, cI q33 cA 16]) H := hP
  have hD : va_D A ([(h0, .inr (4, [.int 0, .ref q12, .int 0, .ref q25, .null, .null, .null, .int 0, .int 0, .null, .null, .null, .null, .int 0, .int 0, .int 0])), cI q12 cA 8, cI q25 cA 16, cI q33 cA 16]) := hD
  refine W.widen (k := 3) (n := 40) (by omega) (by omega) ?_
  refine va_putF (D := DD) (ci := 4) (v := .ref q33) (ty := .array .int) (C := RX4) (T := TX4) (N := 16) hx hb hts wsi4 tyX4 tyX4_ok nmX4 hown hK hP hD hS 0 rfl rfl 4 (by decide) (hts (.fieldLink RX4 25 "TubesOfCourt$Ministry" "to" "[I") (wat_mem (k := 66) (by decide +kernel))) (fun _ h9 => h9) rfl hin rfl (by decide +kernel) rfl rfl (Nat.le_of_ble_eq_true rfl) dk_X4_init_35 (fun H locs hP hD hS => ?_)
  have hP : va_P DD classes ([(h0, .inr (4, [.int 0, .ref q12, .int 0, .ref q25, .ref q33, .null, .null, .int 0, .int 0, .null, .null, .null, .null, .int 0, .int 0, .int 0])), cI q12 cA 8, cI q25 cA 16, cI q33 cA 16]) H := hP
  have hD : va_D A ([(h0, .inr (4, [.int 0, .ref q12, .int 0, .ref q25, .ref q33, .null, .null, .int 0, .int 0, .null, .null, .null, .null, .int 0, .int 0, .int 0])), cI q12 cA 8, cI q25 cA 16, cI q33 cA 16]) := hD
  refine lv_aload_n hx hb dk_X4_init_38 rfl (lv_at hl 0 rfl) ?_
  refine lv_bipush (v := 16) hx hb dk_X4_init_39 (by decide) ?_
  refine va_newa (atype := .int) hx hb (hts (.arrayClass .int) (wat_mem (k := 55) (by decide +kernel))) rfl hK hP hD hS hA (a0 := (16, .inl (fun _ => 0))) (fun _ => rfl) (by decide) (N' := 16) (by decide) (Nat.le_of_ble_eq_true rfl) (Nat.le_of_ble_eq_true rfl) (Nat.le_of_ble_eq_true rfl) dk_X4_init_41 (fun q41 cQ H hKq hP hD hS => ?_)
  obtain rfl := ty_int hKq
  clear hKq
  have hP : va_P DD classes ([(h0, .inr (4, [.int 0, .ref q12, .int 0, .ref q25, .ref q33, .null, .null, .int 0, .int 0, .null, .null, .null, .null, .int 0, .int 0, .int 0])), cI q12 cA 8, cI q25 cA 16, cI q33 cA 16, cI q41 cA 16]) H := hP
  have hD : va_D A ([(h0, .inr (4, [.int 0, .ref q12, .int 0, .ref q25, .ref q33, .null, .null, .int 0, .int 0, .null, .null, .null, .null, .int 0, .int 0, .int 0])), cI q12 cA 8, cI q25 cA 16, cI q33 cA 16, cI q41 cA 16]) := hD
  refine W.widen (k := 4) (n := 56) (by omega) (by omega) ?_
  refine va_putF (D := DD) (ci := 4) (v := .ref q41) (ty := .array .int) (C := RX4) (T := TX4) (N := 16) hx hb hts wsi4 tyX4 tyX4_ok nmX4 hown hK hP hD hS 0 rfl rfl 5 (by decide) (hts (.fieldLink RX4 28 "TubesOfCourt$Ministry" "length" "[I") (wat_mem (k := 67) (by decide +kernel))) (fun _ h9 => h9) rfl hin rfl (by decide +kernel) rfl rfl (Nat.le_of_ble_eq_true rfl) dk_X4_init_43 (fun H locs hP hD hS => ?_)
  have hP : va_P DD classes ([(h0, .inr (4, [.int 0, .ref q12, .int 0, .ref q25, .ref q33, .ref q41, .null, .int 0, .int 0, .null, .null, .null, .null, .int 0, .int 0, .int 0])), cI q12 cA 8, cI q25 cA 16, cI q33 cA 16, cI q41 cA 16]) H := hP
  have hD : va_D A ([(h0, .inr (4, [.int 0, .ref q12, .int 0, .ref q25, .ref q33, .ref q41, .null, .int 0, .int 0, .null, .null, .null, .null, .int 0, .int 0, .int 0])), cI q12 cA 8, cI q25 cA 16, cI q33 cA 16, cI q41 cA 16]) := hD
  refine lv_aload_n hx hb dk_X4_init_46 rfl (lv_at hl 0 rfl) ?_
  refine lv_bipush (v := 16) hx hb dk_X4_init_47 (by decide) ?_
  refine va_newa (atype := .int) hx hb (hts (.arrayClass .int) (wat_mem (k := 55) (by decide +kernel))) rfl hK hP hD hS hA (a0 := (16, .inl (fun _ => 0))) (fun _ => rfl) (by decide) (N' := 16) (by decide) (Nat.le_of_ble_eq_true rfl) (Nat.le_of_ble_eq_true rfl) (Nat.le_of_ble_eq_true rfl) dk_X4_init_49 (fun q49 cQ H hKq hP hD hS => ?_)
  obtain rfl := ty_int hKq
  clear hKq
  have hP : va_P DD classes ([(h0, .inr (4, [.int 0, .ref q12, .int 0, .ref q25, .ref q33, .ref q41, .null, .int 0, .int 0, .null, .null, .null, .null, .int 0, .int 0, .int 0])), cI q12 cA 8, cI q25 cA 16, cI q33 cA 16, cI q41 cA 16, cI q49 cA 16]) H := hP
  have hD : va_D A ([(h0, .inr (4, [.int 0, .ref q12, .int 0, .ref q25, .ref q33, .ref q41, .null, .int 0, .int 0, .null, .null, .null, .null, .int 0, .int 0, .int 0])), cI q12 cA 8, cI q25 cA 16, cI q33 cA 16, cI q41 cA 16, cI q49 cA 16]) := hD
  refine W.widen (k := 5) (n := 72) (by omega) (by omega) ?_
  refine va_putF (D := DD) (ci := 4) (v := .ref q49) (ty := .array .int) (C := RX4) (T := TX4) (N := 16) hx hb hts wsi4 tyX4 tyX4_ok nmX4 hown hK hP hD hS 0 rfl rfl 6 (by decide) (hts (.fieldLink RX4 31 "TubesOfCourt$Ministry" "bore" "[I") (wat_mem (k := 68) (by decide +kernel))) (fun _ h9 => h9) rfl hin rfl (by decide +kernel) rfl rfl (Nat.le_of_ble_eq_true rfl) dk_X4_init_51 (fun H locs hP hD hS => ?_)
  have hP : va_P DD classes ([(h0, .inr (4, [.int 0, .ref q12, .int 0, .ref q25, .ref q33, .ref q41, .ref q49, .int 0, .int 0, .null, .null, .null, .null, .int 0, .int 0, .int 0])), cI q12 cA 8, cI q25 cA 16, cI q33 cA 16, cI q41 cA 16, cI q49 cA 16]) H := hP
  have hD : va_D A ([(h0, .inr (4, [.int 0, .ref q12, .int 0, .ref q25, .ref q33, .ref q41, .ref q49, .int 0, .int 0, .null, .null, .null, .null, .int 0, .int 0, .int 0])), cI q12 cA 8, cI q25 cA 16, cI q33 cA 16, cI q41 cA 16, cI q49 cA 16]) := hD
  refine lv_aload_n hx hb dk_X4_init_54 rfl (lv_at hl 0 rfl) ?_
  refine lv_iconst (v := 0) hx hb dk_X4_init_55 (by decide) ?_
  refine va_put (D := DD) (ci := 4) (v := .int 0) (ty := .int) (C := RX4) (T := TX4) (N := 16) hx hb hts wsi4 tyX4 tyX4_ok nmX4 hown hK hP hD hS 0 rfl rfl 7 (by decide) (hts (.fieldLink RX4 34 "TubesOfCourt$Ministry" "shutBits" "I") (wat_mem (k := 69) (by decide +kernel))) (fun _ h9 => h9) rfl (by decide +kernel) rfl rfl (Nat.le_of_ble_eq_true rfl) dk_X4_init_56 (fun H locs hP hD hS => ?_)
  have hP : va_P DD classes ([(h0, .inr (4, [.int 0, .ref q12, .int 0, .ref q25, .ref q33, .ref q41, .ref q49, .int 0, .int 0, .null, .null, .null, .null, .int 0, .int 0, .int 0])), cI q12 cA 8, cI q25 cA 16, cI q33 cA 16, cI q41 cA 16, cI q49 cA 16]) H := hP
  have hD : va_D A ([(h0, .inr (4, [.int 0, .ref q12, .int 0, .ref q25, .ref q33, .ref q41, .ref q49, .int 0, .int 0, .null, .null, .null, .null, .int 0, .int 0, .int 0])), cI q12 cA 8, cI q25 cA 16, cI q33 cA 16, cI q41 cA 16, cI q49 cA 16]) := hD
  refine lv_aload_n hx hb dk_X4_init_59 rfl (lv_at hl 0 rfl) ?_
  refine lv_iconst (v := 0) hx hb dk_X4_init_60 (by decide) ?_
  refine va_put (D := DD) (ci := 4) (v := .int 0) (ty := .int) (C := RX4) (T := TX4) (N := 16) hx hb hts wsi4 tyX4 tyX4_ok nmX4 hown hK hP hD hS 0 rfl rfl 8 (by decide) (hts (.fieldLink RX4 37 "TubesOfCourt$Ministry" "capsules" "I") (wat_mem (k := 70) (by decide +kernel))) (fun _ h9 => h9) rfl (by decide +kernel) rfl rfl (Nat.le_of_ble_eq_true rfl) dk_X4_init_61 (fun H locs hP hD hS => ?_)
  have hP : va_P DD classes ([(h0, .inr (4, [.int 0, .ref q12, .int 0, .ref q25, .ref q33, .ref q41, .ref q49, .int 0, .int 0, .null, .null, .null, .null, .int 0, .int 0, .int 0])), cI q12 cA 8, cI q25 cA 16, cI q33 cA 16, cI q41 cA 16, cI q49 cA 16]) H := hP
  have hD : va_D A ([(h0, .inr (4, [.int 0, .ref q12, .int 0, .ref q25, .ref q33, .ref q41, .ref q49, .int 0, .int 0, .null, .null, .null, .null, .int 0, .int 0, .int 0])), cI q12 cA 8, cI q25 cA 16, cI q33 cA 16, cI q41 cA 16, cI q49 cA 16]) := hD
  refine lv_aload_n hx hb dk_X4_init_64 rfl (lv_at hl 0 rfl) ?_
  refine lv_iconst (v := 5) hx hb dk_X4_init_65 (by decide) ?_
  refine va_newa (atype := .int) hx hb (hts (.arrayClass .int) (wat_mem (k := 55) (by decide +kernel))) rfl hK hP hD hS hA (a0 := (5, .inl (fun _ => 0))) (fun _ => rfl) (by decide) (N' := 5) (by decide) (Nat.le_of_ble_eq_true rfl) (Nat.le_of_ble_eq_true rfl) (Nat.le_of_ble_eq_true rfl) dk_X4_init_66 (fun q66 cQ H hKq hP hD hS => ?_)
  obtain rfl := ty_int hKq
  clear hKq
  have hP : va_P DD classes ([(h0, .inr (4, [.int 0, .ref q12, .int 0, .ref q25, .ref q33, .ref q41, .ref q49, .int 0, .int 0, .null, .null, .null, .null, .int 0, .int 0, .int 0])), cI q12 cA 8, cI q25 cA 16, cI q33 cA 16, cI q41 cA 16, cI q49 cA 16, cI q66 cA 5]) H := hP
  have hD : va_D A ([(h0, .inr (4, [.int 0, .ref q12, .int 0, .ref q25, .ref q33, .ref q41, .ref q49, .int 0, .int 0, .null, .null, .null, .null, .int 0, .int 0, .int 0])), cI q12 cA 8, cI q25 cA 16, cI q33 cA 16, cI q41 cA 16, cI q49 cA 16, cI q66 cA 5]) := hD
  refine W.widen (k := 6) (n := 77) (by omega) (by omega) ?_
  refine va_putF (D := DD) (ci := 4) (v := .ref q66) (ty := .array .int) (C := RX4) (T := TX4) (N := 16) hx hb hts wsi4 tyX4 tyX4_ok nmX4 hown hK hP hD hS 0 rfl rfl 9 (by decide) (hts (.fieldLink RX4 40 "TubesOfCourt$Ministry" "kind" "[I") (wat_mem (k := 71) (by decide +kernel))) (fun _ h9 => h9) rfl hin rfl (by decide +kernel) rfl rfl (Nat.le_of_ble_eq_true rfl) dk_X4_init_68 (fun H locs hP hD hS => ?_)
  have hP : va_P DD classes ([(h0, .inr (4, [.int 0, .ref q12, .int 0, .ref q25, .ref q33, .ref q41, .ref q49, .int 0, .int 0, .ref q66, .null, .null, .null, .int 0, .int 0, .int 0])), cI q12 cA 8, cI q25 cA 16, cI q33 cA 16, cI q41 cA 16, cI q49 cA 16, cI q66 cA 5]) H := hP
  have hD : va_D A ([(h0, .inr (4, [.int 0, .ref q12, .int 0, .ref q25, .ref q33, .ref q41, .ref q49, .int 0, .int 0, .ref q66, .null, .null, .null, .int 0, .int 0, .int 0])), cI q12 cA 8, cI q25 cA 16, cI q33 cA 16, cI q41 cA 16, cI q49 cA 16, cI q66 cA 5]) := hD
  refine lv_aload_n hx hb dk_X4_init_71 rfl (lv_at hl 0 rfl) ?_
  refine lv_iconst (v := 5) hx hb dk_X4_init_72 (by decide) ?_
  refine va_newa (atype := .int) hx hb (hts (.arrayClass .int) (wat_mem (k := 55) (by decide +kernel))) rfl hK hP hD hS hA (a0 := (5, .inl (fun _ => 0))) (fun _ => rfl) (by decide) (N' := 5) (by decide) (Nat.le_of_ble_eq_true rfl) (Nat.le_of_ble_eq_true rfl) (Nat.le_of_ble_eq_true rfl) dk_X4_init_73 (fun q73 cQ H hKq hP hD hS => ?_)
  obtain rfl := ty_int hKq
  clear hKq
  have hP : va_P DD classes ([(h0, .inr (4, [.int 0, .ref q12, .int 0, .ref q25, .ref q33, .ref q41, .ref q49, .int 0, .int 0, .ref q66, .null, .null, .null, .int 0, .int 0, .int 0])), cI q12 cA 8, cI q25 cA 16, cI q33 cA 16, cI q41 cA 16, cI q49 cA 16, cI q66 cA 5, cI q73 cA 5]) H := hP
  have hD : va_D A ([(h0, .inr (4, [.int 0, .ref q12, .int 0, .ref q25, .ref q33, .ref q41, .ref q49, .int 0, .int 0, .ref q66, .null, .null, .null, .int 0, .int 0, .int 0])), cI q12 cA 8, cI q25 cA 16, cI q33 cA 16, cI q41 cA 16, cI q49 cA 16, cI q66 cA 5, cI q73 cA 5]) := hD
  refine W.widen (k := 7) (n := 82) (by omega) (by omega) ?_
  refine va_putF (D := DD) (ci := 4) (v := .ref q73) (ty := .array .int) (C := RX4) (T := TX4) (N := 16) hx hb hts wsi4 tyX4 tyX4_ok nmX4 hown hK hP hD hS 0 rfl rfl 10 (by decide) (hts (.fieldLink RX4 43 "TubesOfCourt$Ministry" "a" "[I") (wat_mem (k := 72) (by decide +kernel))) (fun _ h9 => h9) rfl hin rfl (by decide +kernel) rfl rfl (Nat.le_of_ble_eq_true rfl) dk_X4_init_75 (fun H locs hP hD hS => ?_)
  have hP : va_P DD classes ([(h0, .inr (4, [.int 0, .ref q12, .int 0, .ref q25, .ref q33, .ref q41, .ref q49, .int 0, .int 0, .ref q66, .ref q73, .null, .null, .int 0, .int 0, .int 0])), cI q12 cA 8, cI q25 cA 16, cI q33 cA 16, cI q41 cA 16, cI q49 cA 16, cI q66 cA 5, cI q73 cA 5]) H := hP
  have hD : va_D A ([(h0, .inr (4, [.int 0, .ref q12, .int 0, .ref q25, .ref q33, .ref q41, .ref q49, .int 0, .int 0, .ref q66, .ref q73, .null, .null, .int 0, .int 0, .int 0])), cI q12 cA 8, cI q25 cA 16, cI q33 cA 16, cI q41 cA 16, cI q49 cA 16, cI q66 cA 5, cI q73 cA 5]) := hD
  refine lv_aload_n hx hb dk_X4_init_78 rfl (lv_at hl 0 rfl) ?_
  refine lv_iconst (v := 5) hx hb dk_X4_init_79 (by decide) ?_
  refine va_newa (atype := .int) hx hb (hts (.arrayClass .int) (wat_mem (k := 55) (by decide +kernel))) rfl hK hP hD hS hA (a0 := (5, .inl (fun _ => 0))) (fun _ => rfl) (by decide) (N' := 5) (by decide) (Nat.le_of_ble_eq_true rfl) (Nat.le_of_ble_eq_true rfl) (Nat.le_of_ble_eq_true rfl) dk_X4_init_80 (fun q80 cQ H hKq hP hD hS => ?_)
  obtain rfl := ty_int hKq
  clear hKq
  have hP : va_P DD classes ([(h0, .inr (4, [.int 0, .ref q12, .int 0, .ref q25, .ref q33, .ref q41, .ref q49, .int 0, .int 0, .ref q66, .ref q73, .null, .null, .int 0, .int 0, .int 0])), cI q12 cA 8, cI q25 cA 16, cI q33 cA 16, cI q41 cA 16, cI q49 cA 16, cI q66 cA 5, cI q73 cA 5, cI q80 cA 5]) H := hP
  have hD : va_D A ([(h0, .inr (4, [.int 0, .ref q12, .int 0, .ref q25, .ref q33, .ref q41, .ref q49, .int 0, .int 0, .ref q66, .ref q73, .null, .null, .int 0, .int 0, .int 0])), cI q12 cA 8, cI q25 cA 16, cI q33 cA 16, cI q41 cA 16, cI q49 cA 16, cI q66 cA 5, cI q73 cA 5, cI q80 cA 5]) := hD
  refine W.widen (k := 8) (n := 87) (by omega) (by omega) ?_
  refine va_putF (D := DD) (ci := 4) (v := .ref q80) (ty := .array .int) (C := RX4) (T := TX4) (N := 16) hx hb hts wsi4 tyX4 tyX4_ok nmX4 hown hK hP hD hS 0 rfl rfl 11 (by decide) (hts (.fieldLink RX4 46 "TubesOfCourt$Ministry" "weight" "[I") (wat_mem (k := 73) (by decide +kernel))) (fun _ h9 => h9) rfl hin rfl (by decide +kernel) rfl rfl (Nat.le_of_ble_eq_true rfl) dk_X4_init_82 (fun H locs hP hD hS => ?_)
  have hP : va_P DD classes ([(h0, .inr (4, [.int 0, .ref q12, .int 0, .ref q25, .ref q33, .ref q41, .ref q49, .int 0, .int 0, .ref q66, .ref q73, .ref q80, .null, .int 0, .int 0, .int 0])), cI q12 cA 8, cI q25 cA 16, cI q33 cA 16, cI q41 cA 16, cI q49 cA 16, cI q66 cA 5, cI q73 cA 5, cI q80 cA 5]) H := hP
  have hD : va_D A ([(h0, .inr (4, [.int 0, .ref q12, .int 0, .ref q25, .ref q33, .ref q41, .ref q49, .int 0, .int 0, .ref q66, .ref q73, .ref q80, .null, .int 0, .int 0, .int 0])), cI q12 cA 8, cI q25 cA 16, cI q33 cA 16, cI q41 cA 16, cI q49 cA 16, cI q66 cA 5, cI q73 cA 5, cI q80 cA 5]) := hD
  refine lv_aload_n hx hb dk_X4_init_85 rfl (lv_at hl 0 rfl) ?_
  refine lv_iconst (v := 5) hx hb dk_X4_init_86 (by decide) ?_
  refine va_newa (atype := .int) hx hb (hts (.arrayClass .int) (wat_mem (k := 55) (by decide +kernel))) rfl hK hP hD hS hA (a0 := (5, .inl (fun _ => 0))) (fun _ => rfl) (by decide) (N' := 5) (by decide) (Nat.le_of_ble_eq_true rfl) (Nat.le_of_ble_eq_true rfl) (Nat.le_of_ble_eq_true rfl) dk_X4_init_87 (fun q87 cQ H hKq hP hD hS => ?_)
  obtain rfl := ty_int hKq
  clear hKq
  have hP : va_P DD classes ([(h0, .inr (4, [.int 0, .ref q12, .int 0, .ref q25, .ref q33, .ref q41, .ref q49, .int 0, .int 0, .ref q66, .ref q73, .ref q80, .null, .int 0, .int 0, .int 0])), cI q12 cA 8, cI q25 cA 16, cI q33 cA 16, cI q41 cA 16, cI q49 cA 16, cI q66 cA 5, cI q73 cA 5, cI q80 cA 5, cI q87 cA 5]) H := hP
  have hD : va_D A ([(h0, .inr (4, [.int 0, .ref q12, .int 0, .ref q25, .ref q33, .ref q41, .ref q49, .int 0, .int 0, .ref q66, .ref q73, .ref q80, .null, .int 0, .int 0, .int 0])), cI q12 cA 8, cI q25 cA 16, cI q33 cA 16, cI q41 cA 16, cI q49 cA 16, cI q66 cA 5, cI q73 cA 5, cI q80 cA 5, cI q87 cA 5]) := hD
  refine W.widen (k := 9) (n := 92) (by omega) (by omega) ?_
  refine va_putF (D := DD) (ci := 4) (v := .ref q87) (ty := .array .int) (C := RX4) (T := TX4) (N := 16) hx hb hts wsi4 tyX4 tyX4_ok nmX4 hown hK hP hD hS 0 rfl rfl 12 (by decide) (hts (.fieldLink RX4 49 "TubesOfCourt$Ministry" "at" "[I") (wat_mem (k := 74) (by decide +kernel))) (fun _ h9 => h9) rfl hin rfl (by decide +kernel) rfl rfl (Nat.le_of_ble_eq_true rfl) dk_X4_init_89 (fun H locs hP hD hS => ?_)
  have hP : va_P DD classes ([(h0, .inr (4, [.int 0, .ref q12, .int 0, .ref q25, .ref q33, .ref q41, .ref q49, .int 0, .int 0, .ref q66, .ref q73, .ref q80, .ref q87, .int 0, .int 0, .int 0])), cI q12 cA 8, cI q25 cA 16, cI q33 cA 16, cI q41 cA 16, cI q49 cA 16, cI q66 cA 5, cI q73 cA 5, cI q80 cA 5, cI q87 cA 5]) H := hP
  have hD : va_D A ([(h0, .inr (4, [.int 0, .ref q12, .int 0, .ref q25, .ref q33, .ref q41, .ref q49, .int 0, .int 0, .ref q66, .ref q73, .ref q80, .ref q87, .int 0, .int 0, .int 0])), cI q12 cA 8, cI q25 cA 16, cI q33 cA 16, cI q41 cA 16, cI q49 cA 16, cI q66 cA 5, cI q73 cA 5, cI q80 cA 5, cI q87 cA 5]) := hD
  refine lv_aload_n hx hb dk_X4_init_92 rfl (lv_at hl 0 rfl) ?_
  refine lv_iconst (v := 5) hx hb dk_X4_init_93 (by decide) ?_
  refine va_put (D := DD) (ci := 4) (v := .int 5) (ty := .int) (C := RX4) (T := TX4) (N := 16) hx hb hts wsi4 tyX4 tyX4_ok nmX4 hown hK hP hD hS 0 rfl rfl 13 (by decide) (hts (.fieldLink RX4 52 "TubesOfCourt$Ministry" "pressure" "I") (wat_mem (k := 75) (by decide +kernel))) (fun _ h9 => h9) rfl (by decide +kernel) rfl rfl (Nat.le_of_ble_eq_true rfl) dk_X4_init_94 (fun H locs hP hD hS => ?_)
  have hP : va_P DD classes ([(h0, .inr (4, [.int 0, .ref q12, .int 0, .ref q25, .ref q33, .ref q41, .ref q49, .int 0, .int 0, .ref q66, .ref q73, .ref q80, .ref q87, .int 5, .int 0, .int 0])), cI q12 cA 8, cI q25 cA 16, cI q33 cA 16, cI q41 cA 16, cI q49 cA 16, cI q66 cA 5, cI q73 cA 5, cI q80 cA 5, cI q87 cA 5]) H := hP
  have hD : va_D A ([(h0, .inr (4, [.int 0, .ref q12, .int 0, .ref q25, .ref q33, .ref q41, .ref q49, .int 0, .int 0, .ref q66, .ref q73, .ref q80, .ref q87, .int 5, .int 0, .int 0])), cI q12 cA 8, cI q25 cA 16, cI q33 cA 16, cI q41 cA 16, cI q49 cA 16, cI q66 cA 5, cI q73 cA 5, cI q80 cA 5, cI q87 cA 5]) := hD
  refine lv_aload_n hx hb dk_X4_init_97 rfl (lv_at hl 0 rfl) ?_
  refine lv_iconst (v := 0) hx hb dk_X4_init_98 (by decide) ?_
  refine va_put (D := DD) (ci := 4) (v := .int 0) (ty := .int) (C := RX4) (T := TX4) (N := 16) hx hb hts wsi4 tyX4 tyX4_ok nmX4 hown hK hP hD hS 0 rfl rfl 14 (by decide) (hts (.fieldLink RX4 55 "TubesOfCourt$Ministry" "minutes" "I") (wat_mem (k := 76) (by decide +kernel))) (fun _ h9 => h9) rfl (by decide +kernel) rfl rfl (Nat.le_of_ble_eq_true rfl) dk_X4_init_99 (fun H locs hP hD hS => ?_)
  have hP : va_P DD classes ([(h0, .inr (4, [.int 0, .ref q12, .int 0, .ref q25, .ref q33, .ref q41, .ref q49, .int 0, .int 0, .ref q66, .ref q73, .ref q80, .ref q87, .int 5, .int 0, .int 0])), cI q12 cA 8, cI q25 cA 16, cI q33 cA 16, cI q41 cA 16, cI q49 cA 16, cI q66 cA 5, cI q73 cA 5, cI q80 cA 5, cI q87 cA 5]) H := hP
  have hD : va_D A ([(h0, .inr (4, [.int 0, .ref q12, .int 0, .ref q25, .ref q33, .ref q41, .ref q49, .int 0, .int 0, .ref q66, .ref q73, .ref q80, .ref q87, .int 5, .int 0, .int 0])), cI q12 cA 8, cI q25 cA 16, cI q33 cA 16, cI q41 cA 16, cI q49 cA 16, cI q66 cA 5, cI q73 cA 5, cI q80 cA 5, cI q87 cA 5]) := hD
  refine lv_aload_n hx hb dk_X4_init_102 rfl (lv_at hl 0 rfl) ?_
  refine lv_iconst (v := 1) hx hb dk_X4_init_103 (by decide) ?_
  refine va_put (D := DD) (ci := 4) (v := .int 1) (ty := .int) (C := RX4) (T := TX4) (N := 16) hx hb hts wsi4 tyX4 tyX4_ok nmX4 hown hK hP hD hS 0 rfl rfl 15 (by decide) (hts (.fieldLink RX4 58 "TubesOfCourt$Ministry" "seed" "I") (wat_mem (k := 77) (by decide +kernel))) (fun _ h9 => h9) rfl (by decide +kernel) rfl rfl (Nat.le_of_ble_eq_true rfl) dk_X4_init_104 (fun H locs hP hD hS => ?_)
  have hP : va_P DD classes ([(h0, .inr (4, [.int 0, .ref q12, .int 0, .ref q25, .ref q33, .ref q41, .ref q49, .int 0, .int 0, .ref q66, .ref q73, .ref q80, .ref q87, .int 5, .int 0, .int 1])), cI q12 cA 8, cI q25 cA 16, cI q33 cA 16, cI q41 cA 16, cI q49 cA 16, cI q66 cA 5, cI q73 cA 5, cI q80 cA 5, cI q87 cA 5]) H := hP
  have hD : va_D A ([(h0, .inr (4, [.int 0, .ref q12, .int 0, .ref q25, .ref q33, .ref q41, .ref q49, .int 0, .int 0, .ref q66, .ref q73, .ref q80, .ref q87, .int 5, .int 0, .int 1])), cI q12 cA 8, cI q25 cA 16, cI q33 cA 16, cI q41 cA 16, cI q49 cA 16, cI q66 cA 5, cI q73 cA 5, cI q80 cA 5, cI q87 cA 5]) := hD
  exact W.vret hx hb hr (fun t ht hW => ⟨⟨(), rfl, trivial, q12, q25, q33, q41, q49, q66, q73, q80, q87, by rw [ht]; exact hP, va_K.moved hW.alike hK, hD⟩, hS.F ht⟩) hS.2.2 dk_X4_init_107
theorem dk_X8_init_0 : decode cX8_init 0 = .ok (.aload_n 0, 1) := by decide +kernel
theorem dk_X8_init_1 : decode cX8_init 1 = .ok (.invokespecial 3, 3) := by decide +kernel
theorem dk_X8_init_4 : decode cX8_init 4 = .ok (.aload_n 0, 1) := by decide +kernel
theorem dk_X8_init_5 : decode cX8_init 5 = .ok (.bipush 8, 2) := by decide +kernel
theorem dk_X8_init_7 : decode cX8_init 7 = .ok (.newarray .int, 2) := by decide +kernel
theorem dk_X8_init_9 : decode cX8_init 9 = .ok (.dup, 1) := by decide +kernel
theorem dk_X8_init_10 : decode cX8_init 10 = .ok (.iconst 0, 1) := by decide +kernel
theorem dk_X8_init_11 : decode cX8_init 11 = .ok (.iconst (-1), 1) := by decide +kernel
theorem dk_X8_init_12 : decode cX8_init 12 = .ok (.iastore, 1) := by decide +kernel
theorem dk_X8_init_13 : decode cX8_init 13 = .ok (.dup, 1) := by decide +kernel
theorem dk_X8_init_14 : decode cX8_init 14 = .ok (.iconst 1, 1) := by decide +kernel
theorem dk_X8_init_15 : decode cX8_init 15 = .ok (.iconst (-1), 1) := by decide +kernel
theorem dk_X8_init_16 : decode cX8_init 16 = .ok (.iastore, 1) := by decide +kernel
theorem dk_X8_init_17 : decode cX8_init 17 = .ok (.dup, 1) := by decide +kernel
theorem dk_X8_init_18 : decode cX8_init 18 = .ok (.iconst 2, 1) := by decide +kernel
theorem dk_X8_init_19 : decode cX8_init 19 = .ok (.iconst (-1), 1) := by decide +kernel
theorem dk_X8_init_20 : decode cX8_init 20 = .ok (.iastore, 1) := by decide +kernel
theorem dk_X8_init_21 : decode cX8_init 21 = .ok (.dup, 1) := by decide +kernel
theorem dk_X8_init_22 : decode cX8_init 22 = .ok (.iconst 3, 1) := by decide +kernel
theorem dk_X8_init_23 : decode cX8_init 23 = .ok (.iconst (-1), 1) := by decide +kernel
theorem dk_X8_init_24 : decode cX8_init 24 = .ok (.iastore, 1) := by decide +kernel
theorem dk_X8_init_25 : decode cX8_init 25 = .ok (.dup, 1) := by decide +kernel
theorem dk_X8_init_26 : decode cX8_init 26 = .ok (.iconst 4, 1) := by decide +kernel
theorem dk_X8_init_27 : decode cX8_init 27 = .ok (.iconst (-1), 1) := by decide +kernel
theorem dk_X8_init_28 : decode cX8_init 28 = .ok (.iastore, 1) := by decide +kernel
theorem dk_X8_init_29 : decode cX8_init 29 = .ok (.dup, 1) := by decide +kernel
theorem dk_X8_init_30 : decode cX8_init 30 = .ok (.iconst 5, 1) := by decide +kernel
theorem dk_X8_init_31 : decode cX8_init 31 = .ok (.iconst (-1), 1) := by decide +kernel
theorem dk_X8_init_32 : decode cX8_init 32 = .ok (.iastore, 1) := by decide +kernel
theorem dk_X8_init_33 : decode cX8_init 33 = .ok (.dup, 1) := by decide +kernel
theorem dk_X8_init_34 : decode cX8_init 34 = .ok (.bipush 6, 2) := by decide +kernel
theorem dk_X8_init_36 : decode cX8_init 36 = .ok (.iconst (-1), 1) := by decide +kernel
theorem dk_X8_init_37 : decode cX8_init 37 = .ok (.iastore, 1) := by decide +kernel
theorem dk_X8_init_38 : decode cX8_init 38 = .ok (.dup, 1) := by decide +kernel
theorem dk_X8_init_39 : decode cX8_init 39 = .ok (.bipush 7, 2) := by decide +kernel
theorem dk_X8_init_41 : decode cX8_init 41 = .ok (.iconst (-1), 1) := by decide +kernel
theorem dk_X8_init_42 : decode cX8_init 42 = .ok (.iastore, 1) := by decide +kernel
theorem dk_X8_init_43 : decode cX8_init 43 = .ok (.putfield 9, 3) := by decide +kernel
theorem dk_X8_init_46 : decode cX8_init 46 = .ok (.aload_n 0, 1) := by decide +kernel
theorem dk_X8_init_47 : decode cX8_init 47 = .ok (.bipush 8, 2) := by decide +kernel
theorem dk_X8_init_49 : decode cX8_init 49 = .ok (.newarray .int, 2) := by decide +kernel
theorem dk_X8_init_51 : decode cX8_init 51 = .ok (.putfield 15, 3) := by decide +kernel
theorem dk_X8_init_54 : decode cX8_init 54 = .ok (.aload_n 0, 1) := by decide +kernel
theorem dk_X8_init_55 : decode cX8_init 55 = .ok (.bipush 8, 2) := by decide +kernel
theorem dk_X8_init_57 : decode cX8_init 57 = .ok (.sipush 160, 3) := by decide +kernel
theorem dk_X8_init_60 : decode cX8_init 60 = .ok (.multianewarray 18 2, 4) := by decide +kernel
theorem dk_X8_init_64 : decode cX8_init 64 = .ok (.putfield 20, 3) := by decide +kernel
theorem dk_X8_init_67 : decode cX8_init 67 = .ok (.return_, 1) := by decide +kernel
def dfX8 : List Value := [.null, .null, .null]
theorem dfX8_ok : ∀ j, j < 3 → defaultValue (tyX8 j) = vp_V dfX8 j := by
  intro j hj
  match j, hj with
  | 0, _ => rfl
  | 1, _ => rfl
  | 2, _ => rfl
  | j + 3, h => exact absurd h (by omega)
abbrev wX8 (cA : Nat → ClassId) (h0 q7 q49 q60 : Nat) : va_W := [(h0, .inr (8, [.ref q7, .ref q49, .ref q60])), (q7, .inl (cA 0, 8, .inl (upd (upd (upd (upd (upd (upd (upd (upd (fun _ => 0) (0 : Int32).toNatClampNeg (-1)) (1 : Int32).toNatClampNeg (-1)) (2 : Int32).toNatClampNeg (-1)) (3 : Int32).toNatClampNeg (-1)) (4 : Int32).toNatClampNeg (-1)) (5 : Int32).toNatClampNeg (-1)) (6 : Int32).toNatClampNeg (-1)) (7 : Int32).toNatClampNeg (-1)))), cI q49 cA 8, (q60, .inl (cA 4, 8, .inr (.inr (.inr (.inr (fun j => if j < 8 then some (q60 + 1 + j) else none)))))), cJ (q60 + 1 + 0) cA 160, cJ (q60 + 1 + 1) cA 160, cJ (q60 + 1 + 2) cA 160, cJ (q60 + 1 + 3) cA 160, cJ (q60 + 1 + 4) cA 160, cJ (q60 + 1 + 5) cA 160, cJ (q60 + 1 + 6) cA 160, cJ (q60 + 1 + 7) cA 160]
abbrev atX8 (DD : va_G) (cA : Nat → ClassId) (A : Nat → Prop) (h0 : Nat) (_ : Unit) (t : State) : Prop := ∃ q7 q49 q60 : Nat, va_P DD classes (wX8 cA h0 q7 q49 q60) t.heap ∧ va_K DD classes (tysA cA) t ∧ va_D A (wX8 cA h0 q7 q49 q60)
theorem gk_X8 : GoodIn WS (.code yX8_init cX8_init 1 none :: WS) := gin (fun w hw => by
  rcases List.mem_cons.mp hw with rfl | h
  · exact (wat_mem (k := 79) (by decide +kernel))
  · exact h)
set_option maxHeartbeats 4000000 in
set_option maxRecDepth 100000 in
theorem mk_X8 (l : Launch) (DD : va_G) (cA : Nat → ClassId) (h0 sz : Nat) : Met l yX8_init (.code yX8_init cX8_init 1 none :: WS) ({ frames := 1, cells := 11, slots := 1304, locals := 12 } : Room) (va_Pc [.ref h0] (fun U => U.heap.size = sz ∧ va_P DD classes [(h0, .inr (8, dfX8))] U.heap ∧ va_K DD classes (tysA cA) U ∧ va_D (fun _ => True) [(h0, .inr (8, dfX8))] ∧ mkT U)) (va_Qv (fun _ : Unit => True) (atX8 DD cA (va_A [(h0, .inr (8, dfX8))] sz) h0) (va_A [(h0, .inr (8, dfX8))] sz)) 11 1304 (va_A [(h0, .inr (8, dfX8))] sz) := by
  refine Met.ofW (cc := cX8_init) (maxL := 1) (ret := none) (by decide +kernel) rfl ?_
  intro p e s m args below meth c s₁ B hml hv
  obtain ⟨rfl, hsz, hP, hK, hD0, hT⟩ := hv
  have hx := B.exec
  have hb := B.bytes
  have hr := B.returns
  have hts0 := atoms_spec (ws := .code yX8_init cX8_init 1 none :: WS) B.pre
  have hts : ∀ w ∈ WS, w.before _ s = true := fun w hw => hts0 w (List.mem_cons_of_mem _ hw)
  have hown : s.vm.findClass RX8 = some m.cls := findClass_of_methodNamed B.named
  have hlocks := B.notSynchronized
  have hin : meth.name = "<init>" := (name_of_methodNamed B.named B.method).1
  subst hsz
  have hD := hD0.self (sz := s.heap.size)
  generalize hAe : va_A [(h0, .inr (8, dfX8))] s.heap.size = A at hD ⊢
  have hA : ∀ q : Nat, s.heap.size ≤ q → A q := fun q h => by rw [← hAe]; exact Or.inr h
  have hS : va_S A s.heap s.heap [] := va_S.rf
  have hP : va_P DD classes [(h0, .inr (8, dfX8))] s.heap := hP
  have hl := lv_entry ([.ref h0]) (n := 1) (Nat.le_of_ble_eq_true rfl)
  rw [lg_entry_eq]
  generalize (lg_sl ([.ref h0]) ++ List.replicate (1 - (lg_sl ([.ref h0])).length) Slot.unset).toArray = ls at hl ⊢
  have hl : lv_has ls 1 [(0, .ref h0)] := hl
  refine lv_aload_n hx hb dk_X8_init_0 rfl (lv_at hl 0 rfl) ?_
  refine W.objInit hx hb hown (hts (.methodLink RX8 3 objectInit) (wat_mem (k := 80) (by decide +kernel))) (hts (.instanceMethod objectInit) (wat_mem (k := 11) (by decide +kernel))) (hts (.code objectInit ⟨#[0xb1]⟩ 1 none) (wat_mem (k := 12) (by decide +kernel))) rfl (by rw [hml]; exact hl.1) rfl dk_X8_init_1 (Nat.le_of_ble_eq_true rfl) (Nat.le_of_ble_eq_true rfl) ?_
  refine W.eq (g2 := F0 m 4 ls []) rfl ?_
  refine lv_aload_n hx hb dk_X8_init_4 rfl (lv_at hl 0 rfl) ?_
  refine lv_bipush (v := 8) hx hb dk_X8_init_5 (by decide) ?_
  refine va_newa (atype := .int) hx hb (hts (.arrayClass .int) (wat_mem (k := 55) (by decide +kernel))) rfl hK hP hD hS hA (a0 := (8, .inl (fun _ => 0))) (fun _ => rfl) (by decide) (N' := 8) (by decide) (Nat.le_of_ble_eq_true rfl) (Nat.le_of_ble_eq_true rfl) (Nat.le_of_ble_eq_true rfl) dk_X8_init_7 (fun q7 cQ H hKq hP hD hS => ?_)
  obtain rfl := ty_int hKq
  clear hKq
  have hP : va_P DD classes ([(h0, .inr (8, [.null, .null, .null])), cI q7 cA 8]) H := hP
  have hD : va_D A ([(h0, .inr (8, [.null, .null, .null])), cI q7 cA 8]) := hD
  refine W.widen (k := 1) (n := 8) (by omega) (by omega) ?_
  refine lv_dup hx hb dk_X8_init_9 rfl ?_
  refine lv_iconst (v := 0) hx hb dk_X8_init_10 (by decide) ?_
  refine lv_iconst (v := (-1)) hx hb dk_X8_init_11 (by decide) ?_
  refine va_iast hx hb hK hP hD hS 1 0 rfl rfl (show ¬ (_ ∨ _) by decide) dk_X8_init_12 (fun H locs hP hD hS => ?_)
  have hP : va_P DD classes ([(h0, .inr (8, [.null, .null, .null])), (q7, .inl (cA 0, 8, .inl (upd (fun _ => 0) (0 : Int32).toNatClampNeg (-1))))]) H := hP
  have hD : va_D A ([(h0, .inr (8, [.null, .null, .null])), (q7, .inl (cA 0, 8, .inl (upd (fun _ => 0) (0 : Int32).toNatClampNeg (-1))))]) := hD
  refine lv_dup hx hb dk_X8_init_13 rfl ?_
  refine lv_iconst (v := 1) hx hb dk_X8_init_14 (by decide) ?_
  refine lv_iconst (v := (-1)) hx hb dk_X8_init_15 (by decide) ?_
  refine va_iast hx hb hK hP hD hS 1 0 rfl rfl (show ¬ (_ ∨ _) by decide) dk_X8_init_16 (fun H locs hP hD hS => ?_)
  have hP : va_P DD classes ([(h0, .inr (8, [.null, .null, .null])), (q7, .inl (cA 0, 8, .inl (upd (upd (fun _ => 0) (0 : Int32).toNatClampNeg (-1)) (1 : Int32).toNatClampNeg (-1))))]) H := hP
  have hD : va_D A ([(h0, .inr (8, [.null, .null, .null])), (q7, .inl (cA 0, 8, .inl (upd (upd (fun _ => 0) (0 : Int32).toNatClampNeg (-1)) (1 : Int32).toNatClampNeg (-1))))]) := hD
  refine lv_dup hx hb dk_X8_init_17 rfl ?_
  refine lv_iconst (v := 2) hx hb dk_X8_init_18 (by decide) ?_
  refine lv_iconst (v := (-1)) hx hb dk_X8_init_19 (by decide) ?_
  refine va_iast hx hb hK hP hD hS 1 0 rfl rfl (show ¬ (_ ∨ _) by decide) dk_X8_init_20 (fun H locs hP hD hS => ?_)
  have hP : va_P DD classes ([(h0, .inr (8, [.null, .null, .null])), (q7, .inl (cA 0, 8, .inl (upd (upd (upd (fun _ => 0) (0 : Int32).toNatClampNeg (-1)) (1 : Int32).toNatClampNeg (-1)) (2 : Int32).toNatClampNeg (-1))))]) H := hP
  have hD : va_D A ([(h0, .inr (8, [.null, .null, .null])), (q7, .inl (cA 0, 8, .inl (upd (upd (upd (fun _ => 0) (0 : Int32).toNatClampNeg (-1)) (1 : Int32).toNatClampNeg (-1)) (2 : Int32).toNatClampNeg (-1))))]) := hD
  refine lv_dup hx hb dk_X8_init_21 rfl ?_
  refine lv_iconst (v := 3) hx hb dk_X8_init_22 (by decide) ?_
  refine lv_iconst (v := (-1)) hx hb dk_X8_init_23 (by decide) ?_
  refine va_iast hx hb hK hP hD hS 1 0 rfl rfl (show ¬ (_ ∨ _) by decide) dk_X8_init_24 (fun H locs hP hD hS => ?_)
  have hP : va_P DD classes ([(h0, .inr (8, [.null, .null, .null])), (q7, .inl (cA 0, 8, .inl (upd (upd (upd (upd (fun _ => 0) (0 : Int32).toNatClampNeg (-1)) (1 : Int32).toNatClampNeg (-1)) (2 : Int32).toNatClampNeg (-1)) (3 : Int32).toNatClampNeg (-1))))]) H := hP
  have hD : va_D A ([(h0, .inr (8, [.null, .null, .null])), (q7, .inl (cA 0, 8, .inl (upd (upd (upd (upd (fun _ => 0) (0 : Int32).toNatClampNeg (-1)) (1 : Int32).toNatClampNeg (-1)) (2 : Int32).toNatClampNeg (-1)) (3 : Int32).toNatClampNeg (-1))))]) := hD
  refine lv_dup hx hb dk_X8_init_25 rfl ?_
  refine lv_iconst (v := 4) hx hb dk_X8_init_26 (by decide) ?_
  refine lv_iconst (v := (-1)) hx hb dk_X8_init_27 (by decide) ?_
  refine va_iast hx hb hK hP hD hS 1 0 rfl rfl (show ¬ (_ ∨ _) by decide) dk_X8_init_28 (fun H locs hP hD hS => ?_)
  have hP : va_P DD classes ([(h0, .inr (8, [.null, .null, .null])), (q7, .inl (cA 0, 8, .inl (upd (upd (upd (upd (upd (fun _ => 0) (0 : Int32).toNatClampNeg (-1)) (1 : Int32).toNatClampNeg (-1)) (2 : Int32).toNatClampNeg (-1)) (3 : Int32).toNatClampNeg (-1)) (4 : Int32).toNatClampNeg (-1))))]) H := hP
  have hD : va_D A ([(h0, .inr (8, [.null, .null, .null])), (q7, .inl (cA 0, 8, .inl (upd (upd (upd (upd (upd (fun _ => 0) (0 : Int32).toNatClampNeg (-1)) (1 : Int32).toNatClampNeg (-1)) (2 : Int32).toNatClampNeg (-1)) (3 : Int32).toNatClampNeg (-1)) (4 : Int32).toNatClampNeg (-1))))]) := hD
  refine lv_dup hx hb dk_X8_init_29 rfl ?_
  refine lv_iconst (v := 5) hx hb dk_X8_init_30 (by decide) ?_
  refine lv_iconst (v := (-1)) hx hb dk_X8_init_31 (by decide) ?_
  refine va_iast hx hb hK hP hD hS 1 0 rfl rfl (show ¬ (_ ∨ _) by decide) dk_X8_init_32 (fun H locs hP hD hS => ?_)
  have hP : va_P DD classes ([(h0, .inr (8, [.null, .null, .null])), (q7, .inl (cA 0, 8, .inl (upd (upd (upd (upd (upd (upd (fun _ => 0) (0 : Int32).toNatClampNeg (-1)) (1 : Int32).toNatClampNeg (-1)) (2 : Int32).toNatClampNeg (-1)) (3 : Int32).toNatClampNeg (-1)) (4 : Int32).toNatClampNeg (-1)) (5 : Int32).toNatClampNeg (-1))))]) H := hP
  have hD : va_D A ([(h0, .inr (8, [.null, .null, .null])), (q7, .inl (cA 0, 8, .inl (upd (upd (upd (upd (upd (upd (fun _ => 0) (0 : Int32).toNatClampNeg (-1)) (1 : Int32).toNatClampNeg (-1)) (2 : Int32).toNatClampNeg (-1)) (3 : Int32).toNatClampNeg (-1)) (4 : Int32).toNatClampNeg (-1)) (5 : Int32).toNatClampNeg (-1))))]) := hD
  refine lv_dup hx hb dk_X8_init_33 rfl ?_
  refine lv_bipush (v := 6) hx hb dk_X8_init_34 (by decide) ?_
  refine lv_iconst (v := (-1)) hx hb dk_X8_init_36 (by decide) ?_
  refine va_iast hx hb hK hP hD hS 1 0 rfl rfl (show ¬ (_ ∨ _) by decide) dk_X8_init_37 (fun H locs hP hD hS => ?_)
  have hP : va_P DD classes ([(h0, .inr (8, [.null, .null, .null])), (q7, .inl (cA 0, 8, .inl (upd (upd (upd (upd (upd (upd (upd (fun _ => 0) (0 : Int32).toNatClampNeg (-1)) (1 : Int32).toNatClampNeg (-1)) (2 : Int32).toNatClampNeg (-1)) (3 : Int32).toNatClampNeg (-1)) (4 : Int32).toNatClampNeg (-1)) (5 : Int32).toNatClampNeg (-1)) (6 : Int32).toNatClampNeg (-1))))]) H := hP
  have hD : va_D A ([(h0, .inr (8, [.null, .null, .null])), (q7, .inl (cA 0, 8, .inl (upd (upd (upd (upd (upd (upd (upd (fun _ => 0) (0 : Int32).toNatClampNeg (-1)) (1 : Int32).toNatClampNeg (-1)) (2 : Int32).toNatClampNeg (-1)) (3 : Int32).toNatClampNeg (-1)) (4 : Int32).toNatClampNeg (-1)) (5 : Int32).toNatClampNeg (-1)) (6 : Int32).toNatClampNeg (-1))))]) := hD
  refine lv_dup hx hb dk_X8_init_38 rfl ?_
  refine lv_bipush (v := 7) hx hb dk_X8_init_39 (by decide) ?_
  refine lv_iconst (v := (-1)) hx hb dk_X8_init_41 (by decide) ?_
  refine va_iast hx hb hK hP hD hS 1 0 rfl rfl (show ¬ (_ ∨ _) by decide) dk_X8_init_42 (fun H locs hP hD hS => ?_)
  have hP : va_P DD classes ([(h0, .inr (8, [.null, .null, .null])), (q7, .inl (cA 0, 8, .inl (upd (upd (upd (upd (upd (upd (upd (upd (fun _ => 0) (0 : Int32).toNatClampNeg (-1)) (1 : Int32).toNatClampNeg (-1)) (2 : Int32).toNatClampNeg (-1)) (3 : Int32).toNatClampNeg (-1)) (4 : Int32).toNatClampNeg (-1)) (5 : Int32).toNatClampNeg (-1)) (6 : Int32).toNatClampNeg (-1)) (7 : Int32).toNatClampNeg (-1))))]) H := hP
  have hD : va_D A ([(h0, .inr (8, [.null, .null, .null])), (q7, .inl (cA 0, 8, .inl (upd (upd (upd (upd (upd (upd (upd (upd (fun _ => 0) (0 : Int32).toNatClampNeg (-1)) (1 : Int32).toNatClampNeg (-1)) (2 : Int32).toNatClampNeg (-1)) (3 : Int32).toNatClampNeg (-1)) (4 : Int32).toNatClampNeg (-1)) (5 : Int32).toNatClampNeg (-1)) (6 : Int32).toNatClampNeg (-1)) (7 : Int32).toNatClampNeg (-1))))]) := hD
  refine va_putF (D := DD) (ci := 8) (v := .ref q7) (ty := .array .int) (C := RX8) (T := TX8) (N := 3) hx hb hts wsi8 tyX8 tyX8_ok nmX8 hown hK hP hD hS 0 rfl rfl 0 (by decide) (hts (.fieldLink RX8 9 "TubesOfCourt$Shelves" "held" "[I") (wat_mem (k := 81) (by decide +kernel))) (fun _ h9 => h9) rfl hin rfl (by decide +kernel) rfl rfl (Nat.le_of_ble_eq_true rfl) dk_X8_init_43 (fun H locs hP hD hS => ?_)
  have hP : va_P DD classes ([(h0, .inr (8, [.ref q7, .null, .null])), (q7, .inl (cA 0, 8, .inl (upd (upd (upd (upd (upd (upd (upd (upd (fun _ => 0) (0 : Int32).toNatClampNeg (-1)) (1 : Int32).toNatClampNeg (-1)) (2 : Int32).toNatClampNeg (-1)) (3 : Int32).toNatClampNeg (-1)) (4 : Int32).toNatClampNeg (-1)) (5 : Int32).toNatClampNeg (-1)) (6 : Int32).toNatClampNeg (-1)) (7 : Int32).toNatClampNeg (-1))))]) H := hP
  have hD : va_D A ([(h0, .inr (8, [.ref q7, .null, .null])), (q7, .inl (cA 0, 8, .inl (upd (upd (upd (upd (upd (upd (upd (upd (fun _ => 0) (0 : Int32).toNatClampNeg (-1)) (1 : Int32).toNatClampNeg (-1)) (2 : Int32).toNatClampNeg (-1)) (3 : Int32).toNatClampNeg (-1)) (4 : Int32).toNatClampNeg (-1)) (5 : Int32).toNatClampNeg (-1)) (6 : Int32).toNatClampNeg (-1)) (7 : Int32).toNatClampNeg (-1))))]) := hD
  refine lv_aload_n hx hb dk_X8_init_46 rfl (lv_at hl 0 rfl) ?_
  refine lv_bipush (v := 8) hx hb dk_X8_init_47 (by decide) ?_
  refine va_newa (atype := .int) hx hb (hts (.arrayClass .int) (wat_mem (k := 55) (by decide +kernel))) rfl hK hP hD hS hA (a0 := (8, .inl (fun _ => 0))) (fun _ => rfl) (by decide) (N' := 8) (by decide) (Nat.le_of_ble_eq_true rfl) (Nat.le_of_ble_eq_true rfl) (Nat.le_of_ble_eq_true rfl) dk_X8_init_49 (fun q49 cQ H hKq hP hD hS => ?_)
  obtain rfl := ty_int hKq
  clear hKq
  have hP : va_P DD classes ([(h0, .inr (8, [.ref q7, .null, .null])), (q7, .inl (cA 0, 8, .inl (upd (upd (upd (upd (upd (upd (upd (upd (fun _ => 0) (0 : Int32).toNatClampNeg (-1)) (1 : Int32).toNatClampNeg (-1)) (2 : Int32).toNatClampNeg (-1)) (3 : Int32).toNatClampNeg (-1)) (4 : Int32).toNatClampNeg (-1)) (5 : Int32).toNatClampNeg (-1)) (6 : Int32).toNatClampNeg (-1)) (7 : Int32).toNatClampNeg (-1)))), cI q49 cA 8]) H := hP
  have hD : va_D A ([(h0, .inr (8, [.ref q7, .null, .null])), (q7, .inl (cA 0, 8, .inl (upd (upd (upd (upd (upd (upd (upd (upd (fun _ => 0) (0 : Int32).toNatClampNeg (-1)) (1 : Int32).toNatClampNeg (-1)) (2 : Int32).toNatClampNeg (-1)) (3 : Int32).toNatClampNeg (-1)) (4 : Int32).toNatClampNeg (-1)) (5 : Int32).toNatClampNeg (-1)) (6 : Int32).toNatClampNeg (-1)) (7 : Int32).toNatClampNeg (-1)))), cI q49 cA 8]) := hD
  refine W.widen (k := 2) (n := 16) (by omega) (by omega) ?_
  refine va_putF (D := DD) (ci := 8) (v := .ref q49) (ty := .array .int) (C := RX8) (T := TX8) (N := 3) hx hb hts wsi8 tyX8 tyX8_ok nmX8 hown hK hP hD hS 0 rfl rfl 1 (by decide) (hts (.fieldLink RX8 15 "TubesOfCourt$Shelves" "sizes" "[I") (wat_mem (k := 82) (by decide +kernel))) (fun _ h9 => h9) rfl hin rfl (by decide +kernel) rfl rfl (Nat.le_of_ble_eq_true rfl) dk_X8_init_51 (fun H locs hP hD hS => ?_)
  have hP : va_P DD classes ([(h0, .inr (8, [.ref q7, .ref q49, .null])), (q7, .inl (cA 0, 8, .inl (upd (upd (upd (upd (upd (upd (upd (upd (fun _ => 0) (0 : Int32).toNatClampNeg (-1)) (1 : Int32).toNatClampNeg (-1)) (2 : Int32).toNatClampNeg (-1)) (3 : Int32).toNatClampNeg (-1)) (4 : Int32).toNatClampNeg (-1)) (5 : Int32).toNatClampNeg (-1)) (6 : Int32).toNatClampNeg (-1)) (7 : Int32).toNatClampNeg (-1)))), cI q49 cA 8]) H := hP
  have hD : va_D A ([(h0, .inr (8, [.ref q7, .ref q49, .null])), (q7, .inl (cA 0, 8, .inl (upd (upd (upd (upd (upd (upd (upd (upd (fun _ => 0) (0 : Int32).toNatClampNeg (-1)) (1 : Int32).toNatClampNeg (-1)) (2 : Int32).toNatClampNeg (-1)) (3 : Int32).toNatClampNeg (-1)) (4 : Int32).toNatClampNeg (-1)) (5 : Int32).toNatClampNeg (-1)) (6 : Int32).toNatClampNeg (-1)) (7 : Int32).toNatClampNeg (-1)))), cI q49 cA 8]) := hD
  refine lv_aload_n hx hb dk_X8_init_54 rfl (lv_at hl 0 rfl) ?_
  refine lv_bipush (v := 8) hx hb dk_X8_init_55 (by decide) ?_
  refine lv_sipush (v := 160) hx hb dk_X8_init_57 (by decide) ?_
  refine va_newm (ty := .long) (nm := "[[J") (cC := cA 4) (cD := cA 2) (a0 := (160, .inr (.inl (fun _ => 0)))) (N := 8) (K := 160) hx hb hown (by decide +kernel) (hts (.classLink RX8 18 "[[J") (wat_mem (k := 83) (by decide +kernel))) hT.2.1 (hts (.arrayClass .long) (wat_mem (k := 84) (by decide +kernel))) hP hD hS hA (hK.2 4 _ rfl).2 (hK.2 2 _ rfl).2 (fun _ => rfl) (by decide) (by decide) (by decide) (by decide) (by decide) (Nat.le_of_ble_eq_true rfl) (Nat.le_of_ble_eq_true rfl) (Nat.le_of_ble_eq_true rfl) rfl (Nat.le_of_ble_eq_true rfl) (Nat.le_of_ble_eq_true rfl) dk_X8_init_60 (fun q60 H hP hD hS => ?_)
  have hP : va_P DD classes ([(h0, .inr (8, [.ref q7, .ref q49, .null])), (q7, .inl (cA 0, 8, .inl (upd (upd (upd (upd (upd (upd (upd (upd (fun _ => 0) (0 : Int32).toNatClampNeg (-1)) (1 : Int32).toNatClampNeg (-1)) (2 : Int32).toNatClampNeg (-1)) (3 : Int32).toNatClampNeg (-1)) (4 : Int32).toNatClampNeg (-1)) (5 : Int32).toNatClampNeg (-1)) (6 : Int32).toNatClampNeg (-1)) (7 : Int32).toNatClampNeg (-1)))), cI q49 cA 8, (q60, .inl (cA 4, 8, .inr (.inr (.inr (.inr (fun j => if j < 8 then some (q60 + 1 + j) else none)))))), cJ (q60 + 1 + 0) cA 160, cJ (q60 + 1 + 1) cA 160, cJ (q60 + 1 + 2) cA 160, cJ (q60 + 1 + 3) cA 160, cJ (q60 + 1 + 4) cA 160, cJ (q60 + 1 + 5) cA 160, cJ (q60 + 1 + 6) cA 160, cJ (q60 + 1 + 7) cA 160]) H := hP
  have hD : va_D A ([(h0, .inr (8, [.ref q7, .ref q49, .null])), (q7, .inl (cA 0, 8, .inl (upd (upd (upd (upd (upd (upd (upd (upd (fun _ => 0) (0 : Int32).toNatClampNeg (-1)) (1 : Int32).toNatClampNeg (-1)) (2 : Int32).toNatClampNeg (-1)) (3 : Int32).toNatClampNeg (-1)) (4 : Int32).toNatClampNeg (-1)) (5 : Int32).toNatClampNeg (-1)) (6 : Int32).toNatClampNeg (-1)) (7 : Int32).toNatClampNeg (-1)))), cI q49 cA 8, (q60, .inl (cA 4, 8, .inr (.inr (.inr (.inr (fun j => if j < 8 then some (q60 + 1 + j) else none)))))), cJ (q60 + 1 + 0) cA 160, cJ (q60 + 1 + 1) cA 160, cJ (q60 + 1 + 2) cA 160, cJ (q60 + 1 + 3) cA 160, cJ (q60 + 1 + 4) cA 160, cJ (q60 + 1 + 5) cA 160, cJ (q60 + 1 + 6) cA 160, cJ (q60 + 1 + 7) cA 160]) := hD
  refine W.widen (k := 11) (n := 1304) (by omega) (by omega) ?_
  refine va_putF (D := DD) (ci := 8) (v := .ref q60) (ty := .array (.array .long)) (C := RX8) (T := TX8) (N := 3) hx hb hts wsi8 tyX8 tyX8_ok nmX8 hown hK hP hD hS 0 rfl rfl 2 (by decide) (hts (.fieldLink RX8 20 "TubesOfCourt$Shelves" "rows" "[[J") (wat_mem (k := 85) (by decide +kernel))) (fun _ h9 => h9) rfl hin rfl (by decide +kernel) rfl rfl (Nat.le_of_ble_eq_true rfl) dk_X8_init_64 (fun H locs hP hD hS => ?_)
  have hP : va_P DD classes ([(h0, .inr (8, [.ref q7, .ref q49, .ref q60])), (q7, .inl (cA 0, 8, .inl (upd (upd (upd (upd (upd (upd (upd (upd (fun _ => 0) (0 : Int32).toNatClampNeg (-1)) (1 : Int32).toNatClampNeg (-1)) (2 : Int32).toNatClampNeg (-1)) (3 : Int32).toNatClampNeg (-1)) (4 : Int32).toNatClampNeg (-1)) (5 : Int32).toNatClampNeg (-1)) (6 : Int32).toNatClampNeg (-1)) (7 : Int32).toNatClampNeg (-1)))), cI q49 cA 8, (q60, .inl (cA 4, 8, .inr (.inr (.inr (.inr (fun j => if j < 8 then some (q60 + 1 + j) else none)))))), cJ (q60 + 1 + 0) cA 160, cJ (q60 + 1 + 1) cA 160, cJ (q60 + 1 + 2) cA 160, cJ (q60 + 1 + 3) cA 160, cJ (q60 + 1 + 4) cA 160, cJ (q60 + 1 + 5) cA 160, cJ (q60 + 1 + 6) cA 160, cJ (q60 + 1 + 7) cA 160]) H := hP
  have hD : va_D A ([(h0, .inr (8, [.ref q7, .ref q49, .ref q60])), (q7, .inl (cA 0, 8, .inl (upd (upd (upd (upd (upd (upd (upd (upd (fun _ => 0) (0 : Int32).toNatClampNeg (-1)) (1 : Int32).toNatClampNeg (-1)) (2 : Int32).toNatClampNeg (-1)) (3 : Int32).toNatClampNeg (-1)) (4 : Int32).toNatClampNeg (-1)) (5 : Int32).toNatClampNeg (-1)) (6 : Int32).toNatClampNeg (-1)) (7 : Int32).toNatClampNeg (-1)))), cI q49 cA 8, (q60, .inl (cA 4, 8, .inr (.inr (.inr (.inr (fun j => if j < 8 then some (q60 + 1 + j) else none)))))), cJ (q60 + 1 + 0) cA 160, cJ (q60 + 1 + 1) cA 160, cJ (q60 + 1 + 2) cA 160, cJ (q60 + 1 + 3) cA 160, cJ (q60 + 1 + 4) cA 160, cJ (q60 + 1 + 5) cA 160, cJ (q60 + 1 + 6) cA 160, cJ (q60 + 1 + 7) cA 160]) := hD
  exact W.vret hx hb hr (fun t ht hW => ⟨⟨(), rfl, trivial, q7, q49, q60, by rw [ht]; exact hP, va_K.moved hW.alike hK, hD⟩, hS.F ht⟩) hS.2.2 dk_X8_init_67
theorem dk_X9_init_0 : decode cX9_init 0 = .ok (.aload_n 0, 1) := by decide +kernel
theorem dk_X9_init_1 : decode cX9_init 1 = .ok (.invokespecial 3, 3) := by decide +kernel
theorem dk_X9_init_4 : decode cX9_init 4 = .ok (.aload_n 0, 1) := by decide +kernel
theorem dk_X9_init_5 : decode cX9_init 5 = .ok (.bipush 16, 2) := by decide +kernel
theorem dk_X9_init_7 : decode cX9_init 7 = .ok (.newarray .int, 2) := by decide +kernel
theorem dk_X9_init_9 : decode cX9_init 9 = .ok (.putfield 9, 3) := by decide +kernel
theorem dk_X9_init_12 : decode cX9_init 12 = .ok (.aload_n 0, 1) := by decide +kernel
theorem dk_X9_init_13 : decode cX9_init 13 = .ok (.bipush 16, 2) := by decide +kernel
theorem dk_X9_init_15 : decode cX9_init 15 = .ok (.newarray .boolean, 2) := by decide +kernel
theorem dk_X9_init_17 : decode cX9_init 17 = .ok (.putfield 15, 3) := by decide +kernel
theorem dk_X9_init_20 : decode cX9_init 20 = .ok (.aload_n 0, 1) := by decide +kernel
theorem dk_X9_init_21 : decode cX9_init 21 = .ok (.bipush 16, 2) := by decide +kernel
theorem dk_X9_init_23 : decode cX9_init 23 = .ok (.newarray .boolean, 2) := by decide +kernel
theorem dk_X9_init_25 : decode cX9_init 25 = .ok (.putfield 19, 3) := by decide +kernel
theorem dk_X9_init_28 : decode cX9_init 28 = .ok (.aload_n 0, 1) := by decide +kernel
theorem dk_X9_init_29 : decode cX9_init 29 = .ok (.bipush 8, 2) := by decide +kernel
theorem dk_X9_init_31 : decode cX9_init 31 = .ok (.newarray .int, 2) := by decide +kernel
theorem dk_X9_init_33 : decode cX9_init 33 = .ok (.putfield 22, 3) := by decide +kernel
theorem dk_X9_init_36 : decode cX9_init 36 = .ok (.aload_n 0, 1) := by decide +kernel
theorem dk_X9_init_37 : decode cX9_init 37 = .ok (.bipush 8, 2) := by decide +kernel
theorem dk_X9_init_39 : decode cX9_init 39 = .ok (.newarray .int, 2) := by decide +kernel
theorem dk_X9_init_41 : decode cX9_init 41 = .ok (.putfield 25, 3) := by decide +kernel
theorem dk_X9_init_44 : decode cX9_init 44 = .ok (.aload_n 0, 1) := by decide +kernel
theorem dk_X9_init_45 : decode cX9_init 45 = .ok (.bipush 8, 2) := by decide +kernel
theorem dk_X9_init_47 : decode cX9_init 47 = .ok (.bipush 8, 2) := by decide +kernel
theorem dk_X9_init_49 : decode cX9_init 49 = .ok (.multianewarray 28 2, 4) := by decide +kernel
theorem dk_X9_init_53 : decode cX9_init 53 = .ok (.putfield 30, 3) := by decide +kernel
theorem dk_X9_init_56 : decode cX9_init 56 = .ok (.return_, 1) := by decide +kernel
def dfX9 : List Value := [.null, .null, .null, .null, .null, .null]
theorem dfX9_ok : ∀ j, j < 6 → defaultValue (tyX9 j) = vp_V dfX9 j := by
  intro j hj
  match j, hj with
  | 0, _ => rfl
  | 1, _ => rfl
  | 2, _ => rfl
  | 3, _ => rfl
  | 4, _ => rfl
  | 5, _ => rfl
  | j + 6, h => exact absurd h (by omega)
abbrev wX9 (cA : Nat → ClassId) (h0 q7 q15 q23 q31 q39 q49 : Nat) : va_W := [(h0, .inr (9, [.ref q7, .ref q15, .ref q23, .ref q31, .ref q39, .ref q49])), cI q7 cA 16, cZ q15 cA 16, cZ q23 cA 16, cI q31 cA 8, cI q39 cA 8, (q49, .inl (cA 3, 8, .inr (.inr (.inr (.inr (fun j => if j < 8 then some (q49 + 1 + j) else none)))))), cI (q49 + 1 + 0) cA 8, cI (q49 + 1 + 1) cA 8, cI (q49 + 1 + 2) cA 8, cI (q49 + 1 + 3) cA 8, cI (q49 + 1 + 4) cA 8, cI (q49 + 1 + 5) cA 8, cI (q49 + 1 + 6) cA 8, cI (q49 + 1 + 7) cA 8]
abbrev atX9 (DD : va_G) (cA : Nat → ClassId) (A : Nat → Prop) (h0 : Nat) (_ : Unit) (t : State) : Prop := ∃ q7 q15 q23 q31 q39 q49 : Nat, va_P DD classes (wX9 cA h0 q7 q15 q23 q31 q39 q49) t.heap ∧ va_K DD classes (tysA cA) t ∧ va_D A (wX9 cA h0 q7 q15 q23 q31 q39 q49)
theorem gk_X9 : GoodIn WS (.code yX9_init cX9_init 1 none :: WS) := gin (fun w hw => by
  rcases List.mem_cons.mp hw with rfl | h
  · exact (wat_mem (k := 87) (by decide +kernel))
  · exact h)
set_option maxHeartbeats 4000000 in
set_option maxRecDepth 100000 in
theorem mk_X9 (l : Launch) (DD : va_G) (cA : Nat → ClassId) (h0 sz : Nat) : Met l yX9_init (.code yX9_init cX9_init 1 none :: WS) ({ frames := 1, cells := 14, slots := 136, locals := 12 } : Room) (va_Pc [.ref h0] (fun U => U.heap.size = sz ∧ va_P DD classes [(h0, .inr (9, dfX9))] U.heap ∧ va_K DD classes (tysA cA) U ∧ va_D (fun _ => True) [(h0, .inr (9, dfX9))] ∧ mkT U)) (va_Qv (fun _ : Unit => True) (atX9 DD cA (va_A [(h0, .inr (9, dfX9))] sz) h0) (va_A [(h0, .inr (9, dfX9))] sz)) 14 136 (va_A [(h0, .inr (9, dfX9))] sz) := by
  refine Met.ofW (cc := cX9_init) (maxL := 1) (ret := none) (by decide +kernel) rfl ?_
  intro p e s m args below meth c s₁ B hml hv
  obtain ⟨rfl, hsz, hP, hK, hD0, hT⟩ := hv
  have hx := B.exec
  have hb := B.bytes
  have hr := B.returns
  have hts0 := atoms_spec (ws := .code yX9_init cX9_init 1 none :: WS) B.pre
  have hts : ∀ w ∈ WS, w.before _ s = true := fun w hw => hts0 w (List.mem_cons_of_mem _ hw)
  have hown : s.vm.findClass RX9 = some m.cls := findClass_of_methodNamed B.named
  have hlocks := B.notSynchronized
  have hin : meth.name = "<init>" := (name_of_methodNamed B.named B.method).1
  subst hsz
  have hD := hD0.self (sz := s.heap.size)
  generalize hAe : va_A [(h0, .inr (9, dfX9))] s.heap.size = A at hD ⊢
  have hA : ∀ q : Nat, s.heap.size ≤ q → A q := fun q h => by rw [← hAe]; exact Or.inr h
  have hS : va_S A s.heap s.heap [] := va_S.rf
  have hP : va_P DD classes [(h0, .inr (9, dfX9))] s.heap := hP
  have hl := lv_entry ([.ref h0]) (n := 1) (Nat.le_of_ble_eq_true rfl)
  rw [lg_entry_eq]
  generalize (lg_sl ([.ref h0]) ++ List.replicate (1 - (lg_sl ([.ref h0])).length) Slot.unset).toArray = ls at hl ⊢
  have hl : lv_has ls 1 [(0, .ref h0)] := hl
  refine lv_aload_n hx hb dk_X9_init_0 rfl (lv_at hl 0 rfl) ?_
  refine W.objInit hx hb hown (hts (.methodLink RX9 3 objectInit) (wat_mem (k := 88) (by decide +kernel))) (hts (.instanceMethod objectInit) (wat_mem (k := 11) (by decide +kernel))) (hts (.code objectInit ⟨#[0xb1]⟩ 1 none) (wat_mem (k := 12) (by decide +kernel))) rfl (by rw [hml]; exact hl.1) rfl dk_X9_init_1 (Nat.le_of_ble_eq_true rfl) (Nat.le_of_ble_eq_true rfl) ?_
  refine W.eq (g2 := F0 m 4 ls []) rfl ?_
  refine lv_aload_n hx hb dk_X9_init_4 rfl (lv_at hl 0 rfl) ?_
  refine lv_bipush (v := 16) hx hb dk_X9_init_5 (by decide) ?_
  refine va_newa (atype := .int) hx hb (hts (.arrayClass .int) (wat_mem (k := 55) (by decide +kernel))) rfl hK hP hD hS hA (a0 := (16, .inl (fun _ => 0))) (fun _ => rfl) (by decide) (N' := 16) (by decide) (Nat.le_of_ble_eq_true rfl) (Nat.le_of_ble_eq_true rfl) (Nat.le_of_ble_eq_true rfl) dk_X9_init_7 (fun q7 cQ H hKq hP hD hS => ?_)
  obtain rfl := ty_int hKq
  clear hKq
  have hP : va_P DD classes ([(h0, .inr (9, [.null, .null, .null, .null, .null, .null])), cI q7 cA 16]) H := hP
  have hD : va_D A ([(h0, .inr (9, [.null, .null, .null, .null, .null, .null])), cI q7 cA 16]) := hD
  refine W.widen (k := 1) (n := 16) (by omega) (by omega) ?_
  refine va_putF (D := DD) (ci := 9) (v := .ref q7) (ty := .array .int) (C := RX9) (T := TX9) (N := 6) hx hb hts wsi9 tyX9 tyX9_ok nmX9 hown hK hP hD hS 0 rfl rfl 0 (by decide) (hts (.fieldLink RX9 9 "TubesOfCourt$Ways" "minutes" "[I") (wat_mem (k := 89) (by decide +kernel))) (fun _ h9 => h9) rfl hin rfl (by decide +kernel) rfl rfl (Nat.le_of_ble_eq_true rfl) dk_X9_init_9 (fun H locs hP hD hS => ?_)
  have hP : va_P DD classes ([(h0, .inr (9, [.ref q7, .null, .null, .null, .null, .null])), cI q7 cA 16]) H := hP
  have hD : va_D A ([(h0, .inr (9, [.ref q7, .null, .null, .null, .null, .null])), cI q7 cA 16]) := hD
  refine lv_aload_n hx hb dk_X9_init_12 rfl (lv_at hl 0 rfl) ?_
  refine lv_bipush (v := 16) hx hb dk_X9_init_13 (by decide) ?_
  refine va_newa (atype := .boolean) hx hb (hts (.arrayClass .boolean) (wat_mem (k := 90) (by decide +kernel))) rfl hK hP hD hS hA (a0 := (16, .inl (fun _ => 0))) (fun _ => rfl) (by decide) (N' := 16) (by decide) (Nat.le_of_ble_eq_true rfl) (Nat.le_of_ble_eq_true rfl) (Nat.le_of_ble_eq_true rfl) dk_X9_init_15 (fun q15 cQ H hKq hP hD hS => ?_)
  obtain rfl := ty_bool hKq
  clear hKq
  have hP : va_P DD classes ([(h0, .inr (9, [.ref q7, .null, .null, .null, .null, .null])), cI q7 cA 16, cZ q15 cA 16]) H := hP
  have hD : va_D A ([(h0, .inr (9, [.ref q7, .null, .null, .null, .null, .null])), cI q7 cA 16, cZ q15 cA 16]) := hD
  refine W.widen (k := 2) (n := 32) (by omega) (by omega) ?_
  refine va_putF (D := DD) (ci := 9) (v := .ref q15) (ty := .array .boolean) (C := RX9) (T := TX9) (N := 6) hx hb hts wsi9 tyX9 tyX9_ok nmX9 hown hK hP hD hS 0 rfl rfl 1 (by decide) (hts (.fieldLink RX9 15 "TubesOfCourt$Ways" "forth" "[Z") (wat_mem (k := 91) (by decide +kernel))) (fun _ h9 => h9) rfl hin rfl (by decide +kernel) rfl rfl (Nat.le_of_ble_eq_true rfl) dk_X9_init_17 (fun H locs hP hD hS => ?_)
  have hP : va_P DD classes ([(h0, .inr (9, [.ref q7, .ref q15, .null, .null, .null, .null])), cI q7 cA 16, cZ q15 cA 16]) H := hP
  have hD : va_D A ([(h0, .inr (9, [.ref q7, .ref q15, .null, .null, .null, .null])), cI q7 cA 16, cZ q15 cA 16]) := hD
  refine lv_aload_n hx hb dk_X9_init_20 rfl (lv_at hl 0 rfl) ?_
  refine lv_bipush (v := 16) hx hb dk_X9_init_21 (by decide) ?_
  refine va_newa (atype := .boolean) hx hb (hts (.arrayClass .boolean) (wat_mem (k := 90) (by decide +kernel))) rfl hK hP hD hS hA (a0 := (16, .inl (fun _ => 0))) (fun _ => rfl) (by decide) (N' := 16) (by decide) (Nat.le_of_ble_eq_true rfl) (Nat.le_of_ble_eq_true rfl) (Nat.le_of_ble_eq_true rfl) dk_X9_init_23 (fun q23 cQ H hKq hP hD hS => ?_)
  obtain rfl := ty_bool hKq
  clear hKq
  have hP : va_P DD classes ([(h0, .inr (9, [.ref q7, .ref q15, .null, .null, .null, .null])), cI q7 cA 16, cZ q15 cA 16, cZ q23 cA 16]) H := hP
  have hD : va_D A ([(h0, .inr (9, [.ref q7, .ref q15, .null, .null, .null, .null])), cI q7 cA 16, cZ q15 cA 16, cZ q23 cA 16]) := hD
  refine W.widen (k := 3) (n := 48) (by omega) (by omega) ?_
  refine va_putF (D := DD) (ci := 9) (v := .ref q23) (ty := .array .boolean) (C := RX9) (T := TX9) (N := 6) hx hb hts wsi9 tyX9 tyX9_ok nmX9 hown hK hP hD hS 0 rfl rfl 2 (by decide) (hts (.fieldLink RX9 19 "TubesOfCourt$Ways" "back" "[Z") (wat_mem (k := 92) (by decide +kernel))) (fun _ h9 => h9) rfl hin rfl (by decide +kernel) rfl rfl (Nat.le_of_ble_eq_true rfl) dk_X9_init_25 (fun H locs hP hD hS => ?_)
  have hP : va_P DD classes ([(h0, .inr (9, [.ref q7, .ref q15, .ref q23, .null, .null, .null])), cI q7 cA 16, cZ q15 cA 16, cZ q23 cA 16]) H := hP
  have hD : va_D A ([(h0, .inr (9, [.ref q7, .ref q15, .ref q23, .null, .null, .null])), cI q7 cA 16, cZ q15 cA 16, cZ q23 cA 16]) := hD
  refine lv_aload_n hx hb dk_X9_init_28 rfl (lv_at hl 0 rfl) ?_
  refine lv_bipush (v := 8) hx hb dk_X9_init_29 (by decide) ?_
  refine va_newa (atype := .int) hx hb (hts (.arrayClass .int) (wat_mem (k := 55) (by decide +kernel))) rfl hK hP hD hS hA (a0 := (8, .inl (fun _ => 0))) (fun _ => rfl) (by decide) (N' := 8) (by decide) (Nat.le_of_ble_eq_true rfl) (Nat.le_of_ble_eq_true rfl) (Nat.le_of_ble_eq_true rfl) dk_X9_init_31 (fun q31 cQ H hKq hP hD hS => ?_)
  obtain rfl := ty_int hKq
  clear hKq
  have hP : va_P DD classes ([(h0, .inr (9, [.ref q7, .ref q15, .ref q23, .null, .null, .null])), cI q7 cA 16, cZ q15 cA 16, cZ q23 cA 16, cI q31 cA 8]) H := hP
  have hD : va_D A ([(h0, .inr (9, [.ref q7, .ref q15, .ref q23, .null, .null, .null])), cI q7 cA 16, cZ q15 cA 16, cZ q23 cA 16, cI q31 cA 8]) := hD
  refine W.widen (k := 4) (n := 56) (by omega) (by omega) ?_
  refine va_putF (D := DD) (ci := 9) (v := .ref q31) (ty := .array .int) (C := RX9) (T := TX9) (N := 6) hx hb hts wsi9 tyX9 tyX9_ok nmX9 hown hK hP hD hS 0 rfl rfl 3 (by decide) (hts (.fieldLink RX9 22 "TubesOfCourt$Ways" "reach" "[I") (wat_mem (k := 93) (by decide +kernel))) (fun _ h9 => h9) rfl hin rfl (by decide +kernel) rfl rfl (Nat.le_of_ble_eq_true rfl) dk_X9_init_33 (fun H locs hP hD hS => ?_)
  have hP : va_P DD classes ([(h0, .inr (9, [.ref q7, .ref q15, .ref q23, .ref q31, .null, .null])), cI q7 cA 16, cZ q15 cA 16, cZ q23 cA 16, cI q31 cA 8]) H := hP
  have hD : va_D A ([(h0, .inr (9, [.ref q7, .ref q15, .ref q23, .ref q31, .null, .null])), cI q7 cA 16, cZ q15 cA 16, cZ q23 cA 16, cI q31 cA 8]) := hD
  refine lv_aload_n hx hb dk_X9_init_36 rfl (lv_at hl 0 rfl) ?_
  refine lv_bipush (v := 8) hx hb dk_X9_init_37 (by decide) ?_
  refine va_newa (atype := .int) hx hb (hts (.arrayClass .int) (wat_mem (k := 55) (by decide +kernel))) rfl hK hP hD hS hA (a0 := (8, .inl (fun _ => 0))) (fun _ => rfl) (by decide) (N' := 8) (by decide) (Nat.le_of_ble_eq_true rfl) (Nat.le_of_ble_eq_true rfl) (Nat.le_of_ble_eq_true rfl) dk_X9_init_39 (fun q39 cQ H hKq hP hD hS => ?_)
  obtain rfl := ty_int hKq
  clear hKq
  have hP : va_P DD classes ([(h0, .inr (9, [.ref q7, .ref q15, .ref q23, .ref q31, .null, .null])), cI q7 cA 16, cZ q15 cA 16, cZ q23 cA 16, cI q31 cA 8, cI q39 cA 8]) H := hP
  have hD : va_D A ([(h0, .inr (9, [.ref q7, .ref q15, .ref q23, .ref q31, .null, .null])), cI q7 cA 16, cZ q15 cA 16, cZ q23 cA 16, cI q31 cA 8, cI q39 cA 8]) := hD
  refine W.widen (k := 5) (n := 64) (by omega) (by omega) ?_
  refine va_putF (D := DD) (ci := 9) (v := .ref q39) (ty := .array .int) (C := RX9) (T := TX9) (N := 6) hx hb hts wsi9 tyX9 tyX9_ok nmX9 hown hK hP hD hS 0 rfl rfl 4 (by decide) (hts (.fieldLink RX9 25 "TubesOfCourt$Ways" "reachOfOne" "[I") (wat_mem (k := 94) (by decide +kernel))) (fun _ h9 => h9) rfl hin rfl (by decide +kernel) rfl rfl (Nat.le_of_ble_eq_true rfl) dk_X9_init_41 (fun H locs hP hD hS => ?_)
  have hP : va_P DD classes ([(h0, .inr (9, [.ref q7, .ref q15, .ref q23, .ref q31, .ref q39, .null])), cI q7 cA 16, cZ q15 cA 16, cZ q23 cA 16, cI q31 cA 8, cI q39 cA 8]) H := hP
  have hD : va_D A ([(h0, .inr (9, [.ref q7, .ref q15, .ref q23, .ref q31, .ref q39, .null])), cI q7 cA 16, cZ q15 cA 16, cZ q23 cA 16, cI q31 cA 8, cI q39 cA 8]) := hD
  refine lv_aload_n hx hb dk_X9_init_44 rfl (lv_at hl 0 rfl) ?_
  refine lv_bipush (v := 8) hx hb dk_X9_init_45 (by decide) ?_
  refine lv_bipush (v := 8) hx hb dk_X9_init_47 (by decide) ?_
  refine va_newm (ty := .int) (nm := "[[I") (cC := cA 3) (cD := cA 0) (a0 := (8, .inl (fun _ => 0))) (N := 8) (K := 8) hx hb hown (by decide +kernel) (hts (.classLink RX9 28 "[[I") (wat_mem (k := 95) (by decide +kernel))) hT.1 (hts (.arrayClass .int) (wat_mem (k := 55) (by decide +kernel))) hP hD hS hA (hK.2 3 _ rfl).2 (hK.2 0 _ rfl).2 (fun _ => rfl) (by decide) (by decide) (by decide) (by decide) (by decide) (Nat.le_of_ble_eq_true rfl) (Nat.le_of_ble_eq_true rfl) (Nat.le_of_ble_eq_true rfl) rfl (Nat.le_of_ble_eq_true rfl) (Nat.le_of_ble_eq_true rfl) dk_X9_init_49 (fun q49 H hP hD hS => ?_)
  have hP : va_P DD classes ([(h0, .inr (9, [.ref q7, .ref q15, .ref q23, .ref q31, .ref q39, .null])), cI q7 cA 16, cZ q15 cA 16, cZ q23 cA 16, cI q31 cA 8, cI q39 cA 8, (q49, .inl (cA 3, 8, .inr (.inr (.inr (.inr (fun j => if j < 8 then some (q49 + 1 + j) else none)))))), cI (q49 + 1 + 0) cA 8, cI (q49 + 1 + 1) cA 8, cI (q49 + 1 + 2) cA 8, cI (q49 + 1 + 3) cA 8, cI (q49 + 1 + 4) cA 8, cI (q49 + 1 + 5) cA 8, cI (q49 + 1 + 6) cA 8, cI (q49 + 1 + 7) cA 8]) H := hP
  have hD : va_D A ([(h0, .inr (9, [.ref q7, .ref q15, .ref q23, .ref q31, .ref q39, .null])), cI q7 cA 16, cZ q15 cA 16, cZ q23 cA 16, cI q31 cA 8, cI q39 cA 8, (q49, .inl (cA 3, 8, .inr (.inr (.inr (.inr (fun j => if j < 8 then some (q49 + 1 + j) else none)))))), cI (q49 + 1 + 0) cA 8, cI (q49 + 1 + 1) cA 8, cI (q49 + 1 + 2) cA 8, cI (q49 + 1 + 3) cA 8, cI (q49 + 1 + 4) cA 8, cI (q49 + 1 + 5) cA 8, cI (q49 + 1 + 6) cA 8, cI (q49 + 1 + 7) cA 8]) := hD
  refine W.widen (k := 14) (n := 136) (by omega) (by omega) ?_
  refine va_putF (D := DD) (ci := 9) (v := .ref q49) (ty := .array (.array .int)) (C := RX9) (T := TX9) (N := 6) hx hb hts wsi9 tyX9 tyX9_ok nmX9 hown hK hP hD hS 0 rfl rfl 5 (by decide) (hts (.fieldLink RX9 30 "TubesOfCourt$Ways" "table" "[[I") (wat_mem (k := 96) (by decide +kernel))) (fun _ h9 => h9) rfl hin rfl (by decide +kernel) rfl rfl (Nat.le_of_ble_eq_true rfl) dk_X9_init_53 (fun H locs hP hD hS => ?_)
  have hP : va_P DD classes ([(h0, .inr (9, [.ref q7, .ref q15, .ref q23, .ref q31, .ref q39, .ref q49])), cI q7 cA 16, cZ q15 cA 16, cZ q23 cA 16, cI q31 cA 8, cI q39 cA 8, (q49, .inl (cA 3, 8, .inr (.inr (.inr (.inr (fun j => if j < 8 then some (q49 + 1 + j) else none)))))), cI (q49 + 1 + 0) cA 8, cI (q49 + 1 + 1) cA 8, cI (q49 + 1 + 2) cA 8, cI (q49 + 1 + 3) cA 8, cI (q49 + 1 + 4) cA 8, cI (q49 + 1 + 5) cA 8, cI (q49 + 1 + 6) cA 8, cI (q49 + 1 + 7) cA 8]) H := hP
  have hD : va_D A ([(h0, .inr (9, [.ref q7, .ref q15, .ref q23, .ref q31, .ref q39, .ref q49])), cI q7 cA 16, cZ q15 cA 16, cZ q23 cA 16, cI q31 cA 8, cI q39 cA 8, (q49, .inl (cA 3, 8, .inr (.inr (.inr (.inr (fun j => if j < 8 then some (q49 + 1 + j) else none)))))), cI (q49 + 1 + 0) cA 8, cI (q49 + 1 + 1) cA 8, cI (q49 + 1 + 2) cA 8, cI (q49 + 1 + 3) cA 8, cI (q49 + 1 + 4) cA 8, cI (q49 + 1 + 5) cA 8, cI (q49 + 1 + 6) cA 8, cI (q49 + 1 + 7) cA 8]) := hD
  exact W.vret hx hb hr (fun t ht hW => ⟨⟨(), rfl, trivial, q7, q15, q23, q31, q39, q49, by rw [ht]; exact hP, va_K.moved hW.alike hK, hD⟩, hS.F ht⟩) hS.2.2 dk_X9_init_56
theorem dk_X7_init_0 : decode cX7_init 0 = .ok (.aload_n 0, 1) := by decide +kernel
theorem dk_X7_init_1 : decode cX7_init 1 = .ok (.invokespecial 3, 3) := by decide +kernel
theorem dk_X7_init_4 : decode cX7_init 4 = .ok (.aload_n 0, 1) := by decide +kernel
theorem dk_X7_init_5 : decode cX7_init 5 = .ok (.sipush 2048, 3) := by decide +kernel
theorem dk_X7_init_8 : decode cX7_init 8 = .ok (.newarray .int, 2) := by decide +kernel
theorem dk_X7_init_10 : decode cX7_init 10 = .ok (.putfield 9, 3) := by decide +kernel
theorem dk_X7_init_13 : decode cX7_init 13 = .ok (.return_, 1) := by decide +kernel
def dfX7 : List Value := [.null]
theorem dfX7_ok : ∀ j, j < 1 → defaultValue (tyX7 j) = vp_V dfX7 j := by
  intro j hj
  match j, hj with
  | 0, _ => rfl
  | j + 1, h => exact absurd h (by omega)
abbrev wX7 (cA : Nat → ClassId) (h0 q8 : Nat) : va_W := [(h0, .inr (7, [.ref q8])), cI q8 cA 2048]
abbrev atX7 (DD : va_G) (cA : Nat → ClassId) (A : Nat → Prop) (h0 : Nat) (_ : Unit) (t : State) : Prop := ∃ q8 : Nat, va_P DD classes (wX7 cA h0 q8) t.heap ∧ va_K DD classes (tysA cA) t ∧ va_D A (wX7 cA h0 q8)
theorem gk_X7 : GoodIn WS (.code yX7_init cX7_init 1 none :: WS) := gin (fun w hw => by
  rcases List.mem_cons.mp hw with rfl | h
  · exact (wat_mem (k := 98) (by decide +kernel))
  · exact h)
set_option maxHeartbeats 4000000 in
set_option maxRecDepth 100000 in
theorem mk_X7 (l : Launch) (DD : va_G) (cA : Nat → ClassId) (h0 sz : Nat) : Met l yX7_init (.code yX7_init cX7_init 1 none :: WS) ({ frames := 1, cells := 1, slots := 2048, locals := 12 } : Room) (va_Pc [.ref h0] (fun U => U.heap.size = sz ∧ va_P DD classes [(h0, .inr (7, dfX7))] U.heap ∧ va_K DD classes (tysA cA) U ∧ va_D (fun _ => True) [(h0, .inr (7, dfX7))])) (va_Qv (fun _ : Unit => True) (atX7 DD cA (va_A [(h0, .inr (7, dfX7))] sz) h0) (va_A [(h0, .inr (7, dfX7))] sz)) 1 2048 (va_A [(h0, .inr (7, dfX7))] sz) := by
  refine Met.ofW (cc := cX7_init) (maxL := 1) (ret := none) (by decide +kernel) rfl ?_
  intro p e s m args below meth c s₁ B hml hv
  obtain ⟨rfl, hsz, hP, hK, hD0⟩ := hv
  have hx := B.exec
  have hb := B.bytes
  have hr := B.returns
  have hts0 := atoms_spec (ws := .code yX7_init cX7_init 1 none :: WS) B.pre
  have hts : ∀ w ∈ WS, w.before _ s = true := fun w hw => hts0 w (List.mem_cons_of_mem _ hw)
  have hown : s.vm.findClass RX7 = some m.cls := findClass_of_methodNamed B.named
  have hlocks := B.notSynchronized
  have hin : meth.name = "<init>" := (name_of_methodNamed B.named B.method).1
  subst hsz
  have hD := hD0.self (sz := s.heap.size)
  generalize hAe : va_A [(h0, .inr (7, dfX7))] s.heap.size = A at hD ⊢
  have hA : ∀ q : Nat, s.heap.size ≤ q → A q := fun q h => by rw [← hAe]; exact Or.inr h
  have hS : va_S A s.heap s.heap [] := va_S.rf
  have hP : va_P DD classes [(h0, .inr (7, dfX7))] s.heap := hP
  have hl := lv_entry ([.ref h0]) (n := 1) (Nat.le_of_ble_eq_true rfl)
  rw [lg_entry_eq]
  generalize (lg_sl ([.ref h0]) ++ List.replicate (1 - (lg_sl ([.ref h0])).length) Slot.unset).toArray = ls at hl ⊢
  have hl : lv_has ls 1 [(0, .ref h0)] := hl
  refine lv_aload_n hx hb dk_X7_init_0 rfl (lv_at hl 0 rfl) ?_
  refine W.objInit hx hb hown (hts (.methodLink RX7 3 objectInit) (wat_mem (k := 99) (by decide +kernel))) (hts (.instanceMethod objectInit) (wat_mem (k := 11) (by decide +kernel))) (hts (.code objectInit ⟨#[0xb1]⟩ 1 none) (wat_mem (k := 12) (by decide +kernel))) rfl (by rw [hml]; exact hl.1) rfl dk_X7_init_1 (Nat.le_of_ble_eq_true rfl) (Nat.le_of_ble_eq_true rfl) ?_
  refine W.eq (g2 := F0 m 4 ls []) rfl ?_
  refine lv_aload_n hx hb dk_X7_init_4 rfl (lv_at hl 0 rfl) ?_
  refine lv_sipush (v := 2048) hx hb dk_X7_init_5 (by decide) ?_
  refine va_newa (atype := .int) hx hb (hts (.arrayClass .int) (wat_mem (k := 55) (by decide +kernel))) rfl hK hP hD hS hA (a0 := (2048, .inl (fun _ => 0))) (fun _ => rfl) (by decide) (N' := 2048) (by decide) (Nat.le_of_ble_eq_true rfl) (Nat.le_of_ble_eq_true rfl) (Nat.le_of_ble_eq_true rfl) dk_X7_init_8 (fun q8 cQ H hKq hP hD hS => ?_)
  obtain rfl := ty_int hKq
  clear hKq
  have hP : va_P DD classes ([(h0, .inr (7, [.null])), cI q8 cA 2048]) H := hP
  have hD : va_D A ([(h0, .inr (7, [.null])), cI q8 cA 2048]) := hD
  refine W.widen (k := 1) (n := 2048) (by omega) (by omega) ?_
  refine va_putF (D := DD) (ci := 7) (v := .ref q8) (ty := .array .int) (C := RX7) (T := TX7) (N := 1) hx hb hts wsi7 tyX7 tyX7_ok nmX7 hown hK hP hD hS 0 rfl rfl 0 (by decide) (hts (.fieldLink RX7 9 "TubesOfCourt$Rounds" "best" "[I") (wat_mem (k := 100) (by decide +kernel))) (fun _ h9 => h9) rfl hin rfl (by decide +kernel) rfl rfl (Nat.le_of_ble_eq_true rfl) dk_X7_init_10 (fun H locs hP hD hS => ?_)
  have hP : va_P DD classes ([(h0, .inr (7, [.ref q8])), cI q8 cA 2048]) H := hP
  have hD : va_D A ([(h0, .inr (7, [.ref q8])), cI q8 cA 2048]) := hD
  exact W.vret hx hb hr (fun t ht hW => ⟨⟨(), rfl, trivial, q8, by rw [ht]; exact hP, va_K.moved hW.alike hK, hD⟩, hS.F ht⟩) hS.2.2 dk_X7_init_13
theorem dk_X0_init_0 : decode cX0_init 0 = .ok (.aload_n 0, 1) := by decide +kernel
theorem dk_X0_init_1 : decode cX0_init 1 = .ok (.invokespecial 3, 3) := by decide +kernel
theorem dk_X0_init_4 : decode cX0_init 4 = .ok (.aload_n 0, 1) := by decide +kernel
theorem dk_X0_init_5 : decode cX0_init 5 = .ok (.bipush 16, 2) := by decide +kernel
theorem dk_X0_init_7 : decode cX0_init 7 = .ok (.newarray .int, 2) := by decide +kernel
theorem dk_X0_init_9 : decode cX0_init 9 = .ok (.putfield 9, 3) := by decide +kernel
theorem dk_X0_init_12 : decode cX0_init 12 = .ok (.aload_n 0, 1) := by decide +kernel
theorem dk_X0_init_13 : decode cX0_init 13 = .ok (.bipush 8, 2) := by decide +kernel
theorem dk_X0_init_15 : decode cX0_init 15 = .ok (.newarray .int, 2) := by decide +kernel
theorem dk_X0_init_17 : decode cX0_init 17 = .ok (.putfield 15, 3) := by decide +kernel
theorem dk_X0_init_20 : decode cX0_init 20 = .ok (.return_, 1) := by decide +kernel
def dfX0 : List Value := [.null, .null]
theorem dfX0_ok : ∀ j, j < 2 → defaultValue (tyX0 j) = vp_V dfX0 j := by
  intro j hj
  match j, hj with
  | 0, _ => rfl
  | 1, _ => rfl
  | j + 2, h => exact absurd h (by omega)
abbrev wX0 (cA : Nat → ClassId) (h0 q7 q15 : Nat) : va_W := [(h0, .inr (0, [.ref q7, .ref q15])), cI q7 cA 16, cI q15 cA 8]
abbrev atX0 (DD : va_G) (cA : Nat → ClassId) (A : Nat → Prop) (h0 : Nat) (_ : Unit) (t : State) : Prop := ∃ q7 q15 : Nat, va_P DD classes (wX0 cA h0 q7 q15) t.heap ∧ va_K DD classes (tysA cA) t ∧ va_D A (wX0 cA h0 q7 q15)
theorem gk_X0 : GoodIn WS (.code yX0_init cX0_init 1 none :: WS) := gin (fun w hw => by
  rcases List.mem_cons.mp hw with rfl | h
  · exact (wat_mem (k := 102) (by decide +kernel))
  · exact h)
set_option maxHeartbeats 4000000 in
set_option maxRecDepth 100000 in
theorem mk_X0 (l : Launch) (DD : va_G) (cA : Nat → ClassId) (h0 sz : Nat) : Met l yX0_init (.code yX0_init cX0_init 1 none :: WS) ({ frames := 1, cells := 2, slots := 24, locals := 12 } : Room) (va_Pc [.ref h0] (fun U => U.heap.size = sz ∧ va_P DD classes [(h0, .inr (0, dfX0))] U.heap ∧ va_K DD classes (tysA cA) U ∧ va_D (fun _ => True) [(h0, .inr (0, dfX0))])) (va_Qv (fun _ : Unit => True) (atX0 DD cA (va_A [(h0, .inr (0, dfX0))] sz) h0) (va_A [(h0, .inr (0, dfX0))] sz)) 2 24 (va_A [(h0, .inr (0, dfX0))] sz) := by
  refine Met.ofW (cc := cX0_init) (maxL := 1) (ret := none) (by decide +kernel) rfl ?_
  intro p e s m args below meth c s₁ B hml hv
  obtain ⟨rfl, hsz, hP, hK, hD0⟩ := hv
  have hx := B.exec
  have hb := B.bytes
  have hr := B.returns
  have hts0 := atoms_spec (ws := .code yX0_init cX0_init 1 none :: WS) B.pre
  have hts : ∀ w ∈ WS, w.before _ s = true := fun w hw => hts0 w (List.mem_cons_of_mem _ hw)
  have hown : s.vm.findClass RX0 = some m.cls := findClass_of_methodNamed B.named
  have hlocks := B.notSynchronized
  have hin : meth.name = "<init>" := (name_of_methodNamed B.named B.method).1
  subst hsz
  have hD := hD0.self (sz := s.heap.size)
  generalize hAe : va_A [(h0, .inr (0, dfX0))] s.heap.size = A at hD ⊢
  have hA : ∀ q : Nat, s.heap.size ≤ q → A q := fun q h => by rw [← hAe]; exact Or.inr h
  have hS : va_S A s.heap s.heap [] := va_S.rf
  have hP : va_P DD classes [(h0, .inr (0, dfX0))] s.heap := hP
  have hl := lv_entry ([.ref h0]) (n := 1) (Nat.le_of_ble_eq_true rfl)
  rw [lg_entry_eq]
  generalize (lg_sl ([.ref h0]) ++ List.replicate (1 - (lg_sl ([.ref h0])).length) Slot.unset).toArray = ls at hl ⊢
  have hl : lv_has ls 1 [(0, .ref h0)] := hl
  refine lv_aload_n hx hb dk_X0_init_0 rfl (lv_at hl 0 rfl) ?_
  refine W.objInit hx hb hown (hts (.methodLink RX0 3 objectInit) (wat_mem (k := 103) (by decide +kernel))) (hts (.instanceMethod objectInit) (wat_mem (k := 11) (by decide +kernel))) (hts (.code objectInit ⟨#[0xb1]⟩ 1 none) (wat_mem (k := 12) (by decide +kernel))) rfl (by rw [hml]; exact hl.1) rfl dk_X0_init_1 (Nat.le_of_ble_eq_true rfl) (Nat.le_of_ble_eq_true rfl) ?_
  refine W.eq (g2 := F0 m 4 ls []) rfl ?_
  refine lv_aload_n hx hb dk_X0_init_4 rfl (lv_at hl 0 rfl) ?_
  refine lv_bipush (v := 16) hx hb dk_X0_init_5 (by decide) ?_
  refine va_newa (atype := .int) hx hb (hts (.arrayClass .int) (wat_mem (k := 55) (by decide +kernel))) rfl hK hP hD hS hA (a0 := (16, .inl (fun _ => 0))) (fun _ => rfl) (by decide) (N' := 16) (by decide) (Nat.le_of_ble_eq_true rfl) (Nat.le_of_ble_eq_true rfl) (Nat.le_of_ble_eq_true rfl) dk_X0_init_7 (fun q7 cQ H hKq hP hD hS => ?_)
  obtain rfl := ty_int hKq
  clear hKq
  have hP : va_P DD classes ([(h0, .inr (0, [.null, .null])), cI q7 cA 16]) H := hP
  have hD : va_D A ([(h0, .inr (0, [.null, .null])), cI q7 cA 16]) := hD
  refine W.widen (k := 1) (n := 16) (by omega) (by omega) ?_
  refine va_putF (D := DD) (ci := 0) (v := .ref q7) (ty := .array .int) (C := RX0) (T := TX0) (N := 2) hx hb hts wsi0 tyX0 tyX0_ok nmX0 hown hK hP hD hS 0 rfl rfl 0 (by decide) (hts (.fieldLink RX0 9 "TubesOfCourt$Cuts" "flow" "[I") (wat_mem (k := 104) (by decide +kernel))) (fun _ h9 => h9) rfl hin rfl (by decide +kernel) rfl rfl (Nat.le_of_ble_eq_true rfl) dk_X0_init_9 (fun H locs hP hD hS => ?_)
  have hP : va_P DD classes ([(h0, .inr (0, [.ref q7, .null])), cI q7 cA 16]) H := hP
  have hD : va_D A ([(h0, .inr (0, [.ref q7, .null])), cI q7 cA 16]) := hD
  refine lv_aload_n hx hb dk_X0_init_12 rfl (lv_at hl 0 rfl) ?_
  refine lv_bipush (v := 8) hx hb dk_X0_init_13 (by decide) ?_
  refine va_newa (atype := .int) hx hb (hts (.arrayClass .int) (wat_mem (k := 55) (by decide +kernel))) rfl hK hP hD hS hA (a0 := (8, .inl (fun _ => 0))) (fun _ => rfl) (by decide) (N' := 8) (by decide) (Nat.le_of_ble_eq_true rfl) (Nat.le_of_ble_eq_true rfl) (Nat.le_of_ble_eq_true rfl) dk_X0_init_15 (fun q15 cQ H hKq hP hD hS => ?_)
  obtain rfl := ty_int hKq
  clear hKq
  have hP : va_P DD classes ([(h0, .inr (0, [.ref q7, .null])), cI q7 cA 16, cI q15 cA 8]) H := hP
  have hD : va_D A ([(h0, .inr (0, [.ref q7, .null])), cI q7 cA 16, cI q15 cA 8]) := hD
  refine W.widen (k := 2) (n := 24) (by omega) (by omega) ?_
  refine va_putF (D := DD) (ci := 0) (v := .ref q15) (ty := .array .int) (C := RX0) (T := TX0) (N := 2) hx hb hts wsi0 tyX0 tyX0_ok nmX0 hown hK hP hD hS 0 rfl rfl 1 (by decide) (hts (.fieldLink RX0 15 "TubesOfCourt$Cuts" "cameBy" "[I") (wat_mem (k := 105) (by decide +kernel))) (fun _ h9 => h9) rfl hin rfl (by decide +kernel) rfl rfl (Nat.le_of_ble_eq_true rfl) dk_X0_init_17 (fun H locs hP hD hS => ?_)
  have hP : va_P DD classes ([(h0, .inr (0, [.ref q7, .ref q15])), cI q7 cA 16, cI q15 cA 8]) H := hP
  have hD : va_D A ([(h0, .inr (0, [.ref q7, .ref q15])), cI q7 cA 16, cI q15 cA 8]) := hD
  exact W.vret hx hb hr (fun t ht hW => ⟨⟨(), rfl, trivial, q7, q15, by rw [ht]; exact hP, va_K.moved hW.alike hK, hD⟩, hS.F ht⟩) hS.2.2 dk_X0_init_20
theorem dk_X3_init_0 : decode cX3_init 0 = .ok (.aload_n 0, 1) := by decide +kernel
theorem dk_X3_init_1 : decode cX3_init 1 = .ok (.invokespecial 3, 3) := by decide +kernel
theorem dk_X3_init_4 : decode cX3_init 4 = .ok (.aload_n 0, 1) := by decide +kernel
theorem dk_X3_init_5 : decode cX3_init 5 = .ok (.bipush 8, 2) := by decide +kernel
theorem dk_X3_init_7 : decode cX3_init 7 = .ok (.newarray .int, 2) := by decide +kernel
theorem dk_X3_init_9 : decode cX3_init 9 = .ok (.putfield 9, 3) := by decide +kernel
theorem dk_X3_init_12 : decode cX3_init 12 = .ok (.aload_n 0, 1) := by decide +kernel
theorem dk_X3_init_13 : decode cX3_init 13 = .ok (.bipush 8, 2) := by decide +kernel
theorem dk_X3_init_15 : decode cX3_init 15 = .ok (.newarray .int, 2) := by decide +kernel
theorem dk_X3_init_17 : decode cX3_init 17 = .ok (.putfield 15, 3) := by decide +kernel
theorem dk_X3_init_20 : decode cX3_init 20 = .ok (.aload_n 0, 1) := by decide +kernel
theorem dk_X3_init_21 : decode cX3_init 21 = .ok (.iconst 0, 1) := by decide +kernel
theorem dk_X3_init_22 : decode cX3_init 22 = .ok (.putfield 18, 3) := by decide +kernel
theorem dk_X3_init_25 : decode cX3_init 25 = .ok (.aload_n 0, 1) := by decide +kernel
theorem dk_X3_init_26 : decode cX3_init 26 = .ok (.bipush 16, 2) := by decide +kernel
theorem dk_X3_init_28 : decode cX3_init 28 = .ok (.bipush 8, 2) := by decide +kernel
theorem dk_X3_init_30 : decode cX3_init 30 = .ok (.multianewarray 22 2, 4) := by decide +kernel
theorem dk_X3_init_34 : decode cX3_init 34 = .ok (.putfield 24, 3) := by decide +kernel
theorem dk_X3_init_37 : decode cX3_init 37 = .ok (.return_, 1) := by decide +kernel
def dfX3 : List Value := [.null, .null, .int 0, .null]
theorem dfX3_ok : ∀ j, j < 4 → defaultValue (tyX3 j) = vp_V dfX3 j := by
  intro j hj
  match j, hj with
  | 0, _ => rfl
  | 1, _ => rfl
  | 2, _ => rfl
  | 3, _ => rfl
  | j + 4, h => exact absurd h (by omega)
abbrev wX3 (cA : Nat → ClassId) (h0 q7 q15 q30 : Nat) : va_W := [(h0, .inr (3, [.ref q7, .ref q15, .int 0, .ref q30])), cI q7 cA 8, cI q15 cA 8, (q30, .inl (cA 3, 16, .inr (.inr (.inr (.inr (fun j => if j < 16 then some (q30 + 1 + j) else none)))))), cI (q30 + 1 + 0) cA 8, cI (q30 + 1 + 1) cA 8, cI (q30 + 1 + 2) cA 8, cI (q30 + 1 + 3) cA 8, cI (q30 + 1 + 4) cA 8, cI (q30 + 1 + 5) cA 8, cI (q30 + 1 + 6) cA 8, cI (q30 + 1 + 7) cA 8, cI (q30 + 1 + 8) cA 8, cI (q30 + 1 + 9) cA 8, cI (q30 + 1 + 10) cA 8, cI (q30 + 1 + 11) cA 8, cI (q30 + 1 + 12) cA 8, cI (q30 + 1 + 13) cA 8, cI (q30 + 1 + 14) cA 8, cI (q30 + 1 + 15) cA 8]
abbrev atX3 (DD : va_G) (cA : Nat → ClassId) (A : Nat → Prop) (h0 : Nat) (_ : Unit) (t : State) : Prop := ∃ q7 q15 q30 : Nat, va_P DD classes (wX3 cA h0 q7 q15 q30) t.heap ∧ va_K DD classes (tysA cA) t ∧ va_D A (wX3 cA h0 q7 q15 q30)
theorem gk_X3 : GoodIn WS (.code yX3_init cX3_init 1 none :: WS) := gin (fun w hw => by
  rcases List.mem_cons.mp hw with rfl | h
  · exact (wat_mem (k := 107) (by decide +kernel))
  · exact h)
set_option maxHeartbeats 4000000 in
set_option maxRecDepth 100000 in
theorem mk_X3 (l : Launch) (DD : va_G) (cA : Nat → ClassId) (h0 sz : Nat) : Met l yX3_init (.code yX3_init cX3_init 1 none :: WS) ({ frames := 1, cells := 19, slots := 160, locals := 12 } : Room) (va_Pc [.ref h0] (fun U => U.heap.size = sz ∧ va_P DD classes [(h0, .inr (3, dfX3))] U.heap ∧ va_K DD classes (tysA cA) U ∧ va_D (fun _ => True) [(h0, .inr (3, dfX3))] ∧ mkT U)) (va_Qv (fun _ : Unit => True) (atX3 DD cA (va_A [(h0, .inr (3, dfX3))] sz) h0) (va_A [(h0, .inr (3, dfX3))] sz)) 19 160 (va_A [(h0, .inr (3, dfX3))] sz) := by
  refine Met.ofW (cc := cX3_init) (maxL := 1) (ret := none) (by decide +kernel) rfl ?_
  intro p e s m args below meth c s₁ B hml hv
  obtain ⟨rfl, hsz, hP, hK, hD0, hT⟩ := hv
  have hx := B.exec
  have hb := B.bytes
  have hr := B.returns
  have hts0 := atoms_spec (ws := .code yX3_init cX3_init 1 none :: WS) B.pre
  have hts : ∀ w ∈ WS, w.before _ s = true := fun w hw => hts0 w (List.mem_cons_of_mem _ hw)
  have hown : s.vm.findClass RX3 = some m.cls := findClass_of_methodNamed B.named
  have hlocks := B.notSynchronized
  have hin : meth.name = "<init>" := (name_of_methodNamed B.named B.method).1
  subst hsz
  have hD := hD0.self (sz := s.heap.size)
  generalize hAe : va_A [(h0, .inr (3, dfX3))] s.heap.size = A at hD ⊢
  have hA : ∀ q : Nat, s.heap.size ≤ q → A q := fun q h => by rw [← hAe]; exact Or.inr h
  have hS : va_S A s.heap s.heap [] := va_S.rf
  have hP : va_P DD classes [(h0, .inr (3, dfX3))] s.heap := hP
  have hl := lv_entry ([.ref h0]) (n := 1) (Nat.le_of_ble_eq_true rfl)
  rw [lg_entry_eq]
  generalize (lg_sl ([.ref h0]) ++ List.replicate (1 - (lg_sl ([.ref h0])).length) Slot.unset).toArray = ls at hl ⊢
  have hl : lv_has ls 1 [(0, .ref h0)] := hl
  refine lv_aload_n hx hb dk_X3_init_0 rfl (lv_at hl 0 rfl) ?_
  refine W.objInit hx hb hown (hts (.methodLink RX3 3 objectInit) (wat_mem (k := 108) (by decide +kernel))) (hts (.instanceMethod objectInit) (wat_mem (k := 11) (by decide +kernel))) (hts (.code objectInit ⟨#[0xb1]⟩ 1 none) (wat_mem (k := 12) (by decide +kernel))) rfl (by rw [hml]; exact hl.1) rfl dk_X3_init_1 (Nat.le_of_ble_eq_true rfl) (Nat.le_of_ble_eq_true rfl) ?_
  refine W.eq (g2 := F0 m 4 ls []) rfl ?_
  refine lv_aload_n hx hb dk_X3_init_4 rfl (lv_at hl 0 rfl) ?_
  refine lv_bipush (v := 8) hx hb dk_X3_init_5 (by decide) ?_
  refine va_newa (atype := .int) hx hb (hts (.arrayClass .int) (wat_mem (k := 55) (by decide +kernel))) rfl hK hP hD hS hA (a0 := (8, .inl (fun _ => 0))) (fun _ => rfl) (by decide) (N' := 8) (by decide) (Nat.le_of_ble_eq_true rfl) (Nat.le_of_ble_eq_true rfl) (Nat.le_of_ble_eq_true rfl) dk_X3_init_7 (fun q7 cQ H hKq hP hD hS => ?_)
  obtain rfl := ty_int hKq
  clear hKq
  have hP : va_P DD classes ([(h0, .inr (3, [.null, .null, .int 0, .null])), cI q7 cA 8]) H := hP
  have hD : va_D A ([(h0, .inr (3, [.null, .null, .int 0, .null])), cI q7 cA 8]) := hD
  refine W.widen (k := 1) (n := 8) (by omega) (by omega) ?_
  refine va_putF (D := DD) (ci := 3) (v := .ref q7) (ty := .array .int) (C := RX3) (T := TX3) (N := 4) hx hb hts wsi3 tyX3 tyX3_ok nmX3 hown hK hP hD hS 0 rfl rfl 0 (by decide) (hts (.fieldLink RX3 9 "TubesOfCourt$Knocks" "toldDesks" "[I") (wat_mem (k := 109) (by decide +kernel))) (fun _ h9 => h9) rfl hin rfl (by decide +kernel) rfl rfl (Nat.le_of_ble_eq_true rfl) dk_X3_init_9 (fun H locs hP hD hS => ?_)
  have hP : va_P DD classes ([(h0, .inr (3, [.ref q7, .null, .int 0, .null])), cI q7 cA 8]) H := hP
  have hD : va_D A ([(h0, .inr (3, [.ref q7, .null, .int 0, .null])), cI q7 cA 8]) := hD
  refine lv_aload_n hx hb dk_X3_init_12 rfl (lv_at hl 0 rfl) ?_
  refine lv_bipush (v := 8) hx hb dk_X3_init_13 (by decide) ?_
  refine va_newa (atype := .int) hx hb (hts (.arrayClass .int) (wat_mem (k := 55) (by decide +kernel))) rfl hK hP hD hS hA (a0 := (8, .inl (fun _ => 0))) (fun _ => rfl) (by decide) (N' := 8) (by decide) (Nat.le_of_ble_eq_true rfl) (Nat.le_of_ble_eq_true rfl) (Nat.le_of_ble_eq_true rfl) dk_X3_init_15 (fun q15 cQ H hKq hP hD hS => ?_)
  obtain rfl := ty_int hKq
  clear hKq
  have hP : va_P DD classes ([(h0, .inr (3, [.ref q7, .null, .int 0, .null])), cI q7 cA 8, cI q15 cA 8]) H := hP
  have hD : va_D A ([(h0, .inr (3, [.ref q7, .null, .int 0, .null])), cI q7 cA 8, cI q15 cA 8]) := hD
  refine W.widen (k := 2) (n := 16) (by omega) (by omega) ?_
  refine va_putF (D := DD) (ci := 3) (v := .ref q15) (ty := .array .int) (C := RX3) (T := TX3) (N := 4) hx hb hts wsi3 tyX3 tyX3_ok nmX3 hown hK hP hD hS 0 rfl rfl 1 (by decide) (hts (.fieldLink RX3 15 "TubesOfCourt$Knocks" "toldMinutes" "[I") (wat_mem (k := 110) (by decide +kernel))) (fun _ h9 => h9) rfl hin rfl (by decide +kernel) rfl rfl (Nat.le_of_ble_eq_true rfl) dk_X3_init_17 (fun H locs hP hD hS => ?_)
  have hP : va_P DD classes ([(h0, .inr (3, [.ref q7, .ref q15, .int 0, .null])), cI q7 cA 8, cI q15 cA 8]) H := hP
  have hD : va_D A ([(h0, .inr (3, [.ref q7, .ref q15, .int 0, .null])), cI q7 cA 8, cI q15 cA 8]) := hD
  refine lv_aload_n hx hb dk_X3_init_20 rfl (lv_at hl 0 rfl) ?_
  refine lv_iconst (v := 0) hx hb dk_X3_init_21 (by decide) ?_
  refine va_put (D := DD) (ci := 3) (v := .int 0) (ty := .int) (C := RX3) (T := TX3) (N := 4) hx hb hts wsi3 tyX3 tyX3_ok nmX3 hown hK hP hD hS 0 rfl rfl 2 (by decide) (hts (.fieldLink RX3 18 "TubesOfCourt$Knocks" "told" "I") (wat_mem (k := 111) (by decide +kernel))) (fun _ h9 => h9) rfl (by decide +kernel) rfl rfl (Nat.le_of_ble_eq_true rfl) dk_X3_init_22 (fun H locs hP hD hS => ?_)
  have hP : va_P DD classes ([(h0, .inr (3, [.ref q7, .ref q15, .int 0, .null])), cI q7 cA 8, cI q15 cA 8]) H := hP
  have hD : va_D A ([(h0, .inr (3, [.ref q7, .ref q15, .int 0, .null])), cI q7 cA 8, cI q15 cA 8]) := hD
  refine lv_aload_n hx hb dk_X3_init_25 rfl (lv_at hl 0 rfl) ?_
  refine lv_bipush (v := 16) hx hb dk_X3_init_26 (by decide) ?_
  refine lv_bipush (v := 8) hx hb dk_X3_init_28 (by decide) ?_
  refine va_newm (ty := .int) (nm := "[[I") (cC := cA 3) (cD := cA 0) (a0 := (8, .inl (fun _ => 0))) (N := 16) (K := 8) hx hb hown (by decide +kernel) (hts (.classLink RX3 22 "[[I") (wat_mem (k := 112) (by decide +kernel))) hT.1 (hts (.arrayClass .int) (wat_mem (k := 55) (by decide +kernel))) hP hD hS hA (hK.2 3 _ rfl).2 (hK.2 0 _ rfl).2 (fun _ => rfl) (by decide) (by decide) (by decide) (by decide) (by decide) (Nat.le_of_ble_eq_true rfl) (Nat.le_of_ble_eq_true rfl) (Nat.le_of_ble_eq_true rfl) rfl (Nat.le_of_ble_eq_true rfl) (Nat.le_of_ble_eq_true rfl) dk_X3_init_30 (fun q30 H hP hD hS => ?_)
  have hP : va_P DD classes ([(h0, .inr (3, [.ref q7, .ref q15, .int 0, .null])), cI q7 cA 8, cI q15 cA 8, (q30, .inl (cA 3, 16, .inr (.inr (.inr (.inr (fun j => if j < 16 then some (q30 + 1 + j) else none)))))), cI (q30 + 1 + 0) cA 8, cI (q30 + 1 + 1) cA 8, cI (q30 + 1 + 2) cA 8, cI (q30 + 1 + 3) cA 8, cI (q30 + 1 + 4) cA 8, cI (q30 + 1 + 5) cA 8, cI (q30 + 1 + 6) cA 8, cI (q30 + 1 + 7) cA 8, cI (q30 + 1 + 8) cA 8, cI (q30 + 1 + 9) cA 8, cI (q30 + 1 + 10) cA 8, cI (q30 + 1 + 11) cA 8, cI (q30 + 1 + 12) cA 8, cI (q30 + 1 + 13) cA 8, cI (q30 + 1 + 14) cA 8, cI (q30 + 1 + 15) cA 8]) H := hP
  have hD : va_D A ([(h0, .inr (3, [.ref q7, .ref q15, .int 0, .null])), cI q7 cA 8, cI q15 cA 8, (q30, .inl (cA 3, 16, .inr (.inr (.inr (.inr (fun j => if j < 16 then some (q30 + 1 + j) else none)))))), cI (q30 + 1 + 0) cA 8, cI (q30 + 1 + 1) cA 8, cI (q30 + 1 + 2) cA 8, cI (q30 + 1 + 3) cA 8, cI (q30 + 1 + 4) cA 8, cI (q30 + 1 + 5) cA 8, cI (q30 + 1 + 6) cA 8, cI (q30 + 1 + 7) cA 8, cI (q30 + 1 + 8) cA 8, cI (q30 + 1 + 9) cA 8, cI (q30 + 1 + 10) cA 8, cI (q30 + 1 + 11) cA 8, cI (q30 + 1 + 12) cA 8, cI (q30 + 1 + 13) cA 8, cI (q30 + 1 + 14) cA 8, cI (q30 + 1 + 15) cA 8]) := hD
  refine W.widen (k := 19) (n := 160) (by omega) (by omega) ?_
  refine va_putF (D := DD) (ci := 3) (v := .ref q30) (ty := .array (.array .int)) (C := RX3) (T := TX3) (N := 4) hx hb hts wsi3 tyX3 tyX3_ok nmX3 hown hK hP hD hS 0 rfl rfl 3 (by decide) (hts (.fieldLink RX3 24 "TubesOfCourt$Knocks" "delays" "[[I") (wat_mem (k := 113) (by decide +kernel))) (fun _ h9 => h9) rfl hin rfl (by decide +kernel) rfl rfl (Nat.le_of_ble_eq_true rfl) dk_X3_init_34 (fun H locs hP hD hS => ?_)
  have hP : va_P DD classes ([(h0, .inr (3, [.ref q7, .ref q15, .int 0, .ref q30])), cI q7 cA 8, cI q15 cA 8, (q30, .inl (cA 3, 16, .inr (.inr (.inr (.inr (fun j => if j < 16 then some (q30 + 1 + j) else none)))))), cI (q30 + 1 + 0) cA 8, cI (q30 + 1 + 1) cA 8, cI (q30 + 1 + 2) cA 8, cI (q30 + 1 + 3) cA 8, cI (q30 + 1 + 4) cA 8, cI (q30 + 1 + 5) cA 8, cI (q30 + 1 + 6) cA 8, cI (q30 + 1 + 7) cA 8, cI (q30 + 1 + 8) cA 8, cI (q30 + 1 + 9) cA 8, cI (q30 + 1 + 10) cA 8, cI (q30 + 1 + 11) cA 8, cI (q30 + 1 + 12) cA 8, cI (q30 + 1 + 13) cA 8, cI (q30 + 1 + 14) cA 8, cI (q30 + 1 + 15) cA 8]) H := hP
  have hD : va_D A ([(h0, .inr (3, [.ref q7, .ref q15, .int 0, .ref q30])), cI q7 cA 8, cI q15 cA 8, (q30, .inl (cA 3, 16, .inr (.inr (.inr (.inr (fun j => if j < 16 then some (q30 + 1 + j) else none)))))), cI (q30 + 1 + 0) cA 8, cI (q30 + 1 + 1) cA 8, cI (q30 + 1 + 2) cA 8, cI (q30 + 1 + 3) cA 8, cI (q30 + 1 + 4) cA 8, cI (q30 + 1 + 5) cA 8, cI (q30 + 1 + 6) cA 8, cI (q30 + 1 + 7) cA 8, cI (q30 + 1 + 8) cA 8, cI (q30 + 1 + 9) cA 8, cI (q30 + 1 + 10) cA 8, cI (q30 + 1 + 11) cA 8, cI (q30 + 1 + 12) cA 8, cI (q30 + 1 + 13) cA 8, cI (q30 + 1 + 14) cA 8, cI (q30 + 1 + 15) cA 8]) := hD
  exact W.vret hx hb hr (fun t ht hW => ⟨⟨(), rfl, trivial, q7, q15, q30, by rw [ht]; exact hP, va_K.moved hW.alike hK, hD⟩, hS.F ht⟩) hS.2.2 dk_X3_init_37
theorem dk_X2_init_0 : decode cX2_init 0 = .ok (.aload_n 0, 1) := by decide +kernel
theorem dk_X2_init_1 : decode cX2_init 1 = .ok (.invokespecial 3, 3) := by decide +kernel
theorem dk_X2_init_4 : decode cX2_init 4 = .ok (.aload_n 0, 1) := by decide +kernel
theorem dk_X2_init_5 : decode cX2_init 5 = .ok (.bipush 8, 2) := by decide +kernel
theorem dk_X2_init_7 : decode cX2_init 7 = .ok (.newarray .int, 2) := by decide +kernel
theorem dk_X2_init_9 : decode cX2_init 9 = .ok (.putfield 9, 3) := by decide +kernel
theorem dk_X2_init_12 : decode cX2_init 12 = .ok (.aload_n 0, 1) := by decide +kernel
theorem dk_X2_init_13 : decode cX2_init 13 = .ok (.iconst 0, 1) := by decide +kernel
theorem dk_X2_init_14 : decode cX2_init 14 = .ok (.putfield 15, 3) := by decide +kernel
theorem dk_X2_init_17 : decode cX2_init 17 = .ok (.aload_n 0, 1) := by decide +kernel
theorem dk_X2_init_18 : decode cX2_init 18 = .ok (.iconst 0, 1) := by decide +kernel
theorem dk_X2_init_19 : decode cX2_init 19 = .ok (.putfield 19, 3) := by decide +kernel
theorem dk_X2_init_22 : decode cX2_init 22 = .ok (.return_, 1) := by decide +kernel
def dfX2 : List Value := [.null, .int 0, .int 0]
theorem dfX2_ok : ∀ j, j < 3 → defaultValue (tyX2 j) = vp_V dfX2 j := by
  intro j hj
  match j, hj with
  | 0, _ => rfl
  | 1, _ => rfl
  | 2, _ => rfl
  | j + 3, h => exact absurd h (by omega)
abbrev wX2 (cA : Nat → ClassId) (h0 q7 : Nat) : va_W := [(h0, .inr (2, [.ref q7, .int 0, .int 0])), cI q7 cA 8]
abbrev atX2 (DD : va_G) (cA : Nat → ClassId) (A : Nat → Prop) (h0 : Nat) (_ : Unit) (t : State) : Prop := ∃ q7 : Nat, va_P DD classes (wX2 cA h0 q7) t.heap ∧ va_K DD classes (tysA cA) t ∧ va_D A (wX2 cA h0 q7)
theorem gk_X2 : GoodIn WS (.code yX2_init cX2_init 1 none :: WS) := gin (fun w hw => by
  rcases List.mem_cons.mp hw with rfl | h
  · exact (wat_mem (k := 115) (by decide +kernel))
  · exact h)
set_option maxHeartbeats 4000000 in
set_option maxRecDepth 100000 in
theorem mk_X2 (l : Launch) (DD : va_G) (cA : Nat → ClassId) (h0 sz : Nat) : Met l yX2_init (.code yX2_init cX2_init 1 none :: WS) ({ frames := 1, cells := 1, slots := 8, locals := 12 } : Room) (va_Pc [.ref h0] (fun U => U.heap.size = sz ∧ va_P DD classes [(h0, .inr (2, dfX2))] U.heap ∧ va_K DD classes (tysA cA) U ∧ va_D (fun _ => True) [(h0, .inr (2, dfX2))])) (va_Qv (fun _ : Unit => True) (atX2 DD cA (va_A [(h0, .inr (2, dfX2))] sz) h0) (va_A [(h0, .inr (2, dfX2))] sz)) 1 8 (va_A [(h0, .inr (2, dfX2))] sz) := by
  refine Met.ofW (cc := cX2_init) (maxL := 1) (ret := none) (by decide +kernel) rfl ?_
  intro p e s m args below meth c s₁ B hml hv
  obtain ⟨rfl, hsz, hP, hK, hD0⟩ := hv
  have hx := B.exec
  have hb := B.bytes
  have hr := B.returns
  have hts0 := atoms_spec (ws := .code yX2_init cX2_init 1 none :: WS) B.pre
  have hts : ∀ w ∈ WS, w.before _ s = true := fun w hw => hts0 w (List.mem_cons_of_mem _ hw)
  have hown : s.vm.findClass RX2 = some m.cls := findClass_of_methodNamed B.named
  have hlocks := B.notSynchronized
  have hin : meth.name = "<init>" := (name_of_methodNamed B.named B.method).1
  subst hsz
  have hD := hD0.self (sz := s.heap.size)
  generalize hAe : va_A [(h0, .inr (2, dfX2))] s.heap.size = A at hD ⊢
  have hA : ∀ q : Nat, s.heap.size ≤ q → A q := fun q h => by rw [← hAe]; exact Or.inr h
  have hS : va_S A s.heap s.heap [] := va_S.rf
  have hP : va_P DD classes [(h0, .inr (2, dfX2))] s.heap := hP
  have hl := lv_entry ([.ref h0]) (n := 1) (Nat.le_of_ble_eq_true rfl)
  rw [lg_entry_eq]
  generalize (lg_sl ([.ref h0]) ++ List.replicate (1 - (lg_sl ([.ref h0])).length) Slot.unset).toArray = ls at hl ⊢
  have hl : lv_has ls 1 [(0, .ref h0)] := hl
  refine lv_aload_n hx hb dk_X2_init_0 rfl (lv_at hl 0 rfl) ?_
  refine W.objInit hx hb hown (hts (.methodLink RX2 3 objectInit) (wat_mem (k := 116) (by decide +kernel))) (hts (.instanceMethod objectInit) (wat_mem (k := 11) (by decide +kernel))) (hts (.code objectInit ⟨#[0xb1]⟩ 1 none) (wat_mem (k := 12) (by decide +kernel))) rfl (by rw [hml]; exact hl.1) rfl dk_X2_init_1 (Nat.le_of_ble_eq_true rfl) (Nat.le_of_ble_eq_true rfl) ?_
  refine W.eq (g2 := F0 m 4 ls []) rfl ?_
  refine lv_aload_n hx hb dk_X2_init_4 rfl (lv_at hl 0 rfl) ?_
  refine lv_bipush (v := 8) hx hb dk_X2_init_5 (by decide) ?_
  refine va_newa (atype := .int) hx hb (hts (.arrayClass .int) (wat_mem (k := 55) (by decide +kernel))) rfl hK hP hD hS hA (a0 := (8, .inl (fun _ => 0))) (fun _ => rfl) (by decide) (N' := 8) (by decide) (Nat.le_of_ble_eq_true rfl) (Nat.le_of_ble_eq_true rfl) (Nat.le_of_ble_eq_true rfl) dk_X2_init_7 (fun q7 cQ H hKq hP hD hS => ?_)
  obtain rfl := ty_int hKq
  clear hKq
  have hP : va_P DD classes ([(h0, .inr (2, [.null, .int 0, .int 0])), cI q7 cA 8]) H := hP
  have hD : va_D A ([(h0, .inr (2, [.null, .int 0, .int 0])), cI q7 cA 8]) := hD
  refine W.widen (k := 1) (n := 8) (by omega) (by omega) ?_
  refine va_putF (D := DD) (ci := 2) (v := .ref q7) (ty := .array .int) (C := RX2) (T := TX2) (N := 3) hx hb hts wsi2 tyX2 tyX2_ok nmX2 hown hK hP hD hS 0 rfl rfl 0 (by decide) (hts (.fieldLink RX2 9 "TubesOfCourt$Joining" "group" "[I") (wat_mem (k := 117) (by decide +kernel))) (fun _ h9 => h9) rfl hin rfl (by decide +kernel) rfl rfl (Nat.le_of_ble_eq_true rfl) dk_X2_init_9 (fun H locs hP hD hS => ?_)
  have hP : va_P DD classes ([(h0, .inr (2, [.ref q7, .int 0, .int 0])), cI q7 cA 8]) H := hP
  have hD : va_D A ([(h0, .inr (2, [.ref q7, .int 0, .int 0])), cI q7 cA 8]) := hD
  refine lv_aload_n hx hb dk_X2_init_12 rfl (lv_at hl 0 rfl) ?_
  refine lv_iconst (v := 0) hx hb dk_X2_init_13 (by decide) ?_
  refine va_put (D := DD) (ci := 2) (v := .int 0) (ty := .int) (C := RX2) (T := TX2) (N := 3) hx hb hts wsi2 tyX2 tyX2_ok nmX2 hown hK hP hD hS 0 rfl rfl 1 (by decide) (hts (.fieldLink RX2 15 "TubesOfCourt$Joining" "sum" "I") (wat_mem (k := 118) (by decide +kernel))) (fun _ h9 => h9) rfl (by decide +kernel) rfl rfl (Nat.le_of_ble_eq_true rfl) dk_X2_init_14 (fun H locs hP hD hS => ?_)
  have hP : va_P DD classes ([(h0, .inr (2, [.ref q7, .int 0, .int 0])), cI q7 cA 8]) H := hP
  have hD : va_D A ([(h0, .inr (2, [.ref q7, .int 0, .int 0])), cI q7 cA 8]) := hD
  refine lv_aload_n hx hb dk_X2_init_17 rfl (lv_at hl 0 rfl) ?_
  refine lv_iconst (v := 0) hx hb dk_X2_init_18 (by decide) ?_
  refine va_put (D := DD) (ci := 2) (v := .int 0) (ty := .int) (C := RX2) (T := TX2) (N := 3) hx hb hts wsi2 tyX2 tyX2_ok nmX2 hown hK hP hD hS 0 rfl rfl 2 (by decide) (hts (.fieldLink RX2 19 "TubesOfCourt$Joining" "chosen" "I") (wat_mem (k := 119) (by decide +kernel))) (fun _ h9 => h9) rfl (by decide +kernel) rfl rfl (Nat.le_of_ble_eq_true rfl) dk_X2_init_19 (fun H locs hP hD hS => ?_)
  have hP : va_P DD classes ([(h0, .inr (2, [.ref q7, .int 0, .int 0])), cI q7 cA 8]) H := hP
  have hD : va_D A ([(h0, .inr (2, [.ref q7, .int 0, .int 0])), cI q7 cA 8]) := hD
  exact W.vret hx hb hr (fun t ht hW => ⟨⟨(), rfl, trivial, q7, by rw [ht]; exact hP, va_K.moved hW.alike hK, hD⟩, hS.F ht⟩) hS.2.2 dk_X2_init_22
theorem dk_X6_init_0 : decode cX6_init 0 = .ok (.aload_n 0, 1) := by decide +kernel
theorem dk_X6_init_1 : decode cX6_init 1 = .ok (.invokespecial 3, 3) := by decide +kernel
theorem dk_X6_init_4 : decode cX6_init 4 = .ok (.aload_n 0, 1) := by decide +kernel
theorem dk_X6_init_5 : decode cX6_init 5 = .ok (.sipush 160, 3) := by decide +kernel
theorem dk_X6_init_8 : decode cX6_init 8 = .ok (.newarray .int, 2) := by decide +kernel
theorem dk_X6_init_10 : decode cX6_init 10 = .ok (.putfield 9, 3) := by decide +kernel
theorem dk_X6_init_13 : decode cX6_init 13 = .ok (.aload_n 0, 1) := by decide +kernel
theorem dk_X6_init_14 : decode cX6_init 14 = .ok (.iconst 4, 1) := by decide +kernel
theorem dk_X6_init_15 : decode cX6_init 15 = .ok (.newarray .int, 2) := by decide +kernel
theorem dk_X6_init_17 : decode cX6_init 17 = .ok (.putfield 15, 3) := by decide +kernel
theorem dk_X6_init_20 : decode cX6_init 20 = .ok (.aload_n 0, 1) := by decide +kernel
theorem dk_X6_init_21 : decode cX6_init 21 = .ok (.iconst 0, 1) := by decide +kernel
theorem dk_X6_init_22 : decode cX6_init 22 = .ok (.putfield 18, 3) := by decide +kernel
theorem dk_X6_init_25 : decode cX6_init 25 = .ok (.aload_n 0, 1) := by decide +kernel
theorem dk_X6_init_26 : decode cX6_init 26 = .ok (.iconst 0, 1) := by decide +kernel
theorem dk_X6_init_27 : decode cX6_init 27 = .ok (.putfield 22, 3) := by decide +kernel
theorem dk_X6_init_30 : decode cX6_init 30 = .ok (.aload_n 0, 1) := by decide +kernel
theorem dk_X6_init_31 : decode cX6_init 31 = .ok (.iconst (-1), 1) := by decide +kernel
theorem dk_X6_init_32 : decode cX6_init 32 = .ok (.putfield 25, 3) := by decide +kernel
theorem dk_X6_init_35 : decode cX6_init 35 = .ok (.aload_n 0, 1) := by decide +kernel
theorem dk_X6_init_36 : decode cX6_init 36 = .ok (.iconst 0, 1) := by decide +kernel
theorem dk_X6_init_37 : decode cX6_init 37 = .ok (.putfield 28, 3) := by decide +kernel
theorem dk_X6_init_40 : decode cX6_init 40 = .ok (.return_, 1) := by decide +kernel
def dfX6 : List Value := [.null, .null, .int 0, .int 0, .int 0, .int 0]
theorem dfX6_ok : ∀ j, j < 6 → defaultValue (tyX6 j) = vp_V dfX6 j := by
  intro j hj
  match j, hj with
  | 0, _ => rfl
  | 1, _ => rfl
  | 2, _ => rfl
  | 3, _ => rfl
  | 4, _ => rfl
  | 5, _ => rfl
  | j + 6, h => exact absurd h (by omega)
abbrev wX6 (cA : Nat → ClassId) (h0 q8 q15 : Nat) : va_W := [(h0, .inr (6, [.ref q8, .ref q15, .int 0, .int 0, .int (-1), .int 0])), cI q8 cA 160, cI q15 cA 4]
abbrev atX6 (DD : va_G) (cA : Nat → ClassId) (A : Nat → Prop) (h0 : Nat) (_ : Unit) (t : State) : Prop := ∃ q8 q15 : Nat, va_P DD classes (wX6 cA h0 q8 q15) t.heap ∧ va_K DD classes (tysA cA) t ∧ va_D A (wX6 cA h0 q8 q15)
theorem gk_X6 : GoodIn WS (.code yX6_init cX6_init 1 none :: WS) := gin (fun w hw => by
  rcases List.mem_cons.mp hw with rfl | h
  · exact (wat_mem (k := 121) (by decide +kernel))
  · exact h)
set_option maxHeartbeats 4000000 in
set_option maxRecDepth 100000 in
theorem mk_X6 (l : Launch) (DD : va_G) (cA : Nat → ClassId) (h0 sz : Nat) : Met l yX6_init (.code yX6_init cX6_init 1 none :: WS) ({ frames := 1, cells := 2, slots := 164, locals := 12 } : Room) (va_Pc [.ref h0] (fun U => U.heap.size = sz ∧ va_P DD classes [(h0, .inr (6, dfX6))] U.heap ∧ va_K DD classes (tysA cA) U ∧ va_D (fun _ => True) [(h0, .inr (6, dfX6))])) (va_Qv (fun _ : Unit => True) (atX6 DD cA (va_A [(h0, .inr (6, dfX6))] sz) h0) (va_A [(h0, .inr (6, dfX6))] sz)) 2 164 (va_A [(h0, .inr (6, dfX6))] sz) := by
  refine Met.ofW (cc := cX6_init) (maxL := 1) (ret := none) (by decide +kernel) rfl ?_
  intro p e s m args below meth c s₁ B hml hv
  obtain ⟨rfl, hsz, hP, hK, hD0⟩ := hv
  have hx := B.exec
  have hb := B.bytes
  have hr := B.returns
  have hts0 := atoms_spec (ws := .code yX6_init cX6_init 1 none :: WS) B.pre
  have hts : ∀ w ∈ WS, w.before _ s = true := fun w hw => hts0 w (List.mem_cons_of_mem _ hw)
  have hown : s.vm.findClass RX6 = some m.cls := findClass_of_methodNamed B.named
  have hlocks := B.notSynchronized
  have hin : meth.name = "<init>" := (name_of_methodNamed B.named B.method).1
  subst hsz
  have hD := hD0.self (sz := s.heap.size)
  generalize hAe : va_A [(h0, .inr (6, dfX6))] s.heap.size = A at hD ⊢
  have hA : ∀ q : Nat, s.heap.size ≤ q → A q := fun q h => by rw [← hAe]; exact Or.inr h
  have hS : va_S A s.heap s.heap [] := va_S.rf
  have hP : va_P DD classes [(h0, .inr (6, dfX6))] s.heap := hP
  have hl := lv_entry ([.ref h0]) (n := 1) (Nat.le_of_ble_eq_true rfl)
  rw [lg_entry_eq]
  generalize (lg_sl ([.ref h0]) ++ List.replicate (1 - (lg_sl ([.ref h0])).length) Slot.unset).toArray = ls at hl ⊢
  have hl : lv_has ls 1 [(0, .ref h0)] := hl
  refine lv_aload_n hx hb dk_X6_init_0 rfl (lv_at hl 0 rfl) ?_
  refine W.objInit hx hb hown (hts (.methodLink RX6 3 objectInit) (wat_mem (k := 122) (by decide +kernel))) (hts (.instanceMethod objectInit) (wat_mem (k := 11) (by decide +kernel))) (hts (.code objectInit ⟨#[0xb1]⟩ 1 none) (wat_mem (k := 12) (by decide +kernel))) rfl (by rw [hml]; exact hl.1) rfl dk_X6_init_1 (Nat.le_of_ble_eq_true rfl) (Nat.le_of_ble_eq_true rfl) ?_
  refine W.eq (g2 := F0 m 4 ls []) rfl ?_
  refine lv_aload_n hx hb dk_X6_init_4 rfl (lv_at hl 0 rfl) ?_
  refine lv_sipush (v := 160) hx hb dk_X6_init_5 (by decide) ?_
  refine va_newa (atype := .int) hx hb (hts (.arrayClass .int) (wat_mem (k := 55) (by decide +kernel))) rfl hK hP hD hS hA (a0 := (160, .inl (fun _ => 0))) (fun _ => rfl) (by decide) (N' := 160) (by decide) (Nat.le_of_ble_eq_true rfl) (Nat.le_of_ble_eq_true rfl) (Nat.le_of_ble_eq_true rfl) dk_X6_init_8 (fun q8 cQ H hKq hP hD hS => ?_)
  obtain rfl := ty_int hKq
  clear hKq
  have hP : va_P DD classes ([(h0, .inr (6, [.null, .null, .int 0, .int 0, .int 0, .int 0])), cI q8 cA 160]) H := hP
  have hD : va_D A ([(h0, .inr (6, [.null, .null, .int 0, .int 0, .int 0, .int 0])), cI q8 cA 160]) := hD
  refine W.widen (k := 1) (n := 160) (by omega) (by omega) ?_
  refine va_putF (D := DD) (ci := 6) (v := .ref q8) (ty := .array .int) (C := RX6) (T := TX6) (N := 6) hx hb hts wsi6 tyX6 tyX6_ok nmX6 hown hK hP hD hS 0 rfl rfl 0 (by decide) (hts (.fieldLink RX6 9 "TubesOfCourt$PlanReader" "letters" "[I") (wat_mem (k := 123) (by decide +kernel))) (fun _ h9 => h9) rfl hin rfl (by decide +kernel) rfl rfl (Nat.le_of_ble_eq_true rfl) dk_X6_init_10 (fun H locs hP hD hS => ?_)
  have hP : va_P DD classes ([(h0, .inr (6, [.ref q8, .null, .int 0, .int 0, .int 0, .int 0])), cI q8 cA 160]) H := hP
  have hD : va_D A ([(h0, .inr (6, [.ref q8, .null, .int 0, .int 0, .int 0, .int 0])), cI q8 cA 160]) := hD
  refine lv_aload_n hx hb dk_X6_init_13 rfl (lv_at hl 0 rfl) ?_
  refine lv_iconst (v := 4) hx hb dk_X6_init_14 (by decide) ?_
  refine va_newa (atype := .int) hx hb (hts (.arrayClass .int) (wat_mem (k := 55) (by decide +kernel))) rfl hK hP hD hS hA (a0 := (4, .inl (fun _ => 0))) (fun _ => rfl) (by decide) (N' := 4) (by decide) (Nat.le_of_ble_eq_true rfl) (Nat.le_of_ble_eq_true rfl) (Nat.le_of_ble_eq_true rfl) dk_X6_init_15 (fun q15 cQ H hKq hP hD hS => ?_)
  obtain rfl := ty_int hKq
  clear hKq
  have hP : va_P DD classes ([(h0, .inr (6, [.ref q8, .null, .int 0, .int 0, .int 0, .int 0])), cI q8 cA 160, cI q15 cA 4]) H := hP
  have hD : va_D A ([(h0, .inr (6, [.ref q8, .null, .int 0, .int 0, .int 0, .int 0])), cI q8 cA 160, cI q15 cA 4]) := hD
  refine W.widen (k := 2) (n := 164) (by omega) (by omega) ?_
  refine va_putF (D := DD) (ci := 6) (v := .ref q15) (ty := .array .int) (C := RX6) (T := TX6) (N := 6) hx hb hts wsi6 tyX6 tyX6_ok nmX6 hown hK hP hD hS 0 rfl rfl 1 (by decide) (hts (.fieldLink RX6 15 "TubesOfCourt$PlanReader" "numbers" "[I") (wat_mem (k := 124) (by decide +kernel))) (fun _ h9 => h9) rfl hin rfl (by decide +kernel) rfl rfl (Nat.le_of_ble_eq_true rfl) dk_X6_init_17 (fun H locs hP hD hS => ?_)
  have hP : va_P DD classes ([(h0, .inr (6, [.ref q8, .ref q15, .int 0, .int 0, .int 0, .int 0])), cI q8 cA 160, cI q15 cA 4]) H := hP
  have hD : va_D A ([(h0, .inr (6, [.ref q8, .ref q15, .int 0, .int 0, .int 0, .int 0])), cI q8 cA 160, cI q15 cA 4]) := hD
  refine lv_aload_n hx hb dk_X6_init_20 rfl (lv_at hl 0 rfl) ?_
  refine lv_iconst (v := 0) hx hb dk_X6_init_21 (by decide) ?_
  refine va_put (D := DD) (ci := 6) (v := .int 0) (ty := .int) (C := RX6) (T := TX6) (N := 6) hx hb hts wsi6 tyX6 tyX6_ok nmX6 hown hK hP hD hS 0 rfl rfl 2 (by decide) (hts (.fieldLink RX6 18 "TubesOfCourt$PlanReader" "size" "I") (wat_mem (k := 125) (by decide +kernel))) (fun _ h9 => h9) rfl (by decide +kernel) rfl rfl (Nat.le_of_ble_eq_true rfl) dk_X6_init_22 (fun H locs hP hD hS => ?_)
  have hP : va_P DD classes ([(h0, .inr (6, [.ref q8, .ref q15, .int 0, .int 0, .int 0, .int 0])), cI q8 cA 160, cI q15 cA 4]) H := hP
  have hD : va_D A ([(h0, .inr (6, [.ref q8, .ref q15, .int 0, .int 0, .int 0, .int 0])), cI q8 cA 160, cI q15 cA 4]) := hD
  refine lv_aload_n hx hb dk_X6_init_25 rfl (lv_at hl 0 rfl) ?_
  refine lv_iconst (v := 0) hx hb dk_X6_init_26 (by decide) ?_
  refine va_put (D := DD) (ci := 6) (v := .int 0) (ty := .int) (C := RX6) (T := TX6) (N := 6) hx hb hts wsi6 tyX6 tyX6_ok nmX6 hown hK hP hD hS 0 rfl rfl 3 (by decide) (hts (.fieldLink RX6 22 "TubesOfCourt$PlanReader" "place" "I") (wat_mem (k := 126) (by decide +kernel))) (fun _ h9 => h9) rfl (by decide +kernel) rfl rfl (Nat.le_of_ble_eq_true rfl) dk_X6_init_27 (fun H locs hP hD hS => ?_)
  have hP : va_P DD classes ([(h0, .inr (6, [.ref q8, .ref q15, .int 0, .int 0, .int 0, .int 0])), cI q8 cA 160, cI q15 cA 4]) H := hP
  have hD : va_D A ([(h0, .inr (6, [.ref q8, .ref q15, .int 0, .int 0, .int 0, .int 0])), cI q8 cA 160, cI q15 cA 4]) := hD
  refine lv_aload_n hx hb dk_X6_init_30 rfl (lv_at hl 0 rfl) ?_
  refine lv_iconst (v := (-1)) hx hb dk_X6_init_31 (by decide) ?_
  refine va_put (D := DD) (ci := 6) (v := .int (-1)) (ty := .int) (C := RX6) (T := TX6) (N := 6) hx hb hts wsi6 tyX6 tyX6_ok nmX6 hown hK hP hD hS 0 rfl rfl 4 (by decide) (hts (.fieldLink RX6 25 "TubesOfCourt$PlanReader" "faultPlace" "I") (wat_mem (k := 127) (by decide +kernel))) (fun _ h9 => h9) rfl (by decide +kernel) rfl rfl (Nat.le_of_ble_eq_true rfl) dk_X6_init_32 (fun H locs hP hD hS => ?_)
  have hP : va_P DD classes ([(h0, .inr (6, [.ref q8, .ref q15, .int 0, .int 0, .int (-1), .int 0])), cI q8 cA 160, cI q15 cA 4]) H := hP
  have hD : va_D A ([(h0, .inr (6, [.ref q8, .ref q15, .int 0, .int 0, .int (-1), .int 0])), cI q8 cA 160, cI q15 cA 4]) := hD
  refine lv_aload_n hx hb dk_X6_init_35 rfl (lv_at hl 0 rfl) ?_
  refine lv_iconst (v := 0) hx hb dk_X6_init_36 (by decide) ?_
  refine va_put (D := DD) (ci := 6) (v := .int 0) (ty := .int) (C := RX6) (T := TX6) (N := 6) hx hb hts wsi6 tyX6 tyX6_ok nmX6 hown hK hP hD hS 0 rfl rfl 5 (by decide) (hts (.fieldLink RX6 28 "TubesOfCourt$PlanReader" "items" "I") (wat_mem (k := 128) (by decide +kernel))) (fun _ h9 => h9) rfl (by decide +kernel) rfl rfl (Nat.le_of_ble_eq_true rfl) dk_X6_init_37 (fun H locs hP hD hS => ?_)
  have hP : va_P DD classes ([(h0, .inr (6, [.ref q8, .ref q15, .int 0, .int 0, .int (-1), .int 0])), cI q8 cA 160, cI q15 cA 4]) H := hP
  have hD : va_D A ([(h0, .inr (6, [.ref q8, .ref q15, .int 0, .int 0, .int (-1), .int 0])), cI q8 cA 160, cI q15 cA 4]) := hD
  exact W.vret hx hb hr (fun t ht hW => ⟨⟨(), rfl, trivial, q8, q15, by rw [ht]; exact hP, va_K.moved hW.alike hK, hD⟩, hS.F ht⟩) hS.2.2 dk_X6_init_40
theorem dk_X1_init_0 : decode cX1_init 0 = .ok (.aload_n 0, 1) := by decide +kernel
theorem dk_X1_init_1 : decode cX1_init 1 = .ok (.invokespecial 3, 3) := by decide +kernel
theorem dk_X1_init_4 : decode cX1_init 4 = .ok (.aload_n 0, 1) := by decide +kernel
theorem dk_X1_init_5 : decode cX1_init 5 = .ok (.iconst 0, 1) := by decide +kernel
theorem dk_X1_init_6 : decode cX1_init 6 = .ok (.putfield 9, 3) := by decide +kernel
theorem dk_X1_init_9 : decode cX1_init 9 = .ok (.aload_n 0, 1) := by decide +kernel
theorem dk_X1_init_10 : decode cX1_init 10 = .ok (.iconst 0, 1) := by decide +kernel
theorem dk_X1_init_11 : decode cX1_init 11 = .ok (.putfield 15, 3) := by decide +kernel
theorem dk_X1_init_14 : decode cX1_init 14 = .ok (.return_, 1) := by decide +kernel
def dfX1 : List Value := [.int 0, .int 0]
theorem dfX1_ok : ∀ j, j < 2 → defaultValue (tyX1 j) = vp_V dfX1 j := by
  intro j hj
  match j, hj with
  | 0, _ => rfl
  | 1, _ => rfl
  | j + 2, h => exact absurd h (by omega)
abbrev wX1 (cA : Nat → ClassId) (h0 : Nat) : va_W := [(h0, .inr (1, [.int 0, .int 0]))]
abbrev atX1 (DD : va_G) (cA : Nat → ClassId) (A : Nat → Prop) (h0 : Nat) (_ : Unit) (t : State) : Prop := va_P DD classes (wX1 cA h0) t.heap ∧ va_K DD classes (tysA cA) t ∧ va_D A (wX1 cA h0)
theorem gk_X1 : GoodIn WS (.code yX1_init cX1_init 1 none :: WS) := gin (fun w hw => by
  rcases List.mem_cons.mp hw with rfl | h
  · exact (wat_mem (k := 130) (by decide +kernel))
  · exact h)
set_option maxHeartbeats 4000000 in
set_option maxRecDepth 100000 in
theorem mk_X1 (l : Launch) (DD : va_G) (cA : Nat → ClassId) (h0 sz : Nat) : Met l yX1_init (.code yX1_init cX1_init 1 none :: WS) ({ frames := 1, cells := 0, slots := 0, locals := 12 } : Room) (va_Pc [.ref h0] (fun U => U.heap.size = sz ∧ va_P DD classes [(h0, .inr (1, dfX1))] U.heap ∧ va_K DD classes (tysA cA) U ∧ va_D (fun _ => True) [(h0, .inr (1, dfX1))])) (va_Qv (fun _ : Unit => True) (atX1 DD cA (va_A [(h0, .inr (1, dfX1))] sz) h0) (va_A [(h0, .inr (1, dfX1))] sz)) 0 0 (va_A [(h0, .inr (1, dfX1))] sz) := by
  refine Met.ofW (cc := cX1_init) (maxL := 1) (ret := none) (by decide +kernel) rfl ?_
  intro p e s m args below meth c s₁ B hml hv
  obtain ⟨rfl, hsz, hP, hK, hD0⟩ := hv
  have hx := B.exec
  have hb := B.bytes
  have hr := B.returns
  have hts0 := atoms_spec (ws := .code yX1_init cX1_init 1 none :: WS) B.pre
  have hts : ∀ w ∈ WS, w.before _ s = true := fun w hw => hts0 w (List.mem_cons_of_mem _ hw)
  have hown : s.vm.findClass RX1 = some m.cls := findClass_of_methodNamed B.named
  have hlocks := B.notSynchronized
  have hin : meth.name = "<init>" := (name_of_methodNamed B.named B.method).1
  subst hsz
  have hD := hD0.self (sz := s.heap.size)
  generalize hAe : va_A [(h0, .inr (1, dfX1))] s.heap.size = A at hD ⊢
  have hA : ∀ q : Nat, s.heap.size ≤ q → A q := fun q h => by rw [← hAe]; exact Or.inr h
  have hS : va_S A s.heap s.heap [] := va_S.rf
  have hP : va_P DD classes [(h0, .inr (1, dfX1))] s.heap := hP
  have hl := lv_entry ([.ref h0]) (n := 1) (Nat.le_of_ble_eq_true rfl)
  rw [lg_entry_eq]
  generalize (lg_sl ([.ref h0]) ++ List.replicate (1 - (lg_sl ([.ref h0])).length) Slot.unset).toArray = ls at hl ⊢
  have hl : lv_has ls 1 [(0, .ref h0)] := hl
  refine lv_aload_n hx hb dk_X1_init_0 rfl (lv_at hl 0 rfl) ?_
  refine W.objInit hx hb hown (hts (.methodLink RX1 3 objectInit) (wat_mem (k := 131) (by decide +kernel))) (hts (.instanceMethod objectInit) (wat_mem (k := 11) (by decide +kernel))) (hts (.code objectInit ⟨#[0xb1]⟩ 1 none) (wat_mem (k := 12) (by decide +kernel))) rfl (by rw [hml]; exact hl.1) rfl dk_X1_init_1 (Nat.le_of_ble_eq_true rfl) (Nat.le_of_ble_eq_true rfl) ?_
  refine W.eq (g2 := F0 m 4 ls []) rfl ?_
  refine lv_aload_n hx hb dk_X1_init_4 rfl (lv_at hl 0 rfl) ?_
  refine lv_iconst (v := 0) hx hb dk_X1_init_5 (by decide) ?_
  refine va_put (D := DD) (ci := 1) (v := .int 0) (ty := .int) (C := RX1) (T := TX1) (N := 2) hx hb hts wsi1 tyX1 tyX1_ok nmX1 hown hK hP hD hS 0 rfl rfl 0 (by decide) (hts (.fieldLink RX1 9 "TubesOfCourt$Days" "minutes" "I") (wat_mem (k := 132) (by decide +kernel))) (fun _ h9 => h9) rfl (by decide +kernel) rfl rfl (Nat.le_of_ble_eq_true rfl) dk_X1_init_6 (fun H locs hP hD hS => ?_)
  have hP : va_P DD classes ([(h0, .inr (1, [.int 0, .int 0]))]) H := hP
  have hD : va_D A ([(h0, .inr (1, [.int 0, .int 0]))]) := hD
  refine lv_aload_n hx hb dk_X1_init_9 rfl (lv_at hl 0 rfl) ?_
  refine lv_iconst (v := 0) hx hb dk_X1_init_10 (by decide) ?_
  refine va_put (D := DD) (ci := 1) (v := .int 0) (ty := .int) (C := RX1) (T := TX1) (N := 2) hx hb hts wsi1 tyX1 tyX1_ok nmX1 hown hK hP hD hS 0 rfl rfl 1 (by decide) (hts (.fieldLink RX1 15 "TubesOfCourt$Days" "signs" "I") (wat_mem (k := 133) (by decide +kernel))) (fun _ h9 => h9) rfl (by decide +kernel) rfl rfl (Nat.le_of_ble_eq_true rfl) dk_X1_init_11 (fun H locs hP hD hS => ?_)
  have hP : va_P DD classes ([(h0, .inr (1, [.int 0, .int 0]))]) H := hP
  have hD : va_D A ([(h0, .inr (1, [.int 0, .int 0]))]) := hD
  exact W.vret hx hb hr (fun t ht hW => ⟨⟨(), rfl, trivial, by rw [ht]; exact hP, va_K.moved hW.alike hK, hD⟩, hS.F ht⟩) hS.2.2 dk_X1_init_14
theorem dk_X5_init_0 : decode cX5_init 0 = .ok (.aload_n 0, 1) := by decide +kernel
theorem dk_X5_init_1 : decode cX5_init 1 = .ok (.invokespecial 3, 3) := by decide +kernel
theorem dk_X5_init_4 : decode cX5_init 4 = .ok (.aload_n 0, 1) := by decide +kernel
theorem dk_X5_init_5 : decode cX5_init 5 = .ok (.bipush 20, 2) := by decide +kernel
theorem dk_X5_init_7 : decode cX5_init 7 = .ok (.newarray .int, 2) := by decide +kernel
theorem dk_X5_init_9 : decode cX5_init 9 = .ok (.putfield 9, 3) := by decide +kernel
theorem dk_X5_init_12 : decode cX5_init 12 = .ok (.aload_n 0, 1) := by decide +kernel
theorem dk_X5_init_13 : decode cX5_init 13 = .ok (.iconst 0, 1) := by decide +kernel
theorem dk_X5_init_14 : decode cX5_init 14 = .ok (.putfield 15, 3) := by decide +kernel
theorem dk_X5_init_17 : decode cX5_init 17 = .ok (.aload_n 0, 1) := by decide +kernel
theorem dk_X5_init_18 : decode cX5_init 18 = .ok (.iconst 0, 1) := by decide +kernel
theorem dk_X5_init_19 : decode cX5_init 19 = .ok (.putfield 19, 3) := by decide +kernel
theorem dk_X5_init_22 : decode cX5_init 22 = .ok (.aload_n 0, 1) := by decide +kernel
theorem dk_X5_init_23 : decode cX5_init 23 = .ok (.iconst 0, 1) := by decide +kernel
theorem dk_X5_init_24 : decode cX5_init 24 = .ok (.putfield 22, 3) := by decide +kernel
theorem dk_X5_init_27 : decode cX5_init 27 = .ok (.aload_n 0, 1) := by decide +kernel
theorem dk_X5_init_28 : decode cX5_init 28 = .ok (.iconst 0, 1) := by decide +kernel
theorem dk_X5_init_29 : decode cX5_init 29 = .ok (.putfield 25, 3) := by decide +kernel
theorem dk_X5_init_32 : decode cX5_init 32 = .ok (.return_, 1) := by decide +kernel
def dfX5 : List Value := [.null, .int 0, .int 0, .int 0, .int 0]
theorem dfX5_ok : ∀ j, j < 5 → defaultValue (tyX5 j) = vp_V dfX5 j := by
  intro j hj
  match j, hj with
  | 0, _ => rfl
  | 1, _ => rfl
  | 2, _ => rfl
  | 3, _ => rfl
  | 4, _ => rfl
  | j + 5, h => exact absurd h (by omega)
abbrev wX5 (cA : Nat → ClassId) (h0 q7 : Nat) : va_W := [(h0, .inr (5, [.ref q7, .int 0, .int 0, .int 0, .int 0])), cI q7 cA 20]
abbrev atX5 (DD : va_G) (cA : Nat → ClassId) (A : Nat → Prop) (h0 : Nat) (_ : Unit) (t : State) : Prop := ∃ q7 : Nat, va_P DD classes (wX5 cA h0 q7) t.heap ∧ va_K DD classes (tysA cA) t ∧ va_D A (wX5 cA h0 q7)
theorem gk_X5 : GoodIn WS (.code yX5_init cX5_init 1 none :: WS) := gin (fun w hw => by
  rcases List.mem_cons.mp hw with rfl | h
  · exact (wat_mem (k := 135) (by decide +kernel))
  · exact h)
set_option maxHeartbeats 4000000 in
set_option maxRecDepth 100000 in
theorem mk_X5 (l : Launch) (DD : va_G) (cA : Nat → ClassId) (h0 sz : Nat) : Met l yX5_init (.code yX5_init cX5_init 1 none :: WS) ({ frames := 1, cells := 1, slots := 20, locals := 12 } : Room) (va_Pc [.ref h0] (fun U => U.heap.size = sz ∧ va_P DD classes [(h0, .inr (5, dfX5))] U.heap ∧ va_K DD classes (tysA cA) U ∧ va_D (fun _ => True) [(h0, .inr (5, dfX5))])) (va_Qv (fun _ : Unit => True) (atX5 DD cA (va_A [(h0, .inr (5, dfX5))] sz) h0) (va_A [(h0, .inr (5, dfX5))] sz)) 1 20 (va_A [(h0, .inr (5, dfX5))] sz) := by
  refine Met.ofW (cc := cX5_init) (maxL := 1) (ret := none) (by decide +kernel) rfl ?_
  intro p e s m args below meth c s₁ B hml hv
  obtain ⟨rfl, hsz, hP, hK, hD0⟩ := hv
  have hx := B.exec
  have hb := B.bytes
  have hr := B.returns
  have hts0 := atoms_spec (ws := .code yX5_init cX5_init 1 none :: WS) B.pre
  have hts : ∀ w ∈ WS, w.before _ s = true := fun w hw => hts0 w (List.mem_cons_of_mem _ hw)
  have hown : s.vm.findClass RX5 = some m.cls := findClass_of_methodNamed B.named
  have hlocks := B.notSynchronized
  have hin : meth.name = "<init>" := (name_of_methodNamed B.named B.method).1
  subst hsz
  have hD := hD0.self (sz := s.heap.size)
  generalize hAe : va_A [(h0, .inr (5, dfX5))] s.heap.size = A at hD ⊢
  have hA : ∀ q : Nat, s.heap.size ≤ q → A q := fun q h => by rw [← hAe]; exact Or.inr h
  have hS : va_S A s.heap s.heap [] := va_S.rf
  have hP : va_P DD classes [(h0, .inr (5, dfX5))] s.heap := hP
  have hl := lv_entry ([.ref h0]) (n := 1) (Nat.le_of_ble_eq_true rfl)
  rw [lg_entry_eq]
  generalize (lg_sl ([.ref h0]) ++ List.replicate (1 - (lg_sl ([.ref h0])).length) Slot.unset).toArray = ls at hl ⊢
  have hl : lv_has ls 1 [(0, .ref h0)] := hl
  refine lv_aload_n hx hb dk_X5_init_0 rfl (lv_at hl 0 rfl) ?_
  refine W.objInit hx hb hown (hts (.methodLink RX5 3 objectInit) (wat_mem (k := 136) (by decide +kernel))) (hts (.instanceMethod objectInit) (wat_mem (k := 11) (by decide +kernel))) (hts (.code objectInit ⟨#[0xb1]⟩ 1 none) (wat_mem (k := 12) (by decide +kernel))) rfl (by rw [hml]; exact hl.1) rfl dk_X5_init_1 (Nat.le_of_ble_eq_true rfl) (Nat.le_of_ble_eq_true rfl) ?_
  refine W.eq (g2 := F0 m 4 ls []) rfl ?_
  refine lv_aload_n hx hb dk_X5_init_4 rfl (lv_at hl 0 rfl) ?_
  refine lv_bipush (v := 20) hx hb dk_X5_init_5 (by decide) ?_
  refine va_newa (atype := .int) hx hb (hts (.arrayClass .int) (wat_mem (k := 55) (by decide +kernel))) rfl hK hP hD hS hA (a0 := (20, .inl (fun _ => 0))) (fun _ => rfl) (by decide) (N' := 20) (by decide) (Nat.le_of_ble_eq_true rfl) (Nat.le_of_ble_eq_true rfl) (Nat.le_of_ble_eq_true rfl) dk_X5_init_7 (fun q7 cQ H hKq hP hD hS => ?_)
  obtain rfl := ty_int hKq
  clear hKq
  have hP : va_P DD classes ([(h0, .inr (5, [.null, .int 0, .int 0, .int 0, .int 0])), cI q7 cA 20]) H := hP
  have hD : va_D A ([(h0, .inr (5, [.null, .int 0, .int 0, .int 0, .int 0])), cI q7 cA 20]) := hD
  refine W.widen (k := 1) (n := 20) (by omega) (by omega) ?_
  refine va_putF (D := DD) (ci := 5) (v := .ref q7) (ty := .array .int) (C := RX5) (T := TX5) (N := 5) hx hb hts wsi5 tyX5 tyX5_ok nmX5 hown hK hP hD hS 0 rfl rfl 0 (by decide) (hts (.fieldLink RX5 9 "TubesOfCourt$Moves" "bodies" "[I") (wat_mem (k := 137) (by decide +kernel))) (fun _ h9 => h9) rfl hin rfl (by decide +kernel) rfl rfl (Nat.le_of_ble_eq_true rfl) dk_X5_init_9 (fun H locs hP hD hS => ?_)
  have hP : va_P DD classes ([(h0, .inr (5, [.ref q7, .int 0, .int 0, .int 0, .int 0])), cI q7 cA 20]) H := hP
  have hD : va_D A ([(h0, .inr (5, [.ref q7, .int 0, .int 0, .int 0, .int 0])), cI q7 cA 20]) := hD
  refine lv_aload_n hx hb dk_X5_init_12 rfl (lv_at hl 0 rfl) ?_
  refine lv_iconst (v := 0) hx hb dk_X5_init_13 (by decide) ?_
  refine va_put (D := DD) (ci := 5) (v := .int 0) (ty := .int) (C := RX5) (T := TX5) (N := 5) hx hb hts wsi5 tyX5 tyX5_ok nmX5 hown hK hP hD hS 0 rfl rfl 1 (by decide) (hts (.fieldLink RX5 15 "TubesOfCourt$Moves" "ran" "I") (wat_mem (k := 138) (by decide +kernel))) (fun _ h9 => h9) rfl (by decide +kernel) rfl rfl (Nat.le_of_ble_eq_true rfl) dk_X5_init_14 (fun H locs hP hD hS => ?_)
  have hP : va_P DD classes ([(h0, .inr (5, [.ref q7, .int 0, .int 0, .int 0, .int 0])), cI q7 cA 20]) H := hP
  have hD : va_D A ([(h0, .inr (5, [.ref q7, .int 0, .int 0, .int 0, .int 0])), cI q7 cA 20]) := hD
  refine lv_aload_n hx hb dk_X5_init_17 rfl (lv_at hl 0 rfl) ?_
  refine lv_iconst (v := 0) hx hb dk_X5_init_18 (by decide) ?_
  refine va_put (D := DD) (ci := 5) (v := .int 0) (ty := .int) (C := RX5) (T := TX5) (N := 5) hx hb hts wsi5 tyX5 tyX5_ok nmX5 hown hK hP hD hS 0 rfl rfl 2 (by decide) (hts (.fieldLink RX5 19 "TubesOfCourt$Moves" "ownKind" "I") (wat_mem (k := 139) (by decide +kernel))) (fun _ h9 => h9) rfl (by decide +kernel) rfl rfl (Nat.le_of_ble_eq_true rfl) dk_X5_init_19 (fun H locs hP hD hS => ?_)
  have hP : va_P DD classes ([(h0, .inr (5, [.ref q7, .int 0, .int 0, .int 0, .int 0])), cI q7 cA 20]) H := hP
  have hD : va_D A ([(h0, .inr (5, [.ref q7, .int 0, .int 0, .int 0, .int 0])), cI q7 cA 20]) := hD
  refine lv_aload_n hx hb dk_X5_init_22 rfl (lv_at hl 0 rfl) ?_
  refine lv_iconst (v := 0) hx hb dk_X5_init_23 (by decide) ?_
  refine va_put (D := DD) (ci := 5) (v := .int 0) (ty := .int) (C := RX5) (T := TX5) (N := 5) hx hb hts wsi5 tyX5 tyX5_ok nmX5 hown hK hP hD hS 0 rfl rfl 3 (by decide) (hts (.fieldLink RX5 22 "TubesOfCourt$Moves" "number" "I") (wat_mem (k := 140) (by decide +kernel))) (fun _ h9 => h9) rfl (by decide +kernel) rfl rfl (Nat.le_of_ble_eq_true rfl) dk_X5_init_24 (fun H locs hP hD hS => ?_)
  have hP : va_P DD classes ([(h0, .inr (5, [.ref q7, .int 0, .int 0, .int 0, .int 0])), cI q7 cA 20]) H := hP
  have hD : va_D A ([(h0, .inr (5, [.ref q7, .int 0, .int 0, .int 0, .int 0])), cI q7 cA 20]) := hD
  refine lv_aload_n hx hb dk_X5_init_27 rfl (lv_at hl 0 rfl) ?_
  refine lv_iconst (v := 0) hx hb dk_X5_init_28 (by decide) ?_
  refine va_put (D := DD) (ci := 5) (v := .int 0) (ty := .int) (C := RX5) (T := TX5) (N := 5) hx hb hts wsi5 tyX5 tyX5_ok nmX5 hown hK hP hD hS 0 rfl rfl 4 (by decide) (hts (.fieldLink RX5 25 "TubesOfCourt$Moves" "k" "I") (wat_mem (k := 141) (by decide +kernel))) (fun _ h9 => h9) rfl (by decide +kernel) rfl rfl (Nat.le_of_ble_eq_true rfl) dk_X5_init_29 (fun H locs hP hD hS => ?_)
  have hP : va_P DD classes ([(h0, .inr (5, [.ref q7, .int 0, .int 0, .int 0, .int 0])), cI q7 cA 20]) H := hP
  have hD : va_D A ([(h0, .inr (5, [.ref q7, .int 0, .int 0, .int 0, .int 0])), cI q7 cA 20]) := hD
  exact W.vret hx hb hr (fun t ht hW => ⟨⟨(), rfl, trivial, q7, by rw [ht]; exact hP, va_K.moved hW.alike hK, hD⟩, hS.F ht⟩) hS.2.2 dk_X5_init_32
