theorem st_K {s : State} {a : Array Value} (hts : ∀ w ∈ WS, w.before a s = true) (hT : mkT s) (hO : va_AO "java/lang/String" s) : ∃ (DD : va_G) (cA : Nat → ClassId), va_K DD classes (tysA cA) s := by
  obtain ⟨c0, i0, h0⟩ := u_known (C := RX0) (T := TX0) (N := 2) (n := 2) hts wsi0 (hts (.instantiable RX0 2) (wat_mem (k := 32) (by decide +kernel)))
  obtain ⟨c1, i1, h1⟩ := u_known (C := RX1) (T := TX1) (N := 2) (n := 2) hts wsi1 (hts (.instantiable RX1 2) (wat_mem (k := 48) (by decide +kernel)))
  obtain ⟨c2, i2, h2⟩ := u_known (C := RX2) (T := TX2) (N := 3) (n := 3) hts wsi2 (hts (.instantiable RX2 3) (wat_mem (k := 40) (by decide +kernel)))
  obtain ⟨c3, i3, h3⟩ := u_known (C := RX3) (T := TX3) (N := 4) (n := 4) hts wsi3 (hts (.instantiable RX3 4) (wat_mem (k := 36) (by decide +kernel)))
  obtain ⟨c4, i4, h4⟩ := u_known (C := RX4) (T := TX4) (N := 16) (n := 16) hts wsi4 (hts (.instantiable RX4 16) (wat_mem (k := 14) (by decide +kernel)))
  obtain ⟨c5, i5, h5⟩ := u_known (C := RX5) (T := TX5) (N := 5) (n := 5) hts wsi5 (hts (.instantiable RX5 5) (wat_mem (k := 52) (by decide +kernel)))
  obtain ⟨c6, i6, h6⟩ := u_known (C := RX6) (T := TX6) (N := 6) (n := 6) hts wsi6 (hts (.instantiable RX6 6) (wat_mem (k := 44) (by decide +kernel)))
  obtain ⟨c7, i7, h7⟩ := u_known (C := RX7) (T := TX7) (N := 1) (n := 1) hts wsi7 (hts (.instantiable RX7 1) (wat_mem (k := 28) (by decide +kernel)))
  obtain ⟨c8, i8, h8⟩ := u_known (C := RX8) (T := TX8) (N := 3) (n := 3) hts wsi8 (hts (.instantiable RX8 3) (wat_mem (k := 20) (by decide +kernel)))
  obtain ⟨c9, i9, h9⟩ := u_known (C := RX9) (T := TX9) (N := 6) (n := 6) hts wsi9 (hts (.instantiable RX9 6) (wat_mem (k := 24) (by decide +kernel)))
  obtain ⟨c10, i10, h10⟩ := u_known (C := RX10) (T := TX10) (N := 15) (n := 15) hts wsi10 (hts (.instantiable RX10 15) (wat_mem (k := 1) (by decide +kernel)))
  obtain ⟨c11, i11, h11⟩ := u_known (C := RX11) (T := TX11) (N := 26) (n := 26) hts wsi11 (hts (.instantiable RX11 26) (wat_mem (k := 4) (by decide +kernel)))
  obtain ⟨a0, ka0, b0, e0, f0, g0⟩ := Cond.arrayClass_spec (hts (.arrayClass .int) (wat_mem (k := 55) (by decide +kernel)))
  obtain ⟨a1, ka1, b1, e1, f1, g1⟩ := Cond.arrayClass_spec (hts (.arrayClass .boolean) (wat_mem (k := 90) (by decide +kernel)))
  obtain ⟨a2, ka2, b2, e2, f2, g2⟩ := Cond.arrayClass_spec (hts (.arrayClass .long) (wat_mem (k := 84) (by decide +kernel)))
  obtain ⟨b3, a3, ka3, d3, f3, g3, e3⟩ := hT.1
  obtain ⟨b4, a4, ka4, d4, f4, g4, e4⟩ := hT.2.1
  obtain ⟨b5, a5, ka5, d5, z5, f5, g5, e5⟩ := Cond.arrayOver_spec hO
  refine ⟨(fun k => [c0, c1, c2, c3, c4, c5, c6, c7, c8, c9, c10, c11].getD k c0, fun k => [i0, i1, i2, i3, i4, i5, i6, i7, i8, i9, i10, i11].getD k i0), fun k => [a0, a1, a2, a3, a4, a5].getD k a0, fun k q hq => ?_, fun k q hq => ?_⟩
  · match k, hq with
    | 0, hq => cases hq; exact h0
    | 1, hq => cases hq; exact h1
    | 2, hq => cases hq; exact h2
    | 3, hq => cases hq; exact h3
    | 4, hq => cases hq; exact h4
    | 5, hq => cases hq; exact h5
    | 6, hq => cases hq; exact h6
    | 7, hq => cases hq; exact h7
    | 8, hq => cases hq; exact h8
    | 9, hq => cases hq; exact h9
    | 10, hq => cases hq; exact h10
    | 11, hq => cases hq; exact h11
    | k + 12, hq => simp [classes] at hq
  · match k, hq with
    | 0, hq => cases hq; exact ⟨fun n z => ⟨fun k h => (by cases h), ka0, f0, b0, g0⟩, e0⟩
    | 1, hq => cases hq; exact ⟨fun n z => ⟨fun k h => (by cases h), ka1, f1, b1, g1⟩, e1⟩
    | 2, hq => cases hq; exact ⟨fun n z => ⟨fun k h => (by cases h), ka2, f2, b2, g2⟩, e2⟩
    | 3, hq => cases hq; exact ⟨fun n z => ⟨fun k h => (by cases h), ka3, f3, b3, g3⟩, e3⟩
    | 4, hq => cases hq; exact ⟨fun n z => ⟨fun k h => (by cases h), ka4, f4, b4, g4⟩, e4⟩
    | 5, hq => cases hq; exact ⟨fun n z => ⟨fun k h => (by cases h), ka5, f5, b5, g5⟩, ka5, b5, f5, g5, d5, e5⟩
    | k + 6, hq => simp [tysA] at hq
theorem dk_L_0 : decode cL_law 0 = .ok (.new 7, 3) := by decide +kernel
theorem dk_L_3 : decode cL_law 3 = .ok (.dup, 1) := by decide +kernel
theorem dk_L_4 : decode cL_law 4 = .ok (.invokespecial 9, 3) := by decide +kernel
theorem dk_L_7 : decode cL_law 7 = .ok (.astore_n 1, 1) := by decide +kernel
theorem dk_L_8 : decode cL_law 8 = .ok (.new 10, 3) := by decide +kernel
theorem dk_L_11 : decode cL_law 11 = .ok (.dup, 1) := by decide +kernel
theorem dk_L_12 : decode cL_law 12 = .ok (.invokespecial 12, 3) := by decide +kernel
theorem dk_L_15 : decode cL_law 15 = .ok (.astore_n 2, 1) := by decide +kernel
set_option maxHeartbeats 8000000 in
set_option maxRecDepth 100000 in
theorem lw_mk {p : Program} {e : Env} {s : State} {m : MethodId} {below : List Frame} {meth : Method} {c : Code} {l : Launch} {b L : Nat} {xs : Nat → Int32} (hL : L ≤ 3072) (C0 : lw_At p s m meth c b L xs) {Q : State → Prop}
    (kk : ∀ (ad : Nat → Nat) (DD : va_G) (cA : Nat → ClassId) (H : Heap) (ls : Array Slot), adI ad → (∀ i, i < 109 → s.heap.size ≤ ad i) → ad 121 = b → va_K DD classes (tysA cA) s → va_P DD classes (wsO ad cA (m0 xs L)) H → va_S (A0 ad) s.heap H [] → lv_has ls 4 [(2, .ref (ad 90)), (1, .ref (ad 88)), (0, .ref (ad 121))] → ST ad (m0 xs L) s s.heap → W p l e room_1 s m #[Value.ref b] below meth c H [] 600000 7302250 Q (F0 m 16 ls [])) :
    W p l e room_1 s m #[Value.ref b] below meth c s.heap [] 0 0 Q (entryFrame m ([Value.ref b] : List Value).toArray 4) := by
  obtain ⟨hx, hb, hr, hml, hown, hts0, hX, hbl, hlocks, hgv⟩ := id C0
  have hts : ∀ w ∈ WS, w.before #[Value.ref b] s = true := fun w hw => hts0 w (ws_good w hw).1
  obtain ⟨k, ta, tb, s1, s2, s3, s4, s5, s6, s7, s8, s9, s10⟩ := st_all hts0 hgv
  obtain ⟨DD, cA, hK⟩ := st_K hts s9 s10
  obtain ⟨A, hAe⟩ : ∃ A : Nat → Prop, A = fun q : Nat => s.heap.size ≤ q := ⟨_, rfl⟩
  rw [← hAe] at s1 s2 s3 s5 s6
  have hA : ∀ q : Nat, s.heap.size ≤ q → A q := fun q h => by rw [hAe]; exact h
  have hA2 : ∀ q : Nat, A q → s.heap.size ≤ q := fun q h => by rw [hAe] at h; exact h
  have hS : va_S A s.heap s.heap [] := va_S.rf
  have hP : va_P DD classes [] s.heap := fun k q h => by simp at h
  have hD : va_D A [] := ⟨fun i j p q h => by simp at h, fun k q h => by simp at h⟩
  have hl := lv_entry ([.ref b]) (n := 4) (Nat.le_of_ble_eq_true rfl)
  rw [lg_entry_eq]
  generalize (lg_sl ([.ref b]) ++ List.replicate (4 - (lg_sl ([.ref b])).length) Slot.unset).toArray = ls at hl ⊢
  have hl : lv_has ls 4 [(0, .ref b)] := hl
  refine va_new (ci := 10) (fs := dfX10) (C := RX10) (T := TX10) (N := 15) hx hb hts wsi10 tyX10 tyX10_ok hown (hts (.classLink RL 7 RX10) (wat_mem (k := 0) (by decide +kernel))) (hts (.instantiable RX10 15) (wat_mem (k := 1) (by decide +kernel))) (hts (.initialized RX10) (wat_mem (k := 2) (by decide +kernel))) hK hP hD hS hA rfl dfX10_ok (Nat.le_of_ble_eq_true rfl) (Nat.le_of_ble_eq_true rfl) dk_L_0 (fun q0 H hP hD hS => ?_)
  have hP : va_P DD classes [(q0, .inr (10, [.null, .null, .null, .null, .null, .null, .null, .null, .null, .null, .null, .null, .null, .int 0, .int 0]))] H := hP
  have hD : va_D A [(q0, .inr (10, [.null, .null, .null, .null, .null, .null, .null, .null, .null, .null, .null, .null, .null, .int 0, .int 0]))] := hD
  refine W.widen (k := 1) (n := 15) (by omega) (by omega) ?_
  refine lv_dup hx hb dk_L_3 rfl ?_
  have hPc := hP.sub (ws' := [(q0, .inr (10, [.null, .null, .null, .null, .null, .null, .null, .null, .null, .null, .null, .null, .null, .int 0, .int 0]))]) [0] rfl
  have hDc := hD.sub (ws' := [(q0, .inr (10, [.null, .null, .null, .null, .null, .null, .null, .null, .null, .null, .null, .null, .null, .int 0, .int 0]))]) [0] (by decide) rfl
  have hFc := va_free (wc := [(q0, .inr (10, [.null, .null, .null, .null, .null, .null, .null, .null, .null, .null, .null, .null, .null, .int 0, .int 0]))]) hD hS hA [0] rfl
  refine va_callv (va_runI (As := []) (rest := [.ref q0]) ⟨hx, hb, hml, hown, hts⟩ (mk_X10 l DD cA q0 H.size) (cwI 0 hts gk_X10 rfl rfl rfl (hts (.initialized RX10) (wat_mem (k := 2) (by decide +kernel))) (hts (.methodLink RL 9 yX10_init) (wat_mem (k := 7) (by decide +kernel))) (hts (.instanceMethod yX10_init) (wat_mem (k := 8) (by decide +kernel))) rfl ⟨by decide +kernel, by decide +kernel, by decide +kernel⟩ ⟨(Nat.le_of_ble_eq_true rfl), (Nat.le_of_ble_eq_true rfl)⟩) ⟨fun a U g mk q => by obtain ⟨q0, q1, qP, qK, qD, qT⟩ := q; exact ⟨q0, q1, qP, va_K.moved (u := U) (U := U.calling g mk a) (Vm.Alike.refl U.vm) qK, qD, mkT_same rfl qT⟩, fun U hU hW => ⟨rfl, by rw [hU], by rw [hU]; exact hPc, va_K.moved hW.alike hK, hDc.weaken (fun _ _ _ _ => trivial), mkT_warm hW s9⟩⟩ rfl rfl hl.1 rfl (lv_room (Nat.le_of_ble_eq_true rfl)) dk_L_4 ⟨(Nat.le_of_ble_eq_true rfl), (Nat.le_of_ble_eq_true rfl)⟩) hS (fun q _ h => hFc q h) hFc (fun u t H1 locs ht hvm h5 hB hz1 hk1 hS => ?_)
  obtain ⟨x0, x1, x2, x3, x4, x5, x6, x7, x8, x9, x10, x11, x12, x13, x14, x15, x16, x17, x18, x19, x20, x21, x22, x23, x24, x25, x26, x27, x28, x29, x30, x31, x32, x33, x34, x35, x36, x37, x38, x39, x40, x41, x42, x43, x44, x45, x46, x47, x48, x49, x50, x51, x52, x53, x54, x55, x56, x57, x58, hP1, hK1, hD1⟩ := hB
  rw [ht] at hP1
  obtain ⟨hP, hD⟩ := va_join (wr := []) (w1 := wX10 cA q0 x0 x1 x2 x3 x4 x5 x6 x7 x8 x9 x10 x11 x12 x13 x14 x15 x16 x17 x18 x19 x20 x21 x22 x23 x24 x25 x26 x27 x28 x29 x30 x31 x32 x33 x34 x35 x36 x37 x38 x39 x40 x41 x42 x43 x44 x45 x46 x47 x48 x49 x50 x51 x52 x53 x54 x55 x56 x57 x58) hP hD [0] [] rfl rfl (by decide) (by decide) hk1 hFc hP1 hD1
  clear hP1 hD1 hK1 hk1 hPc hDc hFc
  generalize H1 = H at hP hS ⊢
  have hP : va_P DD classes (wX10 cA q0 x0 x1 x2 x3 x4 x5 x6 x7 x8 x9 x10 x11 x12 x13 x14 x15 x16 x17 x18 x19 x20 x21 x22 x23 x24 x25 x26 x27 x28 x29 x30 x31 x32 x33 x34 x35 x36 x37 x38 x39 x40 x41 x42 x43 x44 x45 x46 x47 x48 x49 x50 x51 x52 x53 x54 x55 x56 x57 x58) H := hP
  have hD : va_D A (wX10 cA q0 x0 x1 x2 x3 x4 x5 x6 x7 x8 x9 x10 x11 x12 x13 x14 x15 x16 x17 x18 x19 x20 x21 x22 x23 x24 x25 x26 x27 x28 x29 x30 x31 x32 x33 x34 x35 x36 x37 x38 x39 x40 x41 x42 x43 x44 x45 x46 x47 x48 x49 x50 x51 x52 x53 x54 x55 x56 x57 x58) := hD
  refine W.widen (k := 92) (n := 4243) (by omega) (by omega) ?_
  refine lv_astore_n (lv' := [(1, .ref q0), (0, .ref b)]) hx hb dk_L_7 rfl hl (by decide) rfl (fun ls hl => ?_)
  refine va_new (ci := 11) (fs := dfX11) (C := RX11) (T := TX11) (N := 26) hx hb hts wsi11 tyX11 tyX11_ok hown (hts (.classLink RL 10 RX11) (wat_mem (k := 3) (by decide +kernel))) (hts (.instantiable RX11 26) (wat_mem (k := 4) (by decide +kernel))) (hts (.initialized RX11) (wat_mem (k := 5) (by decide +kernel))) hK hP hD hS hA rfl dfX11_ok (Nat.le_of_ble_eq_true rfl) (Nat.le_of_ble_eq_true rfl) dk_L_8 (fun q8 H hP hD hS => ?_)
  have hP : va_P DD classes (wX10 cA q0 x0 x1 x2 x3 x4 x5 x6 x7 x8 x9 x10 x11 x12 x13 x14 x15 x16 x17 x18 x19 x20 x21 x22 x23 x24 x25 x26 x27 x28 x29 x30 x31 x32 x33 x34 x35 x36 x37 x38 x39 x40 x41 x42 x43 x44 x45 x46 x47 x48 x49 x50 x51 x52 x53 x54 x55 x56 x57 x58 ++ [(q8, .inr (11, [.null, .null, .null, .null, .int 0, .null, .null, .null, .null, .null, .null, .int 0, .int 0, .int 0, .null, .null, .null, .null, .null, .int 0, .int 0, .null, .int 0, .int 0, .int 0, .int 0]))]) H := hP
  have hD : va_D A (wX10 cA q0 x0 x1 x2 x3 x4 x5 x6 x7 x8 x9 x10 x11 x12 x13 x14 x15 x16 x17 x18 x19 x20 x21 x22 x23 x24 x25 x26 x27 x28 x29 x30 x31 x32 x33 x34 x35 x36 x37 x38 x39 x40 x41 x42 x43 x44 x45 x46 x47 x48 x49 x50 x51 x52 x53 x54 x55 x56 x57 x58 ++ [(q8, .inr (11, [.null, .null, .null, .null, .int 0, .null, .null, .null, .null, .null, .null, .int 0, .int 0, .int 0, .null, .null, .null, .null, .null, .int 0, .int 0, .null, .int 0, .int 0, .int 0, .int 0]))]) := hD
  refine W.widen (k := 93) (n := 4269) (by omega) (by omega) ?_
  refine lv_dup hx hb dk_L_11 rfl ?_
  have hPc := va_lastP hP
  have hDc := va_lastD hD
  have hFc := va_lastF hD hS hA
  have hq8 : s.heap.size ≤ q8 := hA2 q8 (hDc.2 0 _ rfl)
  have hMX : ∀ U : State, U.heap = H → s.WarmedH U.vm → mkX ta q8 U U.heap := by
    intro U hU hW
    refine ⟨va_AO.moved hW.alike s10, fun i hi => ?_, fun i hi => ?_⟩
    · have hm : (RX11, 44 + 2 * i, i) ∈ SR := by
        match i, hi with
        | 0, _ => decide +kernel
        | 1, _ => decide +kernel
        | 2, _ => decide +kernel
        | 3, _ => decide +kernel
        | 4, _ => decide +kernel
        | 5, _ => decide +kernel
        | i + 6, hi => exact absurd hi (by omega)
      obtain ⟨tx, htx⟩ := s4 _ hm
      exact ⟨tx, htx.warm hW⟩
    · obtain ⟨cell, z1, z2, z3⟩ := vk_recv s3 hi hS
      obtain ⟨cell0, y1, -⟩ := vk_recv s3 hi va_S.rf
      have hlt : ta i < s.heap.size := (Array.getElem?_eq_some_iff.mp y1).1
      exact ⟨fun he => absurd hq8 (Nat.not_le.mpr (by rw [← he]; exact hlt)), cell, by rw [hU]; exact z1, z2, by rw [hW.alike.findClass]; exact z3⟩
  refine va_callv (va_runI (As := []) (rest := [.ref q8]) ⟨hx, hb, hml, hown, hts⟩ (mk_X11 l DD cA ta q8 H.size) (cwI 0 hts gk_X11 rfl rfl rfl (hts (.initialized RX11) (wat_mem (k := 5) (by decide +kernel))) (hts (.methodLink RL 12 yX11_init) (wat_mem (k := 142) (by decide +kernel))) (hts (.instanceMethod yX11_init) (wat_mem (k := 143) (by decide +kernel))) rfl ⟨by decide +kernel, by decide +kernel, by decide +kernel⟩ ⟨(Nat.le_of_ble_eq_true rfl), (Nat.le_of_ble_eq_true rfl)⟩) ⟨fun a U g mk q => by obtain ⟨q0, q1, qP, qK, qD, qT⟩ := q; exact ⟨q0, q1, qP, va_K.moved (u := U) (U := U.calling g mk a) (Vm.Alike.refl U.vm) qK, qD, mkX_same rfl qT⟩, fun U hU hW => ⟨rfl, by rw [hU], by rw [hU]; exact hPc, va_K.moved hW.alike hK, hDc.weaken (fun _ _ _ _ => trivial), hMX U hU hW⟩⟩ rfl rfl hl.1 rfl (lv_room (Nat.le_of_ble_eq_true rfl)) dk_L_12 ⟨(Nat.le_of_ble_eq_true rfl), (Nat.le_of_ble_eq_true rfl)⟩) hS (fun q _ h => hFc q h) hFc (fun u t H1 locs ht hvm h5 hB hz1 hk1 hS => ?_)
  obtain ⟨y0, y1, y2, y3, y4, y5, y6, y7, y8, y9, y10, y11, y12, y13, y14, y15, hP1, hK1, hD1⟩ := hB
  rw [ht] at hP1
  obtain ⟨hP, hD⟩ := va_jn (w1 := wX11 cA ta q8 y0 y1 y2 y3 y4 y5 y6 y7 y8 y9 y10 y11 y12 y13 y14 y15) hP hD hk1 hFc hP1 hD1
  clear hP1 hD1 hK1 hk1 hPc hDc hFc hMX
  generalize H1 = H at hP hS ⊢
  have hP : va_P DD classes (wX10 cA q0 x0 x1 x2 x3 x4 x5 x6 x7 x8 x9 x10 x11 x12 x13 x14 x15 x16 x17 x18 x19 x20 x21 x22 x23 x24 x25 x26 x27 x28 x29 x30 x31 x32 x33 x34 x35 x36 x37 x38 x39 x40 x41 x42 x43 x44 x45 x46 x47 x48 x49 x50 x51 x52 x53 x54 x55 x56 x57 x58 ++ wX11 cA ta q8 y0 y1 y2 y3 y4 y5 y6 y7 y8 y9 y10 y11 y12 y13 y14 y15) H := hP
  have hD : va_D A (wX10 cA q0 x0 x1 x2 x3 x4 x5 x6 x7 x8 x9 x10 x11 x12 x13 x14 x15 x16 x17 x18 x19 x20 x21 x22 x23 x24 x25 x26 x27 x28 x29 x30 x31 x32 x33 x34 x35 x36 x37 x38 x39 x40 x41 x42 x43 x44 x45 x46 x47 x48 x49 x50 x51 x52 x53 x54 x55 x56 x57 x58 ++ wX11 cA ta q8 y0 y1 y2 y3 y4 y5 y6 y7 y8 y9 y10 y11 y12 y13 y14 y15) := hD
  refine lv_astore_n (lv' := [(2, .ref q8), (1, .ref q0), (0, .ref b)]) hx hb dk_L_15 rfl hl (by decide) rfl (fun ls hl => ?_)
  obtain ⟨ad, hAD⟩ : ∃ ad, ad = adL (aL q0 q8 x0 x1 x2 x3 x4 x5 x6 x7 x8 x9 x10 x11 x12 x13 x14 x15 x16 x17 x18 x19 x20 x21 x22 x23 x24 x25 x26 x27 x28 x29 x30 x31 x32 x33 x34 x35 x36 x37 x38 x39 x40 x41 x42 x43 x44 x45 x46 x47 x48 x49 x50 x51 x52 x53 x54 x55 x56 x57 x58 y0 y1 y2 y3 y4 y5 y6 y7 y8 y9 y10 y11 y12 y13 y14 y15) k b ta tb := ⟨_, rfl⟩
  have h34 : ∀ j, j < 8 → ad (34 + j) = ad 33 + 1 + j := fun j hj => by
    rw [hAD]
    match j, hj with
    | 0, _ => rfl
    | 1, _ => rfl
    | 2, _ => rfl
    | 3, _ => rfl
    | 4, _ => rfl
    | 5, _ => rfl
    | 6, _ => rfl
    | 7, _ => rfl
    | j + 8, hj => exact absurd hj (by omega)
  have h49 : ∀ j, j < 8 → ad (49 + j) = ad 48 + 1 + j := fun j hj => by
    rw [hAD]
    match j, hj with
    | 0, _ => rfl
    | 1, _ => rfl
    | 2, _ => rfl
    | 3, _ => rfl
    | 4, _ => rfl
    | 5, _ => rfl
    | 6, _ => rfl
    | 7, _ => rfl
    | j + 8, hj => exact absurd hj (by omega)
  have h64 : ∀ j, j < 16 → ad (64 + j) = ad 63 + 1 + j := fun j hj => by
    rw [hAD]
    match j, hj with
    | 0, _ => rfl
    | 1, _ => rfl
    | 2, _ => rfl
    | 3, _ => rfl
    | 4, _ => rfl
    | 5, _ => rfl
    | 6, _ => rfl
    | 7, _ => rfl
    | 8, _ => rfl
    | 9, _ => rfl
    | 10, _ => rfl
    | 11, _ => rfl
    | 12, _ => rfl
    | 13, _ => rfl
    | 14, _ => rfl
    | 15, _ => rfl
    | j + 16, hj => exact absurd hj (by omega)
  have h88 : ad 88 = q0 := by rw [hAD]; rfl
  have h90 : ad 90 = q8 := by rw [hAD]; rfl
  have h120 : ad 120 = k := by rw [hAD]; rfl
  have h121 : ad 121 = b := by rw [hAD]; rfl
  have h130 : ∀ i, i < 6 → ad (130 + i) = ta i := fun i hi => by
    rw [hAD]; unfold adL
    rw [if_neg (by omega), if_neg (by omega), if_neg (by omega), if_pos (by omega), Nat.add_sub_cancel_left]
  have h140 : ∀ i, i < 6 → ad (140 + i) = tb i := fun i hi => by
    rw [hAD]; unfold adL
    rw [if_neg (by omega), if_neg (by omega), if_neg (by omega), if_neg (by omega), Nat.add_sub_cancel_left]
  have hw : (wX10 cA q0 x0 x1 x2 x3 x4 x5 x6 x7 x8 x9 x10 x11 x12 x13 x14 x15 x16 x17 x18 x19 x20 x21 x22 x23 x24 x25 x26 x27 x28 x29 x30 x31 x32 x33 x34 x35 x36 x37 x38 x39 x40 x41 x42 x43 x44 x45 x46 x47 x48 x49 x50 x51 x52 x53 x54 x55 x56 x57 x58 ++ wX11 cA ta q8 y0 y1 y2 y3 y4 y5 y6 y7 y8 y9 y10 y11 y12 y13 y14 y15) = cF ad cA xs L plL := by
    refine Eq.trans ?_ (pc_whole h34 h49 h64 h130)
    rw [hAD]
    rfl
  rw [hw] at hP hD
  clear hw h34 h49 h64 hAD
  have hlow : ∀ i, i < 109 → s.heap.size ≤ ad i := fun i hi => hA2 _ (hD.2 _ _ (ge_all hi))
  have hAA : ∀ q, A0 ad q → A q := fun q hq => by obtain ⟨i, hi, rfl⟩ := hq; exact hA _ (hlow i hi)
  refine va_forget (fun q hq => hA2 _ (hS.2.2 q hq)) ?_
  refine W.widen (k := 600000) (n := 7302250) (Nat.le_of_ble_eq_true rfl) (Nat.le_of_ble_eq_true rfl) ?_
  refine kk ad DD cA H ls (fun i j hi hj he => plc_i hi hj (hD.1 _ _ _ _ (ge_all hi) (ge_all hj) he)) hlow h121 hK (fun i q hq => ?_) ⟨hS.1, fun q hq _ => hS.2.1 q hq (fun z => absurd (hA2 q z) (Nat.not_le.mpr hq)), fun q hq => by cases hq⟩ (by rw [h88, h90, h121]; exact hl) ?_
  · by_cases hi : i < 109
    · rw [wsO_get hi] at hq
      cases hq
      exact hP _ _ (ge_all hi)
    · simp [wsO, hi] at hq
  · refine ⟨?_, ?_, ⟨?_, fun z => absurd (hA2 _ (hAA _ z)) (by rw [h121]; exact Nat.not_le.mpr hbl), by rw [h121]; exact hbl⟩, ⟨fun i hi => ?_, fun i j hi hj he => ?_⟩, fun q hq => ?_, s5.narrow hAA, s6.narrow hAA, s7, s8⟩
    · rw [h120]; exact s1.narrow hAA
    · rw [h120]; exact s2.narrow hAA
    · rw [h121]
      have e1 : ((m0 xs L).1 122 0).toInt.toNat = L := by
        show (Int32.ofNat L).toInt.toNat = L
        rw [Int32.toInt_ofNat_of_lt (by omega)]
        rfl
      rw [e1]
      exact hX
    · show va_O "java/lang/String" (ad (130 + i)) (A0 ad) s s.heap ∧ va_OF "java/lang/String" "coder" "B" (.int 0) (ad (130 + i)) (A0 ad) s s.heap ∧ va_OF "java/lang/String" "value" "[B" (.ref (ad (140 + i))) (ad (130 + i)) (A0 ad) s s.heap ∧ va_T .byte (ad (140 + i)) (txN.getD i 0) (fun j => .int ((txB.getD i []).getD j 0)) (A0 ad) s s.heap
      rw [h130 i hi, h140 i hi]
      exact (s3.narrow hAA).1 i hi
    · have he : ad (130 + i) = ad (130 + j) := he
      rw [h130 i hi, h130 j hj] at he
      exact s3.2 i j hi hj he
    · obtain ⟨tx, htx⟩ := s4 q hq
      have hq6 : q.2.2 < 6 := by
        simp only [SR, List.mem_cons, List.not_mem_nil, or_false] at hq
        rcases hq with rfl | rfl | rfl | rfl | rfl | rfl | rfl | rfl | rfl | rfl | rfl | rfl <;> decide
      exact ⟨tx, by rw [h130 _ hq6]; exact htx⟩
