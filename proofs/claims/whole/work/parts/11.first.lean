/-! the least methods -/
theorem k_X4_hasDesk {D : Nat} (hD : 1 ≤ D) {M : tM} {b : Nat} {K : tK} (hb : isMin b) (hR : Rep M b K) (hI : kInv K) (d : Int) (h1 : -2147483648 ≤ d) (h2 : d ≤ 2147483647) : exF D m_X4_hasDesk [.ref b, .int (iI d)] M = some (some (.int (bi (0 ≤ d ∧ d < (kD K : Int)))), M) := by
  obtain ⟨D, rfl⟩ : ∃ D0, D = D0 + 1 := ⟨D - 1, by omega⟩
  have g1 := hR.1.1
  have g2 := hI.1
  simp (disch := omega) only [en_X4_hasDesk, s_X4_hasDesk_0, s_X4_hasDesk_1, s_X4_hasDesk_4, s_X4_hasDesk_5, s_X4_hasDesk_6, s_X4_hasDesk_9, s_X4_hasDesk_12, s_X4_hasDesk_13, s_X4_hasDesk_16, s_X4_hasDesk_17, mn_cls hb, mn_fv0 hb, mn_fv1 hb, mn_fv2 hb, mn_fv3 hb, mn_fv4 hb, mn_fv5 hb, mn_fv6 hb, mn_fv7 hb, mn_fv8 hb, mn_fv9 hb, mn_fv10 hb, mn_fv11 hb, mn_fv12 hb, mn_fv13 hb, mn_fv14 hb, mn_fv15 hb, mn_ak1 hb, mn_al1 hb, mn_ak2 hb, mn_al2 hb, mn_ak3 hb, mn_al3 hb, mn_ak4 hb, mn_al4 hb, mn_ak5 hb, mn_al5 hb, mn_ak6 hb, mn_al6 hb, mn_ak7 hb, mn_al7 hb, mn_ak8 hb, mn_al8 hb, mn_ak9 hb, mn_al9 hb, g1, iI_add, iI_sub, iI_mul, iI_neg, iI_lt, iI_le, iI_eq, iI_toInt, tn_n, tn_1, rnk_v, rnk_n, ↓reduceIte, i00, i11, ibi, or_true, true_or, and_true, true_and, List.cons_append, List.nil_append, Option.toList]
  unfold bi
  (repeat' split) <;> first | rfl | (exfalso; omega)
theorem k_X11_isIn {D : Nat} (hD : 1 ≤ D) {M : tM} (v lo hi : Int) (h1 : -9223372036854775808 ≤ v) (h2 : v ≤ 9223372036854775807) (h3 : -9223372036854775808 ≤ lo) (h4 : lo ≤ 9223372036854775807) (h5 : -9223372036854775808 ≤ hi) (h6 : hi ≤ 9223372036854775807) : exF D m_X11_isIn [.long (jJ v), .long (jJ lo), .long (jJ hi)] M = some (some (.int (bi (lo ≤ v ∧ v ≤ hi))), M) := by
  obtain ⟨D, rfl⟩ : ∃ D0, D = D0 + 1 := ⟨D - 1, by omega⟩
  simp (disch := omega) only [en_X11_isIn, s_X11_isIn_0, s_X11_isIn_1, s_X11_isIn_2, s_X11_isIn_3, s_X11_isIn_6, s_X11_isIn_7, s_X11_isIn_9, s_X11_isIn_10, s_X11_isIn_13, s_X11_isIn_14, s_X11_isIn_17, s_X11_isIn_18, jJ_cmp, iI_add, iI_sub, iI_mul, iI_neg, iI_lt, iI_le, iI_eq, iI_toInt, tn_n, tn_1, rnk_v, rnk_n, ↓reduceIte, i00, i11, ibi, or_true, true_or, and_true, true_and, List.cons_append, List.nil_append, Option.toList]
  unfold bi
  (repeat' split) <;> first | rfl | (exfalso; omega)
