/-! SOUND: what the machine of fixed cells does, the JVM does -/
def cv (ad : Nat → Nat) : Value → Value
  | .ref i => .ref (ad i)
  | v => v
theorem cv_cat (ad : Nat → Nat) (v : Value) : (cv ad v).category = v.category := by cases v <;> rfl
def nfd (ci : Nat) : Nat := ((classes[ci]?).map (fun q => q.2.2)).getD 0
def cel (ad : Nat → Nat) (cA : Nat → ClassId) (M : tM) (i : Nat) : va_E := match clsO i with
  | some ci => .inr (ci, (List.range (nfd ci)).map (fun k => cv ad (fv M i k)))
  | none => if akind i = 0 ∨ akind i = 1 then .inl (cA (akind i), alT.getD i 0, .inl (M.1 i)) else if akind i = 2 then .inl (cA 2, alT.getD i 0, .inr (.inl (M.2 i)))
    else .inl (cA (akind i), alT.getD i 0, .inr (.inr (.inr (.inr (fun j => if j < alT.getD i 0 then some (ad (rfe i j)) else none)))))
def wsO (ad : Nat → Nat) (cA : Nat → ClassId) (M : tM) : va_W := (List.range 107).map (fun i => (ad i, cel ad cA M i))
def tysA (cA : Nat → ClassId) : List (ClassId × FieldType) := [(cA 0, .int), (cA 1, .boolean), (cA 2, .long), (cA 3, .array .int), (cA 4, .array .long), (cA 5, .object "java/lang/String")]
def A0 (ad : Nat → Nat) : Nat → Prop := fun q => ∃ i, i < 107 ∧ q = ad i
def adI (ad : Nat → Nat) : Prop := ∀ i j, i < 107 → j < 107 → ad i = ad j → i = j
theorem wsO_get {ad : Nat → Nat} {cA : Nat → ClassId} {M : tM} {i : Nat} (h : i < 107) : (wsO ad cA M)[i]? = some (ad i, cel ad cA M i) := by simp [wsO, h]
theorem wsO_D {ad : Nat → Nat} {cA : Nat → ClassId} {M : tM} (h : adI ad) : va_D (A0 ad) (wsO ad cA M) := by
  refine ⟨fun i j p q hi hj he => ?_, fun k q hk => ?_⟩
  · by_cases h1 : i < 107 <;> by_cases h2 : j < 107 <;> simp [wsO, h1, h2] at hi hj
    subst hi; subst hj
    exact h i j h1 h2 he
  · by_cases h1 : k < 107 <;> simp [wsO, h1] at hk
    subst hk
    exact ⟨k, h1, rfl⟩
theorem cel_congr {ad : Nat → Nat} {cA : Nat → ClassId} {M M' : tM} {j : Nat} (h1 : M'.1 j = M.1 j) (h2 : M'.2 j = M.2 j) : cel ad cA M' j = cel ad cA M j := by
  unfold cel
  simp only [fv, h1, h2]
theorem wsO_set {ad : Nat → Nat} {cA : Nat → ClassId} {M M' : tM} {i : Nat} {e : va_E} (hi : i < 107) (he : cel ad cA M' i = e) (h1 : ∀ j, j ≠ i → M'.1 j = M.1 j) (h2 : ∀ j, j ≠ i → M'.2 j = M.2 j) : (wsO ad cA M).set i (ad i, e) = wsO ad cA M' := by
  refine List.ext_getElem? fun j => ?_
  by_cases hj : j = i
  · subst hj
    rw [List.getElem?_set_self (by simpa [wsO] using hi), wsO_get hi, he]
  · rw [List.getElem?_set_ne (Ne.symm hj)]
    by_cases h : j < 107
    · rw [wsO_get h, wsO_get h, cel_congr (h1 j hj) (h2 j hj)]
    · simp [wsO, h]
theorem akind_lt {a : Nat} (h : akind a < 6) : a < 107 := by
  by_cases ha : a < 136
  · have key : ∀ b, b < 136 → akT.getD b 9 < 6 → b < 107 := by decide
    exact key a ha h
  · exfalso
    have e : akind a = 9 := by simp [akind, List.getD_eq_getElem?_getD, List.getElem?_eq_none (show akT.length ≤ a from Nat.not_lt.mp ha)]
    omega
theorem akind_cls {a : Nat} (h : akind a < 6) : clsO a = none := by
  have ha := akind_lt h
  have key : ∀ b, b < 107 → akT.getD b 9 < 6 → clT.getD b none = none := by decide
  exact key a ha h
theorem clsO_lt {b ci : Nat} (h : clsO b = some ci) (hc : ci < 12) : b < 107 := by
  by_cases hb : b < 136
  · have key : ∀ b, b < 136 → ∀ ci, ci < 12 → clT.getD b none = some ci → b < 107 := by decide
    exact key b hb ci hc h
  · exfalso
    simp [clsO, List.getD_eq_getElem?_getD, List.getElem?_eq_none (show clT.length ≤ b from Nat.not_lt.mp hb)] at h
def rfK : List (List Bool) := [[true, true], [false, false], [true, false, false], [true], [false, true, false, true, true, true, true, false, false, true, true, true, true, false, false, false], [true, false, false, false, false], [true, true, false, false, false, false], [true], [true, true, true], [true, true, true, true, true, true], [true, true, true, true, true, true, true, true, true, true, true, true, true, false, false], [true, true, true, true, false, true, true, true, true, true, true, false, false, false, true, true, true, true, true, false, false, true, false, false, false, false]]
theorem reff_ok {b ci k : Nat} (h : clsO b = some ci) (hc : ci < 12) (hk : (rfK.getD ci []).getD k true = false) : reff b k = none := by
  have hb := clsO_lt h hc
  have key : ∀ b, b < 107 → ∀ ci, ci < 12 → clT.getD b none = some ci → ∀ k, k < 30 → (rfK.getD ci []).getD k true = false → (rfT.getD b []).getD k none = none := by decide
  by_cases h30 : k < 30
  · exact key b hb ci hc h k h30 hk
  · exfalso
    have key2 : ∀ ci, ci < 12 → (rfK.getD ci []).length ≤ 30 := by decide
    have h2 := key2 ci hc
    rw [List.getD_eq_getElem?_getD, List.getElem?_eq_none (by omega)] at hk
    cases hk
theorem cls_in {ci : Nat} {q : vw_C} (h : classes[ci]? = some q) : ∀ w ∈ u_ws q.1 q.2.1 q.2.2, w ∈ WS := by
  match ci, h with
  | 0, h => cases h; exact wsi0
  | 1, h => cases h; exact wsi1
  | 2, h => cases h; exact wsi2
  | 3, h => cases h; exact wsi3
  | 4, h => cases h; exact wsi4
  | 5, h => cases h; exact wsi5
  | 6, h => cases h; exact wsi6
  | 7, h => cases h; exact wsi7
  | 8, h => cases h; exact wsi8
  | 9, h => cases h; exact wsi9
  | 10, h => cases h; exact wsi10
  | 11, h => cases h; exact wsi11
  | _ + 12, h => simp [classes] at h
theorem cls_ty {ci : Nat} {q : vw_C} (h : classes[ci]? = some q) : ∃ ty0 : Nat → FieldType, (∀ k, k < q.2.2 → parseFieldDescriptor (q.2.1 k).2.2.1 = some (ty0 k)) ∧ (∀ a, a < q.2.2 → ∀ b, b < q.2.2 → a ≠ b → (q.2.1 a).2.1 ≠ (q.2.1 b).2.1) := by
  match ci, h with
  | 0, h => cases h; exact ⟨tyX0, tyX0_ok, nmX0⟩
  | 1, h => cases h; exact ⟨tyX1, tyX1_ok, nmX1⟩
  | 2, h => cases h; exact ⟨tyX2, tyX2_ok, nmX2⟩
  | 3, h => cases h; exact ⟨tyX3, tyX3_ok, nmX3⟩
  | 4, h => cases h; exact ⟨tyX4, tyX4_ok, nmX4⟩
  | 5, h => cases h; exact ⟨tyX5, tyX5_ok, nmX5⟩
  | 6, h => cases h; exact ⟨tyX6, tyX6_ok, nmX6⟩
  | 7, h => cases h; exact ⟨tyX7, tyX7_ok, nmX7⟩
  | 8, h => cases h; exact ⟨tyX8, tyX8_ok, nmX8⟩
  | 9, h => cases h; exact ⟨tyX9, tyX9_ok, nmX9⟩
  | 10, h => cases h; exact ⟨tyX10, tyX10_ok, nmX10⟩
  | 11, h => cases h; exact ⟨tyX11, tyX11_ok, nmX11⟩
  | _ + 12, h => simp [classes] at h
def SR : List (String × Nat × Nat) := [(RX6, 93, 0), (RX6, 95, 1), (RX6, 97, 2), (RX6, 99, 3), (RX6, 101, 4), (RX6, 103, 5), (RX11, 44, 0), (RX11, 46, 1), (RX11, 48, 2), (RX11, 50, 3), (RX11, 52, 4), (RX11, 54, 5)]
def mpl : List (List Nat) := [[892, 893, 33, 894], [914, 915, 33, 916], [896, 897, 33, 898], [901, 902, 33, 903], [905, 906, 33, 907], [909, 910, 33, 911], [1059, 1060, 49, 1061], [1064, 1065, 49, 1066], [1131, 1132, 49, 1133], [1027, 1028, 41, 1029], [1031, 1032, 41, 1033], [944, 945, 37, 946], [956, 957, 37, 958], [960, 961, 37, 962], [992, 993, 37, 994], [998, 999, 37, 1000], [1003, 1004, 37, 1005], [366, 367, 15, 368], [386, 387, 15, 388], [288, 289, 15, 290], [345, 346, 15, 347], [373, 374, 15, 375], [407, 408, 15, 409], [349, 350, 15, 351], [377, 378, 15, 379], [411, 412, 15, 413], [429, 430, 15, 431], [382, 383, 15, 384], [479, 480, 15, 481], [661, 662, 15, 663], [669, 15, 670], [703, 704, 15, 705], [1071, 1072, 15, 1073], [1135, 1136, 15, 1137], [1246, 1247, 15, 1248], [1250, 1251, 15, 1252], [1161, 1162, 53, 1163], [1213, 1214, 53, 1215], [1165, 1166, 53, 1167], [1173, 1174, 53, 1175], [1169, 1170, 53, 1171], [1177, 1178, 53, 1179], [1181, 1182, 53, 1183], [484, 485, 45, 486], [554, 555, 45, 556], [550, 551, 45, 552], [583, 584, 45, 585], [566, 567, 45, 568], [498, 499, 45, 500], [502, 503, 45, 504], [506, 45, 507], [576, 45, 577], [570, 45, 571], [579, 580, 45, 581], [587, 588, 45, 589], [591, 592, 45, 593], [596, 45, 597], [600, 601, 45, 602], [828, 829, 29, 830], [842, 843, 29, 844], [832, 833, 29, 834], [837, 838, 29, 839], [846, 847, 29, 848], [850, 851, 29, 852], [169, 170, 21, 171], [218, 219, 21, 220], [210, 211, 21, 212], [214, 215, 21, 216], [177, 178, 21, 179], [292, 293, 21, 294], [226, 227, 21, 228], [276, 277, 21, 278], [493, 494, 21, 495], [222, 223, 21, 224], [231, 21, 232], [250, 251, 21, 252], [254, 255, 21, 256], [1234, 1235, 21, 1236], [698, 699, 25, 700], [949, 950, 25, 951], [801, 802, 25, 803], [712, 713, 25, 714], [720, 721, 25, 722], [730, 731, 25, 732], [735, 736, 25, 737], [693, 694, 25, 695], [739, 740, 25, 741], [708, 709, 25, 710], [726, 727, 25, 728], [806, 807, 25, 808], [870, 871, 25, 872], [878, 879, 25, 880], [874, 875, 25, 876], [1043, 1044, 25, 1045], [165, 166, 2, 167], [202, 203, 2, 204], [242, 243, 2, 244], [272, 273, 2, 274], [284, 285, 2, 286], [304, 305, 2, 306], [312, 313, 2, 314], [341, 342, 2, 343], [362, 363, 2, 364], [403, 404, 2, 405], [424, 425, 2, 426], [442, 443, 2, 444], [450, 451, 2, 452], [458, 459, 2, 460], [467, 468, 2, 469], [475, 476, 2, 477], [649, 650, 2, 651], [657, 658, 2, 659], [689, 690, 2, 691], [796, 797, 2, 798], [816, 817, 2, 818], [866, 867, 2, 868], [888, 889, 2, 890], [935, 936, 2, 937], [988, 989, 2, 990], [1015, 1016, 2, 1017], [1023, 1024, 2, 1025], [1039, 1040, 2, 1041], [1051, 1052, 2, 1053], [1094, 1095, 2, 1096], [1110, 1111, 2, 1112], [1118, 1119, 2, 1120], [1127, 1128, 2, 1129], [1149, 1150, 2, 1151], [1157, 1158, 2, 1159], [1209, 1210, 2, 1211], [1221, 1222, 2, 1223], [1230, 1231, 2, 1232], [1242, 1243, 2, 1244], [173, 174, 2, 175], [206, 207, 2, 208], [246, 247, 2, 248], [939, 940, 2, 941], [1055, 1056, 2, 1057], [1098, 1099, 2, 1100], [370, 2, 371], [723, 2, 724], [316, 2, 317], [195, 5, 196], [198, 199, 5, 200], [748, 749, 5, 750], [614, 5, 615], [395, 396, 5, 397], [438, 439, 5, 440], [300, 301, 5, 302], [768, 769, 5, 770], [772, 773, 5, 774], [681, 682, 5, 683], [685, 686, 5, 687], [764, 765, 5, 766], [325, 326, 5, 327], [333, 334, 5, 335], [337, 338, 5, 339], [329, 330, 5, 331], [358, 359, 5, 360], [399, 400, 5, 401], [420, 421, 5, 422], [354, 355, 5, 356], [390, 391, 5, 392], [416, 417, 5, 418], [434, 435, 5, 436], [446, 447, 5, 448], [454, 455, 5, 456], [462, 463, 5, 464], [471, 472, 5, 473], [191, 5, 192], [186, 187, 5, 188], [238, 239, 5, 240], [234, 235, 5, 236], [267, 268, 5, 269], [263, 264, 5, 265], [280, 281, 5, 282], [630, 631, 5, 632], [296, 297, 5, 298], [308, 309, 5, 310], [320, 321, 5, 322], [626, 627, 5, 628], [635, 636, 5, 637], [645, 646, 5, 647], [621, 622, 5, 623], [639, 640, 5, 641], [617, 618, 5, 619], [608, 609, 5, 610], [653, 654, 5, 655], [760, 761, 5, 762], [676, 677, 5, 678], [672, 673, 5, 674], [756, 757, 5, 758], [776, 777, 5, 778], [781, 782, 5, 783], [752, 753, 5, 754], [789, 790, 5, 791], [793, 5, 794], [785, 786, 5, 787], [743, 744, 5, 745], [810, 811, 5, 812], [859, 5, 860], [862, 863, 5, 864], [854, 855, 5, 856], [884, 885, 5, 886], [931, 932, 5, 933], [927, 928, 5, 929], [923, 924, 5, 925], [919, 920, 5, 921], [980, 981, 5, 982], [984, 985, 5, 986], [970, 971, 5, 972], [976, 977, 5, 978], [966, 967, 5, 968], [1011, 1012, 5, 1013], [1007, 1008, 5, 1009], [1019, 1020, 5, 1021], [1035, 1036, 5, 1037], [1047, 1048, 5, 1049], [1080, 1081, 5, 1082], [1090, 1091, 5, 1092], [1084, 1085, 5, 1086], [1076, 1077, 5, 1078], [1106, 1107, 5, 1108], [1114, 1115, 5, 1116], [1123, 1124, 5, 1125], [1144, 1145, 5, 1146], [1140, 1141, 5, 1142], [1153, 1154, 5, 1155], [1197, 1198, 5, 1199], [1193, 1194, 5, 1195], [1201, 1202, 5, 1203], [1205, 1206, 5, 1207], [1185, 1186, 5, 1187], [1217, 1218, 5, 1219], [1102, 1103, 5, 1104], [1225, 1226, 5, 1227], [1238, 1239, 5, 1240], [1255, 1256, 5, 1257], [820, 821, 822], [182, 183, 184], [716, 183, 717], []]
def mp300 : List Nat := [509, 510, 511, 512]
def mp301 : List Nat := [558, 559, 511, 560]
def e300 : tE := ([], 2, yJ0_charAt_5068e, cJ0_charAt_5068e, some .char, RJ0)
def e301 : tE := ([], 1, yJ0_length_8abf5, cJ0_length_8abf5, some .int, RJ0)
def mif (y : Nat) : Option tE := if y = 300 then some e300 else if y = 301 then some e301 else mtl[y]?
def okW (lw : List Nat) (k : Nat) : Bool := k == 0 || !(lw.contains (k - 1))
def isInt (t : FieldType) : Bool := match t with
  | .int => true
  | _ => false
/-- a method's own words -/
def okM (e : tE) (q : List Nat) : Bool := match q with
  | [a, b, c, d] => decide (wat a = some (.instanceMethod e.2.2.1)) && decide (wat b = some (.selects e.2.2.1.cls e.2.2.1 e.2.2.1)) && decide (wat c = some (.initialized e.2.2.1.cls)) && decide (wat d = some (.code e.2.2.1 e.2.2.2.1 e.2.1 e.2.2.2.2.1)) && plainName e.2.2.1.cls && decide (e.2.2.1.cls ≠ "java/lang/invoke/MethodHandle") && decide (e.2.2.1.cls ≠ "java/lang/invoke/VarHandle") && decide (e.2.1 ≤ 20) && decide (e.2.2.1.cls = e.2.2.2.2.2)
  | [a, c, d] => decide (wat a = some (.static e.2.2.1)) && decide (wat c = some (.initialized e.2.2.1.cls)) && decide (wat d = some (.code e.2.2.1 e.2.2.2.1 e.2.1 e.2.2.2.2.1)) && plainName e.2.2.1.cls && decide (e.2.2.1.cls ≠ "java/lang/invoke/MethodHandle") && decide (e.2.2.1.cls ≠ "java/lang/invoke/VarHandle") && decide (e.2.1 ≤ 20) && decide (e.2.2.1.cls = e.2.2.2.2.2)
  | _ => false
def okF (own : String) (i w : Nat) (f : String × String × String × Bool) : Bool :=
  if w < 100000 then decide (wat w = some (.fieldLink own i f.1 f.2.1 f.2.2.1)) else match NF[w - 100000]? with
    | some q => decide (q.1 = own ∧ q.2.1 = i ∧ q.2.2.1 = f.1 ∧ q.2.2.2.1 = f.2.1 ∧ q.2.2.2.2.1 = f.2.2.1)
    | none => false
def okL (own : String) (i w : Nat) (x : MethodName) : Bool :=
  if w < 100000 then decide (wat w = some (.methodLink own i x)) else match NM[w - 100000]? with
    | some q => decide (q.1 = own ∧ q.2.1 = i ∧ q.2.2.1 = x)
    | none => false
def inR32 (z : Int) : Bool := decide (-2147483648 ≤ z ∧ z ≤ 2147483647)
def okA (own : String) (pc nL : Nat) (lw : List Nat) (ins : Instr) (len : Nat) (an : tAn) : Bool := match ins with
  | .istore_n k => len == 1 && okW lw k
  | .astore_n k => len == 1 && okW lw k
  | .istore k => len == 2 && okW lw k
  | .astore k => len == 2 && okW lw k
  | .iinc k _ => len == 3 && okW lw k
  | .aload _ => len == 2
  | .iload _ => len == 2
  | .lload _ => len == 2
  | .bipush n => len == 2 && decide ((Int8.ofInt n).toInt32 = iI n)
  | .sipush n => len == 3 && decide ((Int16.ofInt n).toInt32 = iI n)
  | .lconst n => len == 1 && decide (Int64.ofNat (n : Nat) = jJ ((n : Nat) : Int))
  | .ldc i => len == 2 && (if an.1 = 0 then decide (wat an.2.2.2 = some (.constant own i (iI an.2.2.1))) else decide (130 ≤ an.2.1 ∧ an.2.1 < 136) && SR.contains (own, i, an.2.1 - 130))
  | .ldc_w i => len == 3 && decide (wat an.2.2.2 = some (.constant own i (iI an.2.2.1)))
  | .ldc2_w i => len == 3 && decide (wat an.2.2.2 = some (.constantLong own i (jJ an.2.2.1)))
  | .goto off => len == 3 && decide ((pc : Int) + off = (an.1 : Int))
  | .ifCond _ off => len == 3 && decide ((pc : Int) + off = (an.1 : Int))
  | .if_icmp _ off => len == 3 && decide ((pc : Int) + off = (an.1 : Int))
  | .tableswitch dflt lo hi offs => decide (hi - lo + 1 = (offs.toList.length : Int)) && decide (0 ≤ (pc : Int) + dflt) && offs.toList.all (fun o => decide (0 ≤ (pc : Int) + o)) && inR32 lo && inR32 hi
  | .lookupswitch dflt ps => (ps.toList.zip (ps.toList.drop 1)).all (fun (a, next) => a.1 < next.1) && decide (0 ≤ (pc : Int) + dflt) && ps.toList.all (fun o => decide (0 ≤ (pc : Int) + o.2) && inR32 o.1)
  | .getfield i => len == 3 && (match classes[an.1]? with
    | some q => decide (an.2.1 < q.2.2) && okF own i an.2.2.2 (q.2.1 an.2.1)
    | none => false)
  | .putfield i => len == 3 && (match classes[an.1]? with
    | some q => decide (an.2.1 < q.2.2) && okF own i an.2.2.2 (q.2.1 an.2.1) && !(q.2.1 an.2.1).2.2.2 && (rfK.getD an.1 []).getD an.2.1 true == false && decide (parseFieldDescriptor (q.2.1 an.2.1).2.2.1 = some (if an.2.2.1 = 0 then .int else .boolean))
    | none => false)
  | .getstatic i => len == 3 && an.1 == 120 && okF own i an.2.2.2 ("TubesOfCourt", "KIND_ABOVE", "[I", true)
  | .invokevirtual i => len == 3 && (match mif an.1 with
    | some e => okL own i an.2.2.2 e.2.2.1 && decide ((parseMethodDescriptor e.2.2.1.desc).map (fun d => d.parameters.length) = some an.2.1) && (if an.1 < 300 then (match classes[an.2.2.1.toNat]? with
        | some q => decide (q.1 = e.2.2.1.cls) && ((mpl.getD an.1 []).length == 4)
        | none => false) else an.2.2.1.toNat == 90)
    | none => false)
  | .invokestatic i => len == 3 && (if an.2.2.1 = 1 then decide (wat an.2.2.2 = some (.methodLink own i arraycopyName)) else if an.2.2.1 = 2 then decide (wat an.2.2.2 = some (.methodLink own i Lib.Math.max.name)) else if an.2.2.1 = 3 then decide (wat an.2.2.2 = some (.methodLink own i Lib.Math.min.name)) else (match mif an.1 with
    | some e => okL own i an.2.2.2 e.2.2.1 && decide ((parseMethodDescriptor e.2.2.1.desc).map (fun d => d.parameters.length) = some an.2.1) && ((mpl.getD an.1 []).length == 3) && decide (an.1 < 300)
    | none => false))
  | _ => len == 1
def okI (own : String) (cc : ByteArray) (nL : Nat) (lw : List Nat) (e : Nat × Instr × Nat × tAn) : Bool := decide (decode cc e.1 = .ok (e.2.1, e.2.2.1)) && okA own e.1 nL lw e.2.1 e.2.2.1 e.2.2.2


theorem acw : Cond.native arraycopyName ∈ WS ∧ Cond.static arraycopyName ∈ WS ∧ Cond.initialized "java/lang/System" ∈ WS := ⟨wat_mem (k := 258) (by decide +kernel), wat_mem (k := 259) (by decide +kernel), wat_mem (k := 260) (by decide +kernel)⟩
theorem mxw : Cond.static Lib.Math.max.name ∈ WS ∧ Cond.initialized "java/lang/Math" ∈ WS ∧ Cond.code Lib.Math.max.name Lib.Math.max.code 2 (some .int) ∈ WS := ⟨wat_mem (k := 665) (by decide +kernel), wat_mem (k := 489) (by decide +kernel), wat_mem (k := 666) (by decide +kernel)⟩
theorem mnw : Cond.static Lib.Math.min.name ∈ WS ∧ Cond.initialized "java/lang/Math" ∈ WS ∧ Cond.code Lib.Math.min.name Lib.Math.min.code 2 (some .int) ∈ WS := ⟨wat_mem (k := 488) (by decide +kernel), wat_mem (k := 489) (by decide +kernel), wat_mem (k := 490) (by decide +kernel)⟩

