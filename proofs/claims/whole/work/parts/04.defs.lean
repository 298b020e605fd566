/-! SOUND: what the machine of fixed cells does, the JVM does -/
def cv (ad : Nat → Nat) : Value → Value
  | .ref i => .ref (ad i)
  | v => v
theorem cv_cat (ad : Nat → Nat) (v : Value) : (cv ad v).category = v.category := by cases v <;> rfl
def nfd (ci : Nat) : Nat := ((classes[ci]?).map (fun q => q.2.2)).getD 0
def cel (ad : Nat → Nat) (cA : Nat → ClassId) (M : tM) (i : Nat) : va_E := match clsO i with
  | some ci => .inr (ci, (List.range (nfd ci)).map (fun k => cv ad (fv M i k)))
  | none => if akind i = 0 ∨ akind i = 1 then .inl (cA (akind i), alT.getD i 0, .inl (M.1 i)) else if akind i = 2 then .inl (cA 2, alT.getD i 0, .inr (.inl (M.2 i)))
    else .inl (cA (akind i), alT.getD i 0, .inr (.inr (.inr (.inr (fun j => if j < alT.getD i 0 then some (ad (rfe i j)) else none)))))
def wsO (ad : Nat → Nat) (cA : Nat → ClassId) (M : tM) : va_W := (List.range 109).map (fun i => (ad i, cel ad cA M i))
def tysA (cA : Nat → ClassId) : List (ClassId × FieldType) := [(cA 0, .int), (cA 1, .boolean), (cA 2, .long), (cA 3, .array .int), (cA 4, .array .long), (cA 5, .object "java/lang/String")]
def A0 (ad : Nat → Nat) : Nat → Prop := fun q => ∃ i, i < 109 ∧ q = ad i
def adI (ad : Nat → Nat) : Prop := ∀ i j, i < 109 → j < 109 → ad i = ad j → i = j
theorem wsO_get {ad : Nat → Nat} {cA : Nat → ClassId} {M : tM} {i : Nat} (h : i < 109) : (wsO ad cA M)[i]? = some (ad i, cel ad cA M i) := by simp [wsO, h]
theorem wsO_D {ad : Nat → Nat} {cA : Nat → ClassId} {M : tM} (h : adI ad) : va_D (A0 ad) (wsO ad cA M) := by
  refine ⟨fun i j p q hi hj he => ?_, fun k q hk => ?_⟩
  · by_cases h1 : i < 109 <;> by_cases h2 : j < 109 <;> simp [wsO, h1, h2] at hi hj
    subst hi; subst hj
    exact h i j h1 h2 he
  · by_cases h1 : k < 109 <;> simp [wsO, h1] at hk
    subst hk
    exact ⟨k, h1, rfl⟩
theorem cel_congr {ad : Nat → Nat} {cA : Nat → ClassId} {M M' : tM} {j : Nat} (h1 : M'.1 j = M.1 j) (h2 : M'.2 j = M.2 j) : cel ad cA M' j = cel ad cA M j := by
  unfold cel
  simp only [fv, h1, h2]
theorem wsO_set {ad : Nat → Nat} {cA : Nat → ClassId} {M M' : tM} {i : Nat} {e : va_E} (hi : i < 109) (he : cel ad cA M' i = e) (h1 : ∀ j, j ≠ i → M'.1 j = M.1 j) (h2 : ∀ j, j ≠ i → M'.2 j = M.2 j) : (wsO ad cA M).set i (ad i, e) = wsO ad cA M' := by
  refine List.ext_getElem? fun j => ?_
  by_cases hj : j = i
  · subst hj
    rw [List.getElem?_set_self (by simpa [wsO] using hi), wsO_get hi, he]
  · rw [List.getElem?_set_ne (Ne.symm hj)]
    by_cases h : j < 109
    · rw [wsO_get h, wsO_get h, cel_congr (h1 j hj) (h2 j hj)]
    · simp [wsO, h]
theorem akind_lt {a : Nat} (h : akind a < 6) : a < 109 := by
  by_cases ha : a < 136
  · have key : ∀ b, b < 136 → akT.getD b 9 < 6 → b < 109 := by decide
    exact key a ha h
  · exfalso
    have e : akind a = 9 := by simp [akind, List.getD_eq_getElem?_getD, List.getElem?_eq_none (show akT.length ≤ a from Nat.not_lt.mp ha)]
    omega
theorem akind_cls {a : Nat} (h : akind a < 6) : clsO a = none := by
  have ha := akind_lt h
  have key : ∀ b, b < 109 → akT.getD b 9 < 6 → clT.getD b none = none := by decide
  exact key a ha h
theorem clsO_lt {b ci : Nat} (h : clsO b = some ci) (hc : ci < 12) : b < 109 := by
  by_cases hb : b < 136
  · have key : ∀ b, b < 136 → ∀ ci, ci < 12 → clT.getD b none = some ci → b < 109 := by decide
    exact key b hb ci hc h
  · exfalso
    simp [clsO, List.getD_eq_getElem?_getD, List.getElem?_eq_none (show clT.length ≤ b from Nat.not_lt.mp hb)] at h
def rfK : List (List Bool) := [[true, true], [false, false], [true, false, false], [true, true, false, true], [false, true, false, true, true, true, true, false, false, true, true, true, true, false, false, false], [true, false, false, false, false], [true, true, false, false, false, false], [true], [true, true, true], [true, true, true, true, true, true], [true, true, true, true, true, true, true, true, true, true, true, true, true, false, false], [true, true, true, true, false, true, true, true, true, true, true, false, false, false, true, true, true, true, true, false, false, true, false, false, false, false]]
theorem reff_ok {b ci k : Nat} (h : clsO b = some ci) (hc : ci < 12) (hk : (rfK.getD ci []).getD k true = false) : reff b k = none := by
  have hb := clsO_lt h hc
  have key : ∀ b, b < 109 → ∀ ci, ci < 12 → clT.getD b none = some ci → ∀ k, k < 30 → (rfK.getD ci []).getD k true = false → (rfT.getD b []).getD k none = none := by decide
  by_cases h30 : k < 30
  · exact key b hb ci hc h k h30 hk
  · exfalso
    have key2 : ∀ ci, ci < 12 → (rfK.getD ci []).length ≤ 30 := by decide
    have h2 := key2 ci hc
    rw [List.getD_eq_getElem?_getD, List.getElem?_eq_none (by omega)] at hk
    cases hk
theorem cls_in {ci : Nat} {q : vw_C} (h : classes[ci]? = some q) : ∀ w ∈ u_ws q.1 q.2.1 q.2.2, w ∈ WS := by
  match ci, h with
  | 0, h => cases h; exact wsi0
  | 1, h => cases h; exact wsi1
  | 2, h => cases h; exact wsi2
  | 3, h => cases h; exact wsi3
  | 4, h => cases h; exact wsi4
  | 5, h => cases h; exact wsi5
  | 6, h => cases h; exact wsi6
  | 7, h => cases h; exact wsi7
  | 8, h => cases h; exact wsi8
  | 9, h => cases h; exact wsi9
  | 10, h => cases h; exact wsi10
  | 11, h => cases h; exact wsi11
  | _ + 12, h => simp [classes] at h
theorem cls_ty {ci : Nat} {q : vw_C} (h : classes[ci]? = some q) : ∃ ty0 : Nat → FieldType, (∀ k, k < q.2.2 → parseFieldDescriptor (q.2.1 k).2.2.1 = some (ty0 k)) ∧ (∀ a, a < q.2.2 → ∀ b, b < q.2.2 → a ≠ b → (q.2.1 a).2.1 ≠ (q.2.1 b).2.1) := by
  match ci, h with
  | 0, h => cases h; exact ⟨tyX0, tyX0_ok, nmX0⟩
  | 1, h => cases h; exact ⟨tyX1, tyX1_ok, nmX1⟩
  | 2, h => cases h; exact ⟨tyX2, tyX2_ok, nmX2⟩
  | 3, h => cases h; exact ⟨tyX3, tyX3_ok, nmX3⟩
  | 4, h => cases h; exact ⟨tyX4, tyX4_ok, nmX4⟩
  | 5, h => cases h; exact ⟨tyX5, tyX5_ok, nmX5⟩
  | 6, h => cases h; exact ⟨tyX6, tyX6_ok, nmX6⟩
  | 7, h => cases h; exact ⟨tyX7, tyX7_ok, nmX7⟩
  | 8, h => cases h; exact ⟨tyX8, tyX8_ok, nmX8⟩
  | 9, h => cases h; exact ⟨tyX9, tyX9_ok, nmX9⟩
  | 10, h => cases h; exact ⟨tyX10, tyX10_ok, nmX10⟩
  | 11, h => cases h; exact ⟨tyX11, tyX11_ok, nmX11⟩
  | _ + 12, h => simp [classes] at h
def SR : List (String × Nat × Nat) := [(RX6, 93, 0), (RX6, 95, 1), (RX6, 97, 2), (RX6, 99, 3), (RX6, 101, 4), (RX6, 103, 5), (RX11, 44, 0), (RX11, 46, 1), (RX11, 48, 2), (RX11, 50, 3), (RX11, 52, 4), (RX11, 54, 5)]
def mpl : List (List Nat) := [[894, 895, 33, 896], [916, 917, 33, 918], [898, 899, 33, 900], [903, 904, 33, 905], [907, 908, 33, 909], [911, 912, 33, 913], [1065, 1066, 49, 1067], [1070, 1071, 49, 1072], [1137, 1138, 49, 1139], [1033, 1034, 41, 1035], [1037, 1038, 41, 1039], [946, 947, 37, 948], [952, 953, 37, 954], [963, 964, 37, 965], [967, 968, 37, 969], [998, 999, 37, 1000], [1004, 1005, 37, 1006], [1009, 1010, 37, 1011], [369, 370, 15, 371], [389, 390, 15, 391], [291, 292, 15, 293], [348, 349, 15, 350], [376, 377, 15, 378], [410, 411, 15, 412], [352, 353, 15, 354], [380, 381, 15, 382], [414, 415, 15, 416], [432, 433, 15, 434], [385, 386, 15, 387], [482, 483, 15, 484], [664, 665, 15, 666], [672, 15, 673], [706, 707, 15, 708], [1077, 1078, 15, 1079], [1141, 1142, 15, 1143], [1252, 1253, 15, 1254], [1256, 1257, 15, 1258], [1167, 1168, 53, 1169], [1219, 1220, 53, 1221], [1171, 1172, 53, 1173], [1179, 1180, 53, 1181], [1175, 1176, 53, 1177], [1183, 1184, 53, 1185], [1187, 1188, 53, 1189], [487, 488, 45, 489], [557, 558, 45, 559], [553, 554, 45, 555], [586, 587, 45, 588], [569, 570, 45, 571], [501, 502, 45, 503], [505, 506, 45, 507], [509, 45, 510], [579, 45, 580], [573, 45, 574], [582, 583, 45, 584], [590, 591, 45, 592], [594, 595, 45, 596], [599, 45, 600], [603, 604, 45, 605], [830, 831, 29, 832], [844, 845, 29, 846], [834, 835, 29, 836], [839, 840, 29, 841], [848, 849, 29, 850], [852, 853, 29, 854], [172, 173, 21, 174], [261, 262, 21, 263], [213, 214, 21, 215], [217, 218, 21, 219], [180, 181, 21, 182], [295, 296, 21, 297], [225, 226, 21, 227], [279, 280, 21, 281], [496, 497, 21, 498], [221, 222, 21, 223], [230, 21, 231], [249, 250, 21, 251], [253, 254, 21, 255], [1240, 1241, 21, 1242], [701, 702, 25, 703], [956, 957, 25, 958], [803, 804, 25, 805], [710, 711, 25, 712], [718, 719, 25, 720], [732, 733, 25, 734], [737, 738, 25, 739], [696, 697, 25, 698], [741, 742, 25, 743], [724, 725, 25, 726], [728, 729, 25, 730], [808, 809, 25, 810], [872, 873, 25, 874], [880, 881, 25, 882], [876, 877, 25, 878], [1049, 1050, 25, 1051], [168, 169, 2, 170], [205, 206, 2, 207], [241, 242, 2, 243], [275, 276, 2, 277], [287, 288, 2, 289], [307, 308, 2, 309], [315, 316, 2, 317], [344, 345, 2, 346], [365, 366, 2, 367], [406, 407, 2, 408], [427, 428, 2, 429], [445, 446, 2, 447], [453, 454, 2, 455], [461, 462, 2, 463], [470, 471, 2, 472], [478, 479, 2, 480], [652, 653, 2, 654], [660, 661, 2, 662], [692, 693, 2, 694], [798, 799, 2, 800], [818, 819, 2, 820], [868, 869, 2, 870], [890, 891, 2, 892], [937, 938, 2, 939], [994, 995, 2, 996], [1021, 1022, 2, 1023], [1029, 1030, 2, 1031], [1045, 1046, 2, 1047], [1057, 1058, 2, 1059], [1100, 1101, 2, 1102], [1116, 1117, 2, 1118], [1124, 1125, 2, 1126], [1133, 1134, 2, 1135], [1155, 1156, 2, 1157], [1163, 1164, 2, 1165], [1215, 1216, 2, 1217], [1227, 1228, 2, 1229], [1236, 1237, 2, 1238], [1248, 1249, 2, 1250], [176, 177, 2, 178], [209, 210, 2, 211], [245, 246, 2, 247], [941, 942, 2, 943], [1061, 1062, 2, 1063], [1104, 1105, 2, 1106], [373, 2, 374], [721, 2, 722], [319, 2, 320], [198, 5, 199], [201, 202, 5, 203], [750, 751, 5, 752], [617, 5, 618], [398, 399, 5, 400], [441, 442, 5, 443], [303, 304, 5, 305], [770, 771, 5, 772], [774, 775, 5, 776], [684, 685, 5, 686], [688, 689, 5, 690], [766, 767, 5, 768], [328, 329, 5, 330], [336, 337, 5, 338], [340, 341, 5, 342], [332, 333, 5, 334], [361, 362, 5, 363], [402, 403, 5, 404], [423, 424, 5, 425], [357, 358, 5, 359], [393, 394, 5, 395], [419, 420, 5, 421], [437, 438, 5, 439], [449, 450, 5, 451], [457, 458, 5, 459], [465, 466, 5, 467], [474, 475, 5, 476], [194, 5, 195], [189, 190, 5, 191], [237, 238, 5, 239], [233, 234, 5, 235], [270, 271, 5, 272], [266, 267, 5, 268], [283, 284, 5, 285], [633, 634, 5, 635], [299, 300, 5, 301], [311, 312, 5, 313], [323, 324, 5, 325], [629, 630, 5, 631], [638, 639, 5, 640], [648, 649, 5, 650], [624, 625, 5, 626], [642, 643, 5, 644], [620, 621, 5, 622], [611, 612, 5, 613], [656, 657, 5, 658], [762, 763, 5, 764], [679, 680, 5, 681], [675, 676, 5, 677], [758, 759, 5, 760], [778, 779, 5, 780], [783, 784, 5, 785], [754, 755, 5, 756], [791, 792, 5, 793], [795, 5, 796], [787, 788, 5, 789], [745, 746, 5, 747], [812, 813, 5, 814], [861, 5, 862], [864, 865, 5, 866], [856, 857, 5, 858], [886, 887, 5, 888], [933, 934, 5, 935], [929, 930, 5, 931], [925, 926, 5, 927], [921, 922, 5, 923], [986, 987, 5, 988], [990, 991, 5, 992], [976, 977, 5, 978], [982, 983, 5, 984], [972, 973, 5, 974], [1017, 1018, 5, 1019], [1013, 1014, 5, 1015], [1025, 1026, 5, 1027], [1041, 1042, 5, 1043], [1053, 1054, 5, 1055], [1086, 1087, 5, 1088], [1096, 1097, 5, 1098], [1090, 1091, 5, 1092], [1082, 1083, 5, 1084], [1112, 1113, 5, 1114], [1120, 1121, 5, 1122], [1129, 1130, 5, 1131], [1150, 1151, 5, 1152], [1146, 1147, 5, 1148], [1159, 1160, 5, 1161], [1203, 1204, 5, 1205], [1199, 1200, 5, 1201], [1207, 1208, 5, 1209], [1211, 1212, 5, 1213], [1191, 1192, 5, 1193], [1223, 1224, 5, 1225], [1108, 1109, 5, 1110], [1231, 1232, 5, 1233], [1244, 1245, 5, 1246], [1261, 1262, 5, 1263], [822, 823, 824], [185, 186, 187], [714, 186, 715], []]
def mp300 : List Nat := [512, 513, 514, 515]
def mp301 : List Nat := [561, 562, 514, 563]
def e300 : tE := ([], 2, yJ0_charAt_5068e, cJ0_charAt_5068e, some .char, RJ0)
def e301 : tE := ([], 1, yJ0_length_8abf5, cJ0_length_8abf5, some .int, RJ0)
def mif (y : Nat) : Option tE := if y = 300 then some e300 else if y = 301 then some e301 else mtl[y]?
def okW (lw : List Nat) (k : Nat) : Bool := k == 0 || !(lw.contains (k - 1))
def isInt (t : FieldType) : Bool := match t with
  | .int => true
  | _ => false
/-- a method's own words -/
def okM (e : tE) (q : List Nat) : Bool := match q with
  | [a, b, c, d] => decide (wat a = some (.instanceMethod e.2.2.1)) && decide (wat b = some (.selects e.2.2.1.cls e.2.2.1 e.2.2.1)) && decide (wat c = some (.initialized e.2.2.1.cls)) && decide (wat d = some (.code e.2.2.1 e.2.2.2.1 e.2.1 e.2.2.2.2.1)) && plainName e.2.2.1.cls && decide (e.2.2.1.cls ≠ "java/lang/invoke/MethodHandle") && decide (e.2.2.1.cls ≠ "java/lang/invoke/VarHandle") && decide (e.2.1 ≤ 20) && decide (e.2.2.1.cls = e.2.2.2.2.2)
  | [a, c, d] => decide (wat a = some (.static e.2.2.1)) && decide (wat c = some (.initialized e.2.2.1.cls)) && decide (wat d = some (.code e.2.2.1 e.2.2.2.1 e.2.1 e.2.2.2.2.1)) && plainName e.2.2.1.cls && decide (e.2.2.1.cls ≠ "java/lang/invoke/MethodHandle") && decide (e.2.2.1.cls ≠ "java/lang/invoke/VarHandle") && decide (e.2.1 ≤ 20) && decide (e.2.2.1.cls = e.2.2.2.2.2)
  | _ => false
def okF (own : String) (i w : Nat) (f : String × String × String × Bool) : Bool :=
  if w < 100000 then decide (wat w = some (.fieldLink own i f.1 f.2.1 f.2.2.1)) else match NF[w - 100000]? with
    | some q => decide (q.1 = own ∧ q.2.1 = i ∧ q.2.2.1 = f.1 ∧ q.2.2.2.1 = f.2.1 ∧ q.2.2.2.2.1 = f.2.2.1)
    | none => false
def okL (own : String) (i w : Nat) (x : MethodName) : Bool :=
  if w < 100000 then decide (wat w = some (.methodLink own i x)) else match NM[w - 100000]? with
    | some q => decide (q.1 = own ∧ q.2.1 = i ∧ q.2.2.1 = x)
    | none => false
def inR32 (z : Int) : Bool := decide (-2147483648 ≤ z ∧ z ≤ 2147483647)
def okA (own : String) (pc nL : Nat) (lw : List Nat) (ins : Instr) (len : Nat) (an : tAn) : Bool := match ins with
  | .istore_n k => len == 1 && okW lw k
  | .astore_n k => len == 1 && okW lw k
  | .istore k => len == 2 && okW lw k
  | .astore k => len == 2 && okW lw k
  | .iinc k _ => len == 3 && okW lw k
  | .aload _ => len == 2
  | .iload _ => len == 2
  | .lload _ => len == 2
  | .bipush n => len == 2 && decide ((Int8.ofInt n).toInt32 = iI n)
  | .sipush n => len == 3 && decide ((Int16.ofInt n).toInt32 = iI n)
  | .lconst n => len == 1 && decide (Int64.ofNat (n : Nat) = jJ ((n : Nat) : Int))
  | .ldc i => len == 2 && (if an.1 = 0 then decide (wat an.2.2.2 = some (.constant own i (iI an.2.2.1))) else decide (130 ≤ an.2.1 ∧ an.2.1 < 136) && SR.contains (own, i, an.2.1 - 130))
  | .ldc_w i => len == 3 && decide (wat an.2.2.2 = some (.constant own i (iI an.2.2.1)))
  | .ldc2_w i => len == 3 && decide (wat an.2.2.2 = some (.constantLong own i (jJ an.2.2.1)))
  | .goto off => len == 3 && decide ((pc : Int) + off = (an.1 : Int))
  | .ifCond _ off => len == 3 && decide ((pc : Int) + off = (an.1 : Int))
  | .if_icmp _ off => len == 3 && decide ((pc : Int) + off = (an.1 : Int))
  | .tableswitch dflt lo hi offs => decide (hi - lo + 1 = (offs.toList.length : Int)) && decide (0 ≤ (pc : Int) + dflt) && offs.toList.all (fun o => decide (0 ≤ (pc : Int) + o)) && inR32 lo && inR32 hi
  | .lookupswitch dflt ps => (ps.toList.zip (ps.toList.drop 1)).all (fun (a, next) => a.1 < next.1) && decide (0 ≤ (pc : Int) + dflt) && ps.toList.all (fun o => decide (0 ≤ (pc : Int) + o.2) && inR32 o.1)
  | .getfield i => len == 3 && (match classes[an.1]? with
    | some q => decide (an.2.1 < q.2.2) && okF own i an.2.2.2 (q.2.1 an.2.1)
    | none => false)
  | .putfield i => len == 3 && (match classes[an.1]? with
    | some q => decide (an.2.1 < q.2.2) && okF own i an.2.2.2 (q.2.1 an.2.1) && !(q.2.1 an.2.1).2.2.2 && (rfK.getD an.1 []).getD an.2.1 true == false && decide (parseFieldDescriptor (q.2.1 an.2.1).2.2.1 = some (if an.2.2.1 = 0 then .int else .boolean))
    | none => false)
  | .getstatic i => len == 3 && an.1 == 120 && okF own i an.2.2.2 ("TubesOfCourt", "KIND_ABOVE", "[I", true)
  | .invokevirtual i => len == 3 && (match mif an.1 with
    | some e => okL own i an.2.2.2 e.2.2.1 && decide ((parseMethodDescriptor e.2.2.1.desc).map (fun d => d.parameters.length) = some an.2.1) && (if an.1 < 300 then (match classes[an.2.2.1.toNat]? with
        | some q => decide (q.1 = e.2.2.1.cls) && ((mpl.getD an.1 []).length == 4)
        | none => false) else an.2.2.1.toNat == 90)
    | none => false)
  | .invokestatic i => len == 3 && (if an.2.2.1 = 1 then decide (wat an.2.2.2 = some (.methodLink own i arraycopyName)) else if an.2.2.1 = 2 then decide (wat an.2.2.2 = some (.methodLink own i Lib.Math.max.name)) else if an.2.2.1 = 3 then decide (wat an.2.2.2 = some (.methodLink own i Lib.Math.min.name)) else (match mif an.1 with
    | some e => okL own i an.2.2.2 e.2.2.1 && decide ((parseMethodDescriptor e.2.2.1.desc).map (fun d => d.parameters.length) = some an.2.1) && ((mpl.getD an.1 []).length == 3) && decide (an.1 < 300)
    | none => false))
  | _ => len == 1
def okI (own : String) (cc : ByteArray) (nL : Nat) (lw : List Nat) (e : Nat × Instr × Nat × tAn) : Bool := decide (decode cc e.1 = .ok (e.2.1, e.2.2.1)) && okA own e.1 nL lw e.2.1 e.2.2.1 e.2.2.2


theorem acw : Cond.native arraycopyName ∈ WS ∧ Cond.static arraycopyName ∈ WS ∧ Cond.initialized "java/lang/System" ∈ WS := ⟨wat_mem (k := 257) (by decide +kernel), wat_mem (k := 258) (by decide +kernel), wat_mem (k := 259) (by decide +kernel)⟩
theorem mxw : Cond.static Lib.Math.max.name ∈ WS ∧ Cond.initialized "java/lang/Math" ∈ WS ∧ Cond.code Lib.Math.max.name Lib.Math.max.code 2 (some .int) ∈ WS := ⟨wat_mem (k := 668) (by decide +kernel), wat_mem (k := 492) (by decide +kernel), wat_mem (k := 669) (by decide +kernel)⟩
theorem mnw : Cond.static Lib.Math.min.name ∈ WS ∧ Cond.initialized "java/lang/Math" ∈ WS ∧ Cond.code Lib.Math.min.name Lib.Math.min.code 2 (some .int) ∈ WS := ⟨wat_mem (k := 491) (by decide +kernel), wat_mem (k := 492) (by decide +kernel), wat_mem (k := 493) (by decide +kernel)⟩

