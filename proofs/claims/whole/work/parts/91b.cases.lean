/-! the law's cases -/
theorem w_15 {V : mj_V} {b L i : Nat} {xs : Nat → Int32} (hV : vV V) (hs : V.2.2 b = some (L, xs)) (hb : b < V.1) (hL : L ≤ 3072) (hi : i + 6 ≤ L) : Wst V b i 15 := by
  intro I J ks sl hI
  obtain ⟨v, I1, J1, ks1, sl1, I2, J2, e1, e2, hI2⟩ := s_told V (xs (i + 1)) (xs (i + 2)) I J ks sl hI
  obtain ⟨x, rfl⟩ := ev_int m55 rfl e1
  refine ⟨I2, J2, ks1, sl1, ?_, hI2⟩
  simp only [r218_33c15, r218_825, r218_826, r218_827, r218_828, r218_829, r218_830, r218_831, r218_832, r218_833, r218_834, r218_835, r218_836, r218_839, r218_840, r218_841, r218_842, r218_843, r218_844, r218_845, r218_846, r218_847, r218_848, r218_849, r218_850, r218_853, r218_856, r218_857, Option.bind_some, Option.toList_some, Option.toList_none, List.cons_append, List.nil_append, mj_rfs, mj_rfn, if_true, if_false, not_true_eq_false, not_false_eq_true, true_or, or_true, mj_b_0, mj_b_1, mj_b_01, Decidable.not_not, and_self, and_true, true_and, and_false, false_and, or_false, false_or, or_self, c0_cls, m51_cls, show nI i + 1 = nI (i + 1) from nI_add i 1, sc_l hs hb hL (show i + 1 < L by omega), show nI i + 2 = nI (i + 2) from nI_add i 2, sc_l hs hb hL (show i + 2 < L by omega), e1, e2, eq_self, lgc_self]
theorem w_16 {V : mj_V} {b L i : Nat} {xs : Nat → Int32} (hV : vV V) (hs : V.2.2 b = some (L, xs)) (hb : b < V.1) (hL : L ≤ 3072) (hi : i + 6 ≤ L) : Wst V b i 16 := by
  intro I J ks sl hI
  obtain ⟨v, I1, J1, ks1, sl1, I2, J2, e1, e2, hI2⟩ := s_mark V (xs (i + 1)) (xs (i + 2)) I J ks sl hI
  obtain ⟨x, rfl⟩ := ev_int m56 rfl e1
  refine ⟨I2, J2, ks1, sl1, ?_, hI2⟩
  simp only [r218_33c16, r218_858, r218_859, r218_860, r218_861, r218_862, r218_863, r218_864, r218_865, r218_866, r218_867, r218_868, r218_869, r218_872, r218_873, r218_874, r218_875, r218_876, r218_877, r218_878, r218_879, r218_880, r218_881, r218_882, r218_883, r218_886, r218_889, r218_890, Option.bind_some, Option.toList_some, Option.toList_none, List.cons_append, List.nil_append, mj_rfs, mj_rfn, if_true, if_false, not_true_eq_false, not_false_eq_true, true_or, or_true, mj_b_0, mj_b_1, mj_b_01, Decidable.not_not, and_self, and_true, true_and, and_false, false_and, or_false, false_or, or_self, c0_cls, m51_cls, show nI i + 1 = nI (i + 1) from nI_add i 1, sc_l hs hb hL (show i + 1 < L by omega), show nI i + 2 = nI (i + 2) from nI_add i 2, sc_l hs hb hL (show i + 2 < L by omega), e1, e2, eq_self, lgc_self]
theorem w_17 {V : mj_V} {b L i : Nat} {xs : Nat → Int32} (hV : vV V) (hs : V.2.2 b = some (L, xs)) (hb : b < V.1) (hL : L ≤ 3072) (hi : i + 6 ≤ L) : Wst V b i 17 := by
  intro I J ks sl hI
  obtain ⟨v, I1, J1, ks1, sl1, I2, J2, e1, e2, hI2⟩ := s_good V hV (xs (i + 1)) (xs (i + 2)) I J ks sl hI
  obtain ⟨x, rfl⟩ := ev_int m57 rfl e1
  refine ⟨I2, J2, ks1, sl1, ?_, hI2⟩
  simp only [r218_33c17, r218_891, r218_892, r218_893, r218_894, r218_895, r218_896, r218_897, r218_898, r218_899, r218_900, r218_901, r218_902, r218_905, r218_906, r218_907, r218_908, r218_909, r218_910, r218_911, r218_912, r218_913, r218_914, r218_915, r218_916, r218_919, r218_922, r218_923, Option.bind_some, Option.toList_some, Option.toList_none, List.cons_append, List.nil_append, mj_rfs, mj_rfn, if_true, if_false, not_true_eq_false, not_false_eq_true, true_or, or_true, mj_b_0, mj_b_1, mj_b_01, Decidable.not_not, and_self, and_true, true_and, and_false, false_and, or_false, false_or, or_self, c0_cls, m51_cls, show nI i + 1 = nI (i + 1) from nI_add i 1, sc_l hs hb hL (show i + 1 < L by omega), show nI i + 2 = nI (i + 2) from nI_add i 2, sc_l hs hb hL (show i + 2 < L by omega), e1, e2, eq_self, lgc_self]
theorem w_18 {V : mj_V} {b L i : Nat} {xs : Nat → Int32} (hV : vV V) (hs : V.2.2 b = some (L, xs)) (hb : b < V.1) (hL : L ≤ 3072) (hi : i + 6 ≤ L) : Wst V b i 18 := by
  intro I J ks sl hI
  obtain ⟨v, I1, J1, ks1, sl1, I2, J2, e1, e2, hI2⟩ := s_sumOf V (xs (i + 1)) (xs (i + 2)) I J ks sl hI
  obtain ⟨x, rfl⟩ := ev_int m58 rfl e1
  refine ⟨I2, J2, ks1, sl1, ?_, hI2⟩
  simp only [r218_33c18, r218_924, r218_925, r218_926, r218_927, r218_928, r218_929, r218_930, r218_931, r218_932, r218_933, r218_934, r218_935, r218_938, r218_939, r218_940, r218_941, r218_942, r218_943, r218_944, r218_945, r218_946, r218_947, r218_948, r218_949, r218_952, r218_955, r218_956, Option.bind_some, Option.toList_some, Option.toList_none, List.cons_append, List.nil_append, mj_rfs, mj_rfn, if_true, if_false, not_true_eq_false, not_false_eq_true, true_or, or_true, mj_b_0, mj_b_1, mj_b_01, Decidable.not_not, and_self, and_true, true_and, and_false, false_and, or_false, false_or, or_self, c0_cls, m51_cls, show nI i + 1 = nI (i + 1) from nI_add i 1, sc_l hs hb hL (show i + 1 < L by omega), show nI i + 2 = nI (i + 2) from nI_add i 2, sc_l hs hb hL (show i + 2 < L by omega), e1, e2, eq_self, lgc_self]
theorem w_19 {V : mj_V} {b L i : Nat} {xs : Nat → Int32} (hV : vV V) (hs : V.2.2 b = some (L, xs)) (hb : b < V.1) (hL : L ≤ 3072) (hi : i + 6 ≤ L) : Wst V b i 19 := by
  intro I J ks sl hI
  obtain ⟨v, I1, J1, ks1, sl1, I2, J2, e1, e2, hI2⟩ := s_chain V hV (xs (i + 1)) I J ks sl hI
  obtain ⟨x, rfl⟩ := ev_int m59 rfl e1
  refine ⟨I2, J2, ks1, sl1, ?_, hI2⟩
  simp only [r218_33c19, r218_957, r218_958, r218_959, r218_960, r218_961, r218_962, r218_963, r218_966, r218_967, r218_968, r218_969, r218_970, r218_971, r218_972, r218_975, r218_978, r218_979, Option.bind_some, Option.toList_some, Option.toList_none, List.cons_append, List.nil_append, mj_rfs, mj_rfn, if_true, if_false, not_true_eq_false, not_false_eq_true, true_or, or_true, mj_b_0, mj_b_1, mj_b_01, Decidable.not_not, and_self, and_true, true_and, and_false, false_and, or_false, false_or, or_self, c0_cls, m51_cls, show nI i + 1 = nI (i + 1) from nI_add i 1, sc_l hs hb hL (show i + 1 < L by omega), e1, e2, eq_self, lgc_self]
theorem w_20 {V : mj_V} {b L i : Nat} {xs : Nat → Int32} (hV : vV V) (hs : V.2.2 b = some (L, xs)) (hb : b < V.1) (hL : L ≤ 3072) (hi : i + 6 ≤ L) : Wst V b i 20 := by
  intro I J ks sl hI
  obtain ⟨v, I1, J1, ks1, sl1, I2, J2, e1, e2, hI2⟩ := s_fault V (xs (i + 1)) I J ks sl hI
  obtain ⟨x, rfl⟩ := ev_int m60 rfl e1
  refine ⟨I2, J2, ks1, sl1, ?_, hI2⟩
  simp only [r218_33c20, r218_980, r218_981, r218_982, r218_983, r218_984, r218_985, r218_986, r218_989, r218_990, r218_991, r218_992, r218_993, r218_994, r218_995, r218_998, r218_1001, r218_1002, Option.bind_some, Option.toList_some, Option.toList_none, List.cons_append, List.nil_append, mj_rfs, mj_rfn, if_true, if_false, not_true_eq_false, not_false_eq_true, true_or, or_true, mj_b_0, mj_b_1, mj_b_01, Decidable.not_not, and_self, and_true, true_and, and_false, false_and, or_false, false_or, or_self, c0_cls, m51_cls, show nI i + 1 = nI (i + 1) from nI_add i 1, sc_l hs hb hL (show i + 1 < L by omega), e1, e2, eq_self, lgc_self]
theorem w_21 {V : mj_V} {b L i : Nat} {xs : Nat → Int32} (hV : vV V) (hs : V.2.2 b = some (L, xs)) (hb : b < V.1) (hL : L ≤ 3072) (hi : i + 6 ≤ L) : Wst V b i 21 := by
  intro I J ks sl hI
  obtain ⟨v, I1, J1, ks1, sl1, I2, J2, e1, e2, hI2⟩ := s_machine V (xs (i + 1)) (xs (i + 2)) (xs (i + 3)) I J ks sl hI
  obtain ⟨x, rfl⟩ := ev_int m61 rfl e1
  refine ⟨I2, J2, ks1, sl1, ?_, hI2⟩
  simp only [r218_33c21, r218_1003, r218_1004, r218_1005, r218_1006, r218_1007, r218_1008, r218_1009, r218_1010, r218_1011, r218_1012, r218_1013, r218_1014, r218_1015, r218_1016, r218_1017, r218_1018, r218_1019, r218_1022, r218_1023, r218_1024, r218_1025, r218_1026, r218_1027, r218_1028, r218_1029, r218_1030, r218_1031, r218_1032, r218_1033, r218_1034, r218_1035, r218_1036, r218_1037, r218_1038, r218_1041, r218_1044, r218_1045, Option.bind_some, Option.toList_some, Option.toList_none, List.cons_append, List.nil_append, mj_rfs, mj_rfn, if_true, if_false, not_true_eq_false, not_false_eq_true, true_or, or_true, mj_b_0, mj_b_1, mj_b_01, Decidable.not_not, and_self, and_true, true_and, and_false, false_and, or_false, false_or, or_self, c0_cls, m51_cls, show nI i + 1 = nI (i + 1) from nI_add i 1, sc_l hs hb hL (show i + 1 < L by omega), show nI i + 2 = nI (i + 2) from nI_add i 2, sc_l hs hb hL (show i + 2 < L by omega), show nI i + 3 = nI (i + 3) from nI_add i 3, sc_l hs hb hL (show i + 3 < L by omega), e1, e2, eq_self, lgc_self]
theorem w_22 {V : mj_V} {b L i : Nat} {xs : Nat → Int32} (hV : vV V) (hs : V.2.2 b = some (L, xs)) (hb : b < V.1) (hL : L ≤ 3072) (hi : i + 6 ≤ L) : Wst V b i 22 := by
  intro I J ks sl hI
  obtain ⟨v, I1, J1, ks1, sl1, I2, J2, e1, e2, hI2⟩ := s_ask V hV (xs (i + 1)) (xs (i + 2)) I J ks sl hI
  obtain ⟨x, rfl⟩ := ev_int m62 rfl e1
  refine ⟨I2, J2, ks1, sl1, ?_, hI2⟩
  simp only [r218_33c22, r218_1046, r218_1047, r218_1048, r218_1049, r218_1050, r218_1051, r218_1052, r218_1053, r218_1054, r218_1055, r218_1056, r218_1057, r218_1060, r218_1061, r218_1062, r218_1063, r218_1064, r218_1065, r218_1066, r218_1067, r218_1068, r218_1069, r218_1070, r218_1071, r218_1074, r218_1077, r218_1078, Option.bind_some, Option.toList_some, Option.toList_none, List.cons_append, List.nil_append, mj_rfs, mj_rfn, if_true, if_false, not_true_eq_false, not_false_eq_true, true_or, or_true, mj_b_0, mj_b_1, mj_b_01, Decidable.not_not, and_self, and_true, true_and, and_false, false_and, or_false, false_or, or_self, c0_cls, m51_cls, show nI i + 1 = nI (i + 1) from nI_add i 1, sc_l hs hb hL (show i + 1 < L by omega), show nI i + 2 = nI (i + 2) from nI_add i 2, sc_l hs hb hL (show i + 2 < L by omega), e1, e2, eq_self, lgc_self]
theorem w_23 {V : mj_V} {b L i : Nat} {xs : Nat → Int32} (hV : vV V) (hs : V.2.2 b = some (L, xs)) (hb : b < V.1) (hL : L ≤ 3072) (hi : i + 6 ≤ L) : Wst V b i 23 := by
  intro I J ks sl hI
  obtain ⟨v, I1, J1, ks1, sl1, I2, J2, e1, e2, hI2⟩ := s_offer V (xs (i + 1)) (xs (i + 2)) (xs (i + 3)) I J ks sl hI
  obtain ⟨x, rfl⟩ := ev_int m63 rfl e1
  refine ⟨I2, J2, ks1, sl1, ?_, hI2⟩
  simp only [r218_33c23, r218_1079, r218_1080, r218_1081, r218_1082, r218_1083, r218_1084, r218_1085, r218_1086, r218_1087, r218_1088, r218_1089, r218_1090, r218_1091, r218_1092, r218_1093, r218_1094, r218_1095, r218_1098, r218_1099, r218_1100, r218_1101, r218_1102, r218_1103, r218_1104, r218_1105, r218_1106, r218_1107, r218_1108, r218_1109, r218_1110, r218_1111, r218_1112, r218_1113, r218_1114, r218_1117, r218_1120, r218_1121, Option.bind_some, Option.toList_some, Option.toList_none, List.cons_append, List.nil_append, mj_rfs, mj_rfn, if_true, if_false, not_true_eq_false, not_false_eq_true, true_or, or_true, mj_b_0, mj_b_1, mj_b_01, Decidable.not_not, and_self, and_true, true_and, and_false, false_and, or_false, false_or, or_self, c0_cls, m51_cls, show nI i + 1 = nI (i + 1) from nI_add i 1, sc_l hs hb hL (show i + 1 < L by omega), show nI i + 2 = nI (i + 2) from nI_add i 2, sc_l hs hb hL (show i + 2 < L by omega), show nI i + 3 = nI (i + 3) from nI_add i 3, sc_l hs hb hL (show i + 3 < L by omega), e1, e2, eq_self, lgc_self]
theorem w_24 {V : mj_V} {b L i : Nat} {xs : Nat → Int32} (hV : vV V) (hs : V.2.2 b = some (L, xs)) (hb : b < V.1) (hL : L ≤ 3072) (hi : i + 6 ≤ L) : Wst V b i 24 := by
  intro I J ks sl hI
  obtain ⟨v, I1, J1, ks1, sl1, I2, J2, e1, e2, hI2⟩ := s_runs V (xs (i + 1)) (xs (i + 2)) I J ks sl hI
  obtain ⟨x, rfl⟩ := ev_int m64 rfl e1
  refine ⟨I2, J2, ks1, sl1, ?_, hI2⟩
  simp only [r218_33c24, r218_1122, r218_1123, r218_1124, r218_1125, r218_1126, r218_1127, r218_1128, r218_1129, r218_1130, r218_1131, r218_1132, r218_1133, r218_1136, r218_1137, r218_1138, r218_1139, r218_1140, r218_1141, r218_1142, r218_1143, r218_1144, r218_1145, r218_1146, r218_1147, r218_1150, r218_1153, r218_1154, Option.bind_some, Option.toList_some, Option.toList_none, List.cons_append, List.nil_append, mj_rfs, mj_rfn, if_true, if_false, not_true_eq_false, not_false_eq_true, true_or, or_true, mj_b_0, mj_b_1, mj_b_01, Decidable.not_not, and_self, and_true, true_and, and_false, false_and, or_false, false_or, or_self, c0_cls, m51_cls, show nI i + 1 = nI (i + 1) from nI_add i 1, sc_l hs hb hL (show i + 1 < L by omega), show nI i + 2 = nI (i + 2) from nI_add i 2, sc_l hs hb hL (show i + 2 < L by omega), e1, e2, eq_self, lgc_self]
theorem w_25 {V : mj_V} {b L i : Nat} {xs : Nat → Int32} (hV : vV V) (hs : V.2.2 b = some (L, xs)) (hb : b < V.1) (hL : L ≤ 3072) (hi : i + 6 ≤ L) : Wst V b i 25 := by
  intro I J ks sl hI
  obtain ⟨v, I1, J1, ks1, sl1, I2, J2, e1, e2, hI2⟩ := s_took V (xs (i + 1)) (xs (i + 2)) I J ks sl hI
  obtain ⟨x, rfl⟩ := ev_int m65 rfl e1
  refine ⟨I2, J2, ks1, sl1, ?_, hI2⟩
  simp only [r218_33c25, r218_1155, r218_1156, r218_1157, r218_1158, r218_1159, r218_1160, r218_1161, r218_1162, r218_1163, r218_1164, r218_1165, r218_1166, r218_1169, r218_1170, r218_1171, r218_1172, r218_1173, r218_1174, r218_1175, r218_1176, r218_1177, r218_1178, r218_1179, r218_1180, r218_1183, r218_1186, r218_1187, Option.bind_some, Option.toList_some, Option.toList_none, List.cons_append, List.nil_append, mj_rfs, mj_rfn, if_true, if_false, not_true_eq_false, not_false_eq_true, true_or, or_true, mj_b_0, mj_b_1, mj_b_01, Decidable.not_not, and_self, and_true, true_and, and_false, false_and, or_false, false_or, or_self, c0_cls, m51_cls, show nI i + 1 = nI (i + 1) from nI_add i 1, sc_l hs hb hL (show i + 1 < L by omega), show nI i + 2 = nI (i + 2) from nI_add i 2, sc_l hs hb hL (show i + 2 < L by omega), e1, e2, eq_self, lgc_self]
theorem w_26 {V : mj_V} {b L i : Nat} {xs : Nat → Int32} (hV : vV V) (hs : V.2.2 b = some (L, xs)) (hb : b < V.1) (hL : L ≤ 3072) (hi : i + 6 ≤ L) : Wst V b i 26 := by
  intro I J ks sl hI
  obtain ⟨v, I1, J1, ks1, sl1, I2, J2, e1, e2, hI2⟩ := s_walk V hV (xs (i + 1)) I J ks sl hI
  obtain ⟨x, rfl⟩ := ev_int m66 rfl e1
  refine ⟨I2, J2, ks1, sl1, ?_, hI2⟩
  simp only [r218_33c26, r218_1188, r218_1189, r218_1190, r218_1191, r218_1192, r218_1193, r218_1194, r218_1197, r218_1198, r218_1199, r218_1200, r218_1201, r218_1202, r218_1203, r218_1206, r218_1209, r218_1210, Option.bind_some, Option.toList_some, Option.toList_none, List.cons_append, List.nil_append, mj_rfs, mj_rfn, if_true, if_false, not_true_eq_false, not_false_eq_true, true_or, or_true, mj_b_0, mj_b_1, mj_b_01, Decidable.not_not, and_self, and_true, true_and, and_false, false_and, or_false, false_or, or_self, c0_cls, m51_cls, show nI i + 1 = nI (i + 1) from nI_add i 1, sc_l hs hb hL (show i + 1 < L by omega), e1, e2, eq_self, lgc_self]
theorem w_27 {V : mj_V} {b L i : Nat} {xs : Nat → Int32} (hV : vV V) (hs : V.2.2 b = some (L, xs)) (hb : b < V.1) (hL : L ≤ 3072) (hi : i + 6 ≤ L) : Wst V b i 27 := by
  intro I J ks sl hI
  obtain ⟨v, I1, J1, ks1, sl1, I2, J2, e1, e2, hI2⟩ := s_whoHas V (xs (i + 1)) I J ks sl hI
  obtain ⟨x, rfl⟩ := ev_int m67 rfl e1
  refine ⟨I2, J2, ks1, sl1, ?_, hI2⟩
  simp only [r218_33c27, r218_1211, r218_1212, r218_1213, r218_1214, r218_1215, r218_1216, r218_1217, r218_1220, r218_1221, r218_1222, r218_1223, r218_1224, r218_1225, r218_1226, r218_1229, r218_1232, r218_1233, Option.bind_some, Option.toList_some, Option.toList_none, List.cons_append, List.nil_append, mj_rfs, mj_rfn, if_true, if_false, not_true_eq_false, not_false_eq_true, true_or, or_true, mj_b_0, mj_b_1, mj_b_01, Decidable.not_not, and_self, and_true, true_and, and_false, false_and, or_false, false_or, or_self, c0_cls, m51_cls, show nI i + 1 = nI (i + 1) from nI_add i 1, sc_l hs hb hL (show i + 1 < L by omega), e1, e2, eq_self, lgc_self]
theorem w_28 {V : mj_V} {b L i : Nat} {xs : Nat → Int32} (hV : vV V) (hs : V.2.2 b = some (L, xs)) (hb : b < V.1) (hL : L ≤ 3072) (hi : i + 6 ≤ L) : Wst V b i 28 := by
  intro I J ks sl hI
  obtain ⟨v, I1, J1, ks1, sl1, I2, J2, e1, e2, hI2⟩ := s_reached V hV (xs (i + 1)) I J ks sl hI
  obtain ⟨x, rfl⟩ := ev_int m68 rfl e1
  refine ⟨I2, J2, ks1, sl1, ?_, hI2⟩
  simp only [r218_33c28, r218_1234, r218_1235, r218_1236, r218_1237, r218_1238, r218_1239, r218_1240, r218_1243, r218_1244, r218_1245, r218_1246, r218_1247, r218_1248, r218_1249, r218_1252, r218_1255, r218_1256, Option.bind_some, Option.toList_some, Option.toList_none, List.cons_append, List.nil_append, mj_rfs, mj_rfn, if_true, if_false, not_true_eq_false, not_false_eq_true, true_or, or_true, mj_b_0, mj_b_1, mj_b_01, Decidable.not_not, and_self, and_true, true_and, and_false, false_and, or_false, false_or, or_self, c0_cls, m51_cls, show nI i + 1 = nI (i + 1) from nI_add i 1, sc_l hs hb hL (show i + 1 < L by omega), e1, e2, eq_self, lgc_self]
theorem w_29 {V : mj_V} {b L i : Nat} {xs : Nat → Int32} (hV : vV V) (hs : V.2.2 b = some (L, xs)) (hb : b < V.1) (hL : L ≤ 3072) (hi : i + 6 ≤ L) : Wst V b i 29 := by
  intro I J ks sl hI
  obtain ⟨v, I1, J1, ks1, sl1, I2, J2, e1, e2, hI2⟩ := s_refused V (xs (i + 1)) (xs (i + 2)) I J ks sl hI
  obtain ⟨x, rfl⟩ := ev_int m69 rfl e1
  refine ⟨I2, J2, ks1, sl1, ?_, hI2⟩
  simp only [r218_33c29, r218_1257, r218_1258, r218_1259, r218_1260, r218_1261, r218_1262, r218_1263, r218_1264, r218_1265, r218_1266, r218_1267, r218_1268, r218_1271, r218_1272, r218_1273, r218_1274, r218_1275, r218_1276, r218_1277, r218_1278, r218_1279, r218_1280, r218_1281, r218_1282, r218_1285, r218_1288, r218_1289, Option.bind_some, Option.toList_some, Option.toList_none, List.cons_append, List.nil_append, mj_rfs, mj_rfn, if_true, if_false, not_true_eq_false, not_false_eq_true, true_or, or_true, mj_b_0, mj_b_1, mj_b_01, Decidable.not_not, and_self, and_true, true_and, and_false, false_and, or_false, false_or, or_self, c0_cls, m51_cls, show nI i + 1 = nI (i + 1) from nI_add i 1, sc_l hs hb hL (show i + 1 < L by omega), show nI i + 2 = nI (i + 2) from nI_add i 2, sc_l hs hb hL (show i + 2 < L by omega), e1, e2, eq_self, lgc_self]
