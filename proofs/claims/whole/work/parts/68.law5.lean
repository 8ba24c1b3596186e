theorem dL_law_1013 : decode cL_law 1013 = .ok (.aload_n 1, 1) := by decide +kernel
theorem dL_law_1014 : decode cL_law 1014 = .ok (.aload_n 0, 1) := by decide +kernel
theorem dL_law_1015 : decode cL_law 1015 = .ok (.iload_n 3, 1) := by decide +kernel
theorem dL_law_1016 : decode cL_law 1016 = .ok (.iconst 1, 1) := by decide +kernel
theorem dL_law_1017 : decode cL_law 1017 = .ok (.iadd, 1) := by decide +kernel
theorem dL_law_1018 : decode cL_law 1018 = .ok (.iaload, 1) := by decide +kernel
theorem dL_law_1019 : decode cL_law 1019 = .ok (.aload_n 0, 1) := by decide +kernel
theorem dL_law_1020 : decode cL_law 1020 = .ok (.iload_n 3, 1) := by decide +kernel
theorem dL_law_1021 : decode cL_law 1021 = .ok (.iconst 2, 1) := by decide +kernel
theorem dL_law_1022 : decode cL_law 1022 = .ok (.iadd, 1) := by decide +kernel
theorem dL_law_1023 : decode cL_law 1023 = .ok (.iaload, 1) := by decide +kernel
theorem dL_law_1024 : decode cL_law 1024 = .ok (.invokevirtual 147, 3) := by decide +kernel
theorem dL_law_1027 : decode cL_law 1027 = .ok (.aload_n 2, 1) := by decide +kernel
theorem dL_law_1028 : decode cL_law 1028 = .ok (.aload_n 0, 1) := by decide +kernel
theorem dL_law_1029 : decode cL_law 1029 = .ok (.iload_n 3, 1) := by decide +kernel
theorem dL_law_1030 : decode cL_law 1030 = .ok (.iconst 1, 1) := by decide +kernel
theorem dL_law_1031 : decode cL_law 1031 = .ok (.iadd, 1) := by decide +kernel
theorem dL_law_1032 : decode cL_law 1032 = .ok (.iaload, 1) := by decide +kernel
theorem dL_law_1033 : decode cL_law 1033 = .ok (.aload_n 0, 1) := by decide +kernel
theorem dL_law_1034 : decode cL_law 1034 = .ok (.iload_n 3, 1) := by decide +kernel
theorem dL_law_1035 : decode cL_law 1035 = .ok (.iconst 2, 1) := by decide +kernel
theorem dL_law_1036 : decode cL_law 1036 = .ok (.iadd, 1) := by decide +kernel
theorem dL_law_1037 : decode cL_law 1037 = .ok (.iaload, 1) := by decide +kernel
theorem dL_law_1038 : decode cL_law 1038 = .ok (.invokevirtual 150, 3) := by decide +kernel
theorem dL_law_1041 : decode cL_law 1041 = .ok (.lcmp, 1) := by decide +kernel
theorem dL_law_1042 : decode cL_law 1042 = .ok (.ifCond .eq 117, 3) := by decide +kernel
theorem dL_law_1045 : decode cL_law 1045 = .ok (.iconst 0, 1) := by decide +kernel
theorem dL_law_1046 : decode cL_law 1046 = .ok (.ireturn, 1) := by decide +kernel
theorem dL_law_1047 : decode cL_law 1047 = .ok (.aload_n 1, 1) := by decide +kernel
theorem dL_law_1048 : decode cL_law 1048 = .ok (.aload_n 0, 1) := by decide +kernel
theorem dL_law_1049 : decode cL_law 1049 = .ok (.iload_n 3, 1) := by decide +kernel
theorem dL_law_1050 : decode cL_law 1050 = .ok (.iconst 1, 1) := by decide +kernel
theorem dL_law_1051 : decode cL_law 1051 = .ok (.iadd, 1) := by decide +kernel
theorem dL_law_1052 : decode cL_law 1052 = .ok (.iaload, 1) := by decide +kernel
theorem dL_law_1053 : decode cL_law 1053 = .ok (.aload_n 0, 1) := by decide +kernel
theorem dL_law_1054 : decode cL_law 1054 = .ok (.iload_n 3, 1) := by decide +kernel
theorem dL_law_1055 : decode cL_law 1055 = .ok (.iconst 2, 1) := by decide +kernel
theorem dL_law_1056 : decode cL_law 1056 = .ok (.iadd, 1) := by decide +kernel
theorem dL_law_1057 : decode cL_law 1057 = .ok (.iaload, 1) := by decide +kernel
theorem dL_law_1058 : decode cL_law 1058 = .ok (.aload_n 0, 1) := by decide +kernel
theorem dL_law_1059 : decode cL_law 1059 = .ok (.iload_n 3, 1) := by decide +kernel
theorem dL_law_1060 : decode cL_law 1060 = .ok (.iconst 3, 1) := by decide +kernel
theorem dL_law_1061 : decode cL_law 1061 = .ok (.iadd, 1) := by decide +kernel
theorem dL_law_1062 : decode cL_law 1062 = .ok (.iaload, 1) := by decide +kernel
theorem dL_law_1063 : decode cL_law 1063 = .ok (.invokevirtual 151, 3) := by decide +kernel
theorem dL_law_1066 : decode cL_law 1066 = .ok (.aload_n 2, 1) := by decide +kernel
theorem dL_law_1067 : decode cL_law 1067 = .ok (.aload_n 0, 1) := by decide +kernel
theorem dL_law_1068 : decode cL_law 1068 = .ok (.iload_n 3, 1) := by decide +kernel
theorem dL_law_1069 : decode cL_law 1069 = .ok (.iconst 1, 1) := by decide +kernel
theorem dL_law_1070 : decode cL_law 1070 = .ok (.iadd, 1) := by decide +kernel
theorem dL_law_1071 : decode cL_law 1071 = .ok (.iaload, 1) := by decide +kernel
theorem dL_law_1072 : decode cL_law 1072 = .ok (.aload_n 0, 1) := by decide +kernel
theorem dL_law_1073 : decode cL_law 1073 = .ok (.iload_n 3, 1) := by decide +kernel
theorem dL_law_1074 : decode cL_law 1074 = .ok (.iconst 2, 1) := by decide +kernel
theorem dL_law_1075 : decode cL_law 1075 = .ok (.iadd, 1) := by decide +kernel
theorem dL_law_1076 : decode cL_law 1076 = .ok (.iaload, 1) := by decide +kernel
theorem dL_law_1077 : decode cL_law 1077 = .ok (.aload_n 0, 1) := by decide +kernel
theorem dL_law_1078 : decode cL_law 1078 = .ok (.iload_n 3, 1) := by decide +kernel
theorem dL_law_1079 : decode cL_law 1079 = .ok (.iconst 3, 1) := by decide +kernel
theorem dL_law_1080 : decode cL_law 1080 = .ok (.iadd, 1) := by decide +kernel
theorem dL_law_1081 : decode cL_law 1081 = .ok (.iaload, 1) := by decide +kernel
theorem dL_law_1082 : decode cL_law 1082 = .ok (.invokevirtual 154, 3) := by decide +kernel
theorem dL_law_1085 : decode cL_law 1085 = .ok (.if_icmp .eq 74, 3) := by decide +kernel
theorem dL_law_1088 : decode cL_law 1088 = .ok (.iconst 0, 1) := by decide +kernel
theorem dL_law_1089 : decode cL_law 1089 = .ok (.ireturn, 1) := by decide +kernel
theorem dL_law_1090 : decode cL_law 1090 = .ok (.aload_n 1, 1) := by decide +kernel
theorem dL_law_1091 : decode cL_law 1091 = .ok (.aload_n 0, 1) := by decide +kernel
theorem dL_law_1092 : decode cL_law 1092 = .ok (.iload_n 3, 1) := by decide +kernel
theorem dL_law_1093 : decode cL_law 1093 = .ok (.iconst 1, 1) := by decide +kernel
theorem dL_law_1094 : decode cL_law 1094 = .ok (.iadd, 1) := by decide +kernel
theorem dL_law_1095 : decode cL_law 1095 = .ok (.iaload, 1) := by decide +kernel
theorem dL_law_1096 : decode cL_law 1096 = .ok (.invokevirtual 155, 3) := by decide +kernel
theorem dL_law_1099 : decode cL_law 1099 = .ok (.aload_n 2, 1) := by decide +kernel
theorem dL_law_1100 : decode cL_law 1100 = .ok (.aload_n 0, 1) := by decide +kernel
theorem dL_law_1101 : decode cL_law 1101 = .ok (.iload_n 3, 1) := by decide +kernel
theorem dL_law_1102 : decode cL_law 1102 = .ok (.iconst 1, 1) := by decide +kernel
theorem dL_law_1103 : decode cL_law 1103 = .ok (.iadd, 1) := by decide +kernel
theorem dL_law_1104 : decode cL_law 1104 = .ok (.iaload, 1) := by decide +kernel
theorem dL_law_1105 : decode cL_law 1105 = .ok (.invokevirtual 158, 3) := by decide +kernel
theorem dL_law_1108 : decode cL_law 1108 = .ok (.if_icmp .eq 51, 3) := by decide +kernel
theorem dL_law_1111 : decode cL_law 1111 = .ok (.iconst 0, 1) := by decide +kernel
theorem dL_law_1112 : decode cL_law 1112 = .ok (.ireturn, 1) := by decide +kernel
theorem dL_law_1113 : decode cL_law 1113 = .ok (.aload_n 1, 1) := by decide +kernel
theorem dL_law_1114 : decode cL_law 1114 = .ok (.aload_n 0, 1) := by decide +kernel
theorem dL_law_1115 : decode cL_law 1115 = .ok (.iload_n 3, 1) := by decide +kernel
theorem dL_law_1116 : decode cL_law 1116 = .ok (.iconst 1, 1) := by decide +kernel
theorem dL_law_1117 : decode cL_law 1117 = .ok (.iadd, 1) := by decide +kernel
theorem dL_law_1118 : decode cL_law 1118 = .ok (.iaload, 1) := by decide +kernel
theorem dL_law_1119 : decode cL_law 1119 = .ok (.invokevirtual 159, 3) := by decide +kernel
theorem dL_law_1122 : decode cL_law 1122 = .ok (.aload_n 2, 1) := by decide +kernel
theorem dL_law_1123 : decode cL_law 1123 = .ok (.aload_n 0, 1) := by decide +kernel
theorem dL_law_1124 : decode cL_law 1124 = .ok (.iload_n 3, 1) := by decide +kernel
theorem dL_law_1125 : decode cL_law 1125 = .ok (.iconst 1, 1) := by decide +kernel
theorem dL_law_1126 : decode cL_law 1126 = .ok (.iadd, 1) := by decide +kernel
theorem dL_law_1127 : decode cL_law 1127 = .ok (.iaload, 1) := by decide +kernel
theorem dL_law_1128 : decode cL_law 1128 = .ok (.invokevirtual 162, 3) := by decide +kernel
theorem dL_law_1131 : decode cL_law 1131 = .ok (.if_icmp .eq 28, 3) := by decide +kernel
theorem dL_law_1134 : decode cL_law 1134 = .ok (.iconst 0, 1) := by decide +kernel
theorem dL_law_1135 : decode cL_law 1135 = .ok (.ireturn, 1) := by decide +kernel
theorem dL_law_1136 : decode cL_law 1136 = .ok (.aload_n 1, 1) := by decide +kernel
theorem dL_law_1137 : decode cL_law 1137 = .ok (.aload_n 0, 1) := by decide +kernel
theorem dL_law_1138 : decode cL_law 1138 = .ok (.iload_n 3, 1) := by decide +kernel
theorem dL_law_1139 : decode cL_law 1139 = .ok (.iconst 1, 1) := by decide +kernel
theorem dL_law_1140 : decode cL_law 1140 = .ok (.iadd, 1) := by decide +kernel
theorem dL_law_1141 : decode cL_law 1141 = .ok (.iaload, 1) := by decide +kernel
theorem dL_law_1142 : decode cL_law 1142 = .ok (.invokevirtual 163, 3) := by decide +kernel
theorem dL_law_1145 : decode cL_law 1145 = .ok (.aload_n 2, 1) := by decide +kernel
theorem dL_law_1146 : decode cL_law 1146 = .ok (.aload_n 0, 1) := by decide +kernel
theorem dL_law_1147 : decode cL_law 1147 = .ok (.iload_n 3, 1) := by decide +kernel
theorem dL_law_1148 : decode cL_law 1148 = .ok (.iconst 1, 1) := by decide +kernel
theorem dL_law_1149 : decode cL_law 1149 = .ok (.iadd, 1) := by decide +kernel
theorem dL_law_1150 : decode cL_law 1150 = .ok (.iaload, 1) := by decide +kernel
theorem dL_law_1151 : decode cL_law 1151 = .ok (.invokevirtual 166, 3) := by decide +kernel
theorem dL_law_1154 : decode cL_law 1154 = .ok (.if_icmp .eq 5, 3) := by decide +kernel
theorem dL_law_1157 : decode cL_law 1157 = .ok (.iconst 0, 1) := by decide +kernel
theorem dL_law_1158 : decode cL_law 1158 = .ok (.ireturn, 1) := by decide +kernel
theorem dL_law_1159 : decode cL_law 1159 = .ok (.iinc 3 5, 3) := by decide +kernel
theorem dL_law_1162 : decode cL_law 1162 = .ok (.goto (-1144), 3) := by decide +kernel
theorem dL_law_1165 : decode cL_law 1165 = .ok (.iconst 1, 1) := by decide +kernel
theorem dL_law_1166 : decode cL_law 1166 = .ok (.ireturn, 1) := by decide +kernel
section LAW4
variable {nm : String} {xl : Nat} {xs : Nat → Int32} {n i : Nat} {I S : Nat → Nat → Int32} {J T : Nat → Nat → Int64} {X : Nat → Option Nat} {Q : QT}
theorem lw_mean (hx : xl ≤ 320) (hi : i + 5 ≤ xl) (hG : GI n I J X) (k : ∀ I S J T, GI n I J X → Ev xl xs 7 169 (65 - n) ((65 - n) * 12) (mLn nm) 1159 [some (.ref 1004), some (.ref 0), some (.ref 33), some (.int (nI i))] [] n (sysH (ov I S) (ovJ J T) X) Q) : Ev xl xs 7 169 (65 - n) ((65 - n) * 12) (mLn nm) 1013 [some (.ref 1004), some (.ref 0), some (.ref 33), some (.int (nI i))] [] n (sysH (ov I S) (ovJ J T) X) Q := by
  have hn := GI_n hG
  obtain ⟨r, hB⟩ := st_mean (xl := xl) (xs := xs) (xs (nI i + 1).toNatClampNeg) (xs (nI i + 2).toNatClampNeg) hG
  refine ev_aload_n (q := 1014) dL_law_1013 rfl rfl ?_
  refine ev_aload_n (q := 1015) dL_law_1014 rfl rfl ?_
  refine ev_iload_n (q := 1016) dL_law_1015 rfl rfl ?_
  refine ev_iconst (q := 1017) (1) dL_law_1016 (by decide) rfl ?_
  refine ev_iadd (q := 1018) dL_law_1017 rfl ?_
  refine ev_sald (q := 1019) dL_law_1018 (sc_in (k := 1) (by omega) hx) rfl ?_
  refine ev_aload_n (q := 1020) dL_law_1019 rfl rfl ?_
  refine ev_iload_n (q := 1021) dL_law_1020 rfl rfl ?_
  refine ev_iconst (q := 1022) (2) dL_law_1021 (by decide) rfl ?_
  refine ev_iadd (q := 1023) dL_law_1022 rfl ?_
  refine ev_sald (q := 1024) dL_law_1023 (sc_in (k := 2) (by omega) hx) rfl ?_
  refine ev_callV2lX (q := 1027) dL_law_1024 ca_L_147 (hB _ _) rfl (lt_n hn (by decide)) rfl rfl (Nat.le_of_ble_eq_true rfl) (Nat.le_of_ble_eq_true rfl) (by decide) (by decide) rfl (fun I2 S J2 T hp_1024 => ?_)
  refine ev_aload_n (q := 1028) dL_law_1027 rfl rfl ?_
  refine ev_aload_n (q := 1029) dL_law_1028 rfl rfl ?_
  refine ev_iload_n (q := 1030) dL_law_1029 rfl rfl ?_
  refine ev_iconst (q := 1031) (1) dL_law_1030 (by decide) rfl ?_
  refine ev_iadd (q := 1032) dL_law_1031 rfl ?_
  refine ev_sald (q := 1033) dL_law_1032 (sc_in (k := 1) (by omega) hx) rfl ?_
  refine ev_aload_n (q := 1034) dL_law_1033 rfl rfl ?_
  refine ev_iload_n (q := 1035) dL_law_1034 rfl rfl ?_
  refine ev_iconst (q := 1036) (2) dL_law_1035 (by decide) rfl ?_
  refine ev_iadd (q := 1037) dL_law_1036 rfl ?_
  refine ev_sald (q := 1038) dL_law_1037 (sc_in (k := 2) (by omega) hx) rfl ?_
  refine ev_callV2lX (q := 1041) dL_law_1038 ca_L_150 (hp_1024 _ _) rfl (lt_n hn (by decide)) rfl rfl (Nat.le_of_ble_eq_true rfl) (Nat.le_of_ble_eq_true rfl) (by decide) (by decide) rfl (fun I2 S J2 T hp_1038 => ?_)
  refine ev_lcmp (q := 1042) dL_law_1041 rfl ?_
  rw [lg_self]
  refine ev_if_eq (q := 1045) 1159 dL_law_1042 (by decide) rfl (fun c_1042 => ?_) (fun c_1042 => ?_)
  · exact k _ _ _ _ hp_1038
  · exact absurd rfl c_1042
theorem lw_year (hx : xl ≤ 320) (hi : i + 5 ≤ xl) (hG : GI n I J X) (k : ∀ I S J T, GI n I J X → Ev xl xs 7 169 (65 - n) ((65 - n) * 12) (mLn nm) 1159 [some (.ref 1004), some (.ref 0), some (.ref 33), some (.int (nI i))] [] n (sysH (ov I S) (ovJ J T) X) Q) : Ev xl xs 7 169 (65 - n) ((65 - n) * 12) (mLn nm) 1047 [some (.ref 1004), some (.ref 0), some (.ref 33), some (.int (nI i))] [] n (sysH (ov I S) (ovJ J T) X) Q := by
  have hn := GI_n hG
  obtain ⟨r, hB⟩ := st_year (xl := xl) (xs := xs) (xs (nI i + 1).toNatClampNeg) (xs (nI i + 2).toNatClampNeg) (xs (nI i + 3).toNatClampNeg) hG
  refine ev_aload_n (q := 1048) dL_law_1047 rfl rfl ?_
  refine ev_aload_n (q := 1049) dL_law_1048 rfl rfl ?_
  refine ev_iload_n (q := 1050) dL_law_1049 rfl rfl ?_
  refine ev_iconst (q := 1051) (1) dL_law_1050 (by decide) rfl ?_
  refine ev_iadd (q := 1052) dL_law_1051 rfl ?_
  refine ev_sald (q := 1053) dL_law_1052 (sc_in (k := 1) (by omega) hx) rfl ?_
  refine ev_aload_n (q := 1054) dL_law_1053 rfl rfl ?_
  refine ev_iload_n (q := 1055) dL_law_1054 rfl rfl ?_
  refine ev_iconst (q := 1056) (2) dL_law_1055 (by decide) rfl ?_
  refine ev_iadd (q := 1057) dL_law_1056 rfl ?_
  refine ev_sald (q := 1058) dL_law_1057 (sc_in (k := 2) (by omega) hx) rfl ?_
  refine ev_aload_n (q := 1059) dL_law_1058 rfl rfl ?_
  refine ev_iload_n (q := 1060) dL_law_1059 rfl rfl ?_
  refine ev_iconst (q := 1061) (3) dL_law_1060 (by decide) rfl ?_
  refine ev_iadd (q := 1062) dL_law_1061 rfl ?_
  refine ev_sald (q := 1063) dL_law_1062 (sc_in (k := 3) (by omega) hx) rfl ?_
  refine ev_callV3iX (q := 1066) dL_law_1063 ca_L_151 (hB _ _) rfl (lt_n hn (by decide)) rfl rfl (Nat.le_of_ble_eq_true rfl) (Nat.le_of_ble_eq_true rfl) (by decide) (by decide) rfl (fun I2 S J2 T hp_1063 => ?_)
  refine ev_aload_n (q := 1067) dL_law_1066 rfl rfl ?_
  refine ev_aload_n (q := 1068) dL_law_1067 rfl rfl ?_
  refine ev_iload_n (q := 1069) dL_law_1068 rfl rfl ?_
  refine ev_iconst (q := 1070) (1) dL_law_1069 (by decide) rfl ?_
  refine ev_iadd (q := 1071) dL_law_1070 rfl ?_
  refine ev_sald (q := 1072) dL_law_1071 (sc_in (k := 1) (by omega) hx) rfl ?_
  refine ev_aload_n (q := 1073) dL_law_1072 rfl rfl ?_
  refine ev_iload_n (q := 1074) dL_law_1073 rfl rfl ?_
  refine ev_iconst (q := 1075) (2) dL_law_1074 (by decide) rfl ?_
  refine ev_iadd (q := 1076) dL_law_1075 rfl ?_
  refine ev_sald (q := 1077) dL_law_1076 (sc_in (k := 2) (by omega) hx) rfl ?_
  refine ev_aload_n (q := 1078) dL_law_1077 rfl rfl ?_
  refine ev_iload_n (q := 1079) dL_law_1078 rfl rfl ?_
  refine ev_iconst (q := 1080) (3) dL_law_1079 (by decide) rfl ?_
  refine ev_iadd (q := 1081) dL_law_1080 rfl ?_
  refine ev_sald (q := 1082) dL_law_1081 (sc_in (k := 3) (by omega) hx) rfl ?_
  refine ev_callV3iX (q := 1085) dL_law_1082 ca_L_154 (hp_1063 _ _) rfl (lt_n hn (by decide)) rfl rfl (Nat.le_of_ble_eq_true rfl) (Nat.le_of_ble_eq_true rfl) (by decide) (by decide) rfl (fun I2 S J2 T hp_1082 => ?_)
  refine ev_icmp_eq (q := 1088) 1159 dL_law_1085 (by decide) rfl (fun c_1085 => ?_) (fun c_1085 => ?_)
  · exact k _ _ _ _ hp_1082
  · exact absurd rfl c_1085
theorem lw_image (hx : xl ≤ 320) (hi : i + 5 ≤ xl) (hG : GI n I J X) (k : ∀ n I S J T X, GI n I J X → Ev xl xs 7 169 (65 - n) ((65 - n) * 12) (mLn nm) 1159 [some (.ref 1004), some (.ref 0), some (.ref 33), some (.int (nI i))] [] n (sysH (ov I S) (ovJ J T) X) Q) : Ev xl xs 7 169 (65 - n) ((65 - n) * 12) (mLn nm) 1090 [some (.ref 1004), some (.ref 0), some (.ref 33), some (.int (nI i))] [] n (sysH (ov I S) (ovJ J T) X) Q := by
  have hn := GI_n hG
  cases hv : inb (xs (nI i + 1).toNatClampNeg) 0 1 with
  | false =>
    have hB := st_image_f (xl := xl) (xs := xs) hG hv
    refine ev_aload_n (q := 1091) dL_law_1090 rfl rfl ?_
    refine ev_aload_n (q := 1092) dL_law_1091 rfl rfl ?_
    refine ev_iload_n (q := 1093) dL_law_1092 rfl rfl ?_
    refine ev_iconst (q := 1094) (1) dL_law_1093 (by decide) rfl ?_
    refine ev_iadd (q := 1095) dL_law_1094 rfl ?_
    refine ev_sald (q := 1096) dL_law_1095 (sc_in (k := 1) (by omega) hx) rfl ?_
    refine ev_callV1iX (q := 1099) dL_law_1096 ca_L_155 (hB _ _) rfl (lt_n hn (by decide)) rfl rfl (Nat.le_of_ble_eq_true rfl) (Nat.le_of_ble_eq_true rfl) (by decide) (by decide) rfl (fun I2 S J2 T hp_1096 => ?_)
    refine ev_aload_n (q := 1100) dL_law_1099 rfl rfl ?_
    refine ev_aload_n (q := 1101) dL_law_1100 rfl rfl ?_
    refine ev_iload_n (q := 1102) dL_law_1101 rfl rfl ?_
    refine ev_iconst (q := 1103) (1) dL_law_1102 (by decide) rfl ?_
    refine ev_iadd (q := 1104) dL_law_1103 rfl ?_
    refine ev_sald (q := 1105) dL_law_1104 (sc_in (k := 1) (by omega) hx) rfl ?_
    refine ev_callV1iX (q := 1108) dL_law_1105 ca_L_158 (hp_1096 _ _) rfl (lt_n hn (by decide)) rfl rfl (Nat.le_of_ble_eq_true rfl) (Nat.le_of_ble_eq_true rfl) (by decide) (by decide) rfl (fun I2 S J2 T hp_1105 => ?_)
    refine ev_icmp_eq (q := 1111) 1159 dL_law_1108 (by decide) rfl (fun c_1108 => ?_) (fun c_1108 => ?_)
    · exact k _ _ _ _ _ _ hp_1105
    · exact absurd rfl c_1108
  | true =>
    obtain ⟨nn, -, hnn, hxe⟩ := inb_lo (lo := 0) (hi := 1) (by decide) hv (by decide)
    have h1 : nn < 2 := by omega
    cases hX : X nn with
    | some p =>
      have hB := st_image_old (xl := xl) (xs := xs) hG h1 hX
      refine ev_aload_n (q := 1091) dL_law_1090 rfl rfl ?_
      refine ev_aload_n (q := 1092) dL_law_1091 rfl rfl ?_
      refine ev_iload_n (q := 1093) dL_law_1092 rfl rfl ?_
      refine ev_iconst (q := 1094) (1) dL_law_1093 (by decide) rfl ?_
      refine ev_iadd (q := 1095) dL_law_1094 rfl ?_
      refine ev_sald (q := 1096) dL_law_1095 (sc_in (k := 1) (by omega) hx) rfl ?_
      rw [hxe]
      refine ev_callV1iX (q := 1099) dL_law_1096 ca_L_155 (hB _ _) rfl (lt_n hn (by decide)) rfl rfl (Nat.le_of_ble_eq_true rfl) (Nat.le_of_ble_eq_true rfl) (by decide) (by decide) rfl (fun I2 S J2 T hp_1096 => ?_)
      refine ev_aload_n (q := 1100) dL_law_1099 rfl rfl ?_
      refine ev_aload_n (q := 1101) dL_law_1100 rfl rfl ?_
      refine ev_iload_n (q := 1102) dL_law_1101 rfl rfl ?_
      refine ev_iconst (q := 1103) (1) dL_law_1102 (by decide) rfl ?_
      refine ev_iadd (q := 1104) dL_law_1103 rfl ?_
      refine ev_sald (q := 1105) dL_law_1104 (sc_in (k := 1) (by omega) hx) rfl ?_
      rw [hxe]
      refine ev_callV1iX (q := 1108) dL_law_1105 ca_L_158 (hp_1096 _ _) rfl (lt_n hn (by decide)) rfl rfl (Nat.le_of_ble_eq_true rfl) (Nat.le_of_ble_eq_true rfl) (by decide) (by decide) rfl (fun I2 S J2 T hp_1105 => ?_)
      refine ev_icmp_eq (q := 1111) 1159 dL_law_1108 (by decide) rfl (fun c_1108 => ?_) (fun c_1108 => ?_)
      · exact k _ _ _ _ _ _ hp_1105
      · exact absurd rfl c_1108
    | none =>
      obtain ⟨h49, hB⟩ := st_image_new (xl := xl) (xs := xs) hG h1 hX
      have hb1 : 8 ≤ 65 - n := by omega
      have hb2 : 90 ≤ (65 - n) * 12 := by omega
      have e1 : (65 - n) - 8 = 65 - (n + 8) := by omega
      have e2 : 65 - (n + 8) ≤ (65 - n) - 8 := by omega
      have e3 : (65 - (n + 8)) * 12 ≤ (65 - n) * 12 - 90 := by omega
      refine ev_aload_n (q := 1091) dL_law_1090 rfl rfl ?_
      refine ev_aload_n (q := 1092) dL_law_1091 rfl rfl ?_
      refine ev_iload_n (q := 1093) dL_law_1092 rfl rfl ?_
      refine ev_iconst (q := 1094) (1) dL_law_1093 (by decide) rfl ?_
      refine ev_iadd (q := 1095) dL_law_1094 rfl ?_
      refine ev_sald (q := 1096) dL_law_1095 (sc_in (k := 1) (by omega) hx) rfl ?_
      rw [hxe]
      refine ev_callQV (q := 1099) (As := [.int (nI nn)]) (rest := []) dL_law_1096 ca_L_155 rfl rfl (lt_n hn (by decide)) rfl rfl (Nat.le_of_ble_eq_true rfl) (Nat.le_of_ble_eq_true rfl) (by decide) (by decide) hb1 hb2 (hB S T (fun r2 n2 h2 => r2 = some (.int 1) ∧ n2 = n + 8 ∧ ∃ I1 S1 J1 T1, (∀ S2 T2, RnX xl xs 1 22 mX7_image [.ref 33, .int (nI nn)] (n + 8) I1 S2 J1 T2 (va_up X nn (some n)) (some (.int 1)) (fun I2 _ J2 _ => GI (n + 8) I2 J2 (va_up X nn (some n)))) ∧ h2 = sysH (ov I1 S1) (ovJ J1 T1) (va_up X nn (some n))) (fun I1 S1 J1 T1 h9 => ⟨rfl, rfl, I1, S1, J1, T1, h9, rfl⟩)) rfl (fun r2 n2 h2 hz => ?_)
      obtain ⟨rfl, rfl, I1, S1, J1, T1, h9, rfl⟩ := hz
      have hn8 : 49 ≤ n + 8 := by omega
      refine ev_less e2 e3 ?_
      show Ev xl xs 7 169 (65 - (n + 8)) ((65 - (n + 8)) * 12) (mLn nm) 1099 [some (.ref 1004), some (.ref 0), some (.ref 33), some (.int (nI i))] [.int 1] (n + 8) (sysH (ov I1 S1) (ovJ J1 T1) (va_up X nn (some n))) Q
      refine ev_aload_n (q := 1100) dL_law_1099 rfl rfl ?_
      refine ev_aload_n (q := 1101) dL_law_1100 rfl rfl ?_
      refine ev_iload_n (q := 1102) dL_law_1101 rfl rfl ?_
      refine ev_iconst (q := 1103) (1) dL_law_1102 (by decide) rfl ?_
      refine ev_iadd (q := 1104) dL_law_1103 rfl ?_
      refine ev_sald (q := 1105) dL_law_1104 (sc_in (k := 1) (by omega) hx) rfl ?_
      rw [hxe]
      refine ev_callV1iX (q := 1108) dL_law_1105 ca_L_158 (h9 _ _) rfl (lt_n hn8 (by decide)) rfl rfl (Nat.le_of_ble_eq_true rfl) (Nat.le_of_ble_eq_true rfl) (by decide) (by decide) rfl (fun I2 S J2 T hp_1105 => ?_)
      refine ev_icmp_eq (q := 1111) 1159 dL_law_1108 (by decide) rfl (fun c_1108 => ?_) (fun c_1108 => ?_)
      · exact k _ _ _ _ _ _ hp_1105
      · exact absurd rfl c_1108
theorem lw_restore (hx : xl ≤ 320) (hi : i + 5 ≤ xl) (hG : GI n I J X) (k : ∀ I S J T, GI n I J X → Ev xl xs 7 169 (65 - n) ((65 - n) * 12) (mLn nm) 1159 [some (.ref 1004), some (.ref 0), some (.ref 33), some (.int (nI i))] [] n (sysH (ov I S) (ovJ J T) X) Q) : Ev xl xs 7 169 (65 - n) ((65 - n) * 12) (mLn nm) 1113 [some (.ref 1004), some (.ref 0), some (.ref 33), some (.int (nI i))] [] n (sysH (ov I S) (ovJ J T) X) Q := by
  have hn := GI_n hG
  obtain ⟨r, hB⟩ := st_restore (xl := xl) (xs := xs) (xs (nI i + 1).toNatClampNeg) hG
  refine ev_aload_n (q := 1114) dL_law_1113 rfl rfl ?_
  refine ev_aload_n (q := 1115) dL_law_1114 rfl rfl ?_
  refine ev_iload_n (q := 1116) dL_law_1115 rfl rfl ?_
  refine ev_iconst (q := 1117) (1) dL_law_1116 (by decide) rfl ?_
  refine ev_iadd (q := 1118) dL_law_1117 rfl ?_
  refine ev_sald (q := 1119) dL_law_1118 (sc_in (k := 1) (by omega) hx) rfl ?_
  refine ev_callV1iX (q := 1122) dL_law_1119 ca_L_159 (hB _ _) rfl (lt_n hn (by decide)) rfl rfl (Nat.le_of_ble_eq_true rfl) (Nat.le_of_ble_eq_true rfl) (by decide) (by decide) rfl (fun I2 S J2 T hp_1119 => ?_)
  refine ev_aload_n (q := 1123) dL_law_1122 rfl rfl ?_
  refine ev_aload_n (q := 1124) dL_law_1123 rfl rfl ?_
  refine ev_iload_n (q := 1125) dL_law_1124 rfl rfl ?_
  refine ev_iconst (q := 1126) (1) dL_law_1125 (by decide) rfl ?_
  refine ev_iadd (q := 1127) dL_law_1126 rfl ?_
  refine ev_sald (q := 1128) dL_law_1127 (sc_in (k := 1) (by omega) hx) rfl ?_
  refine ev_callV1iX (q := 1131) dL_law_1128 ca_L_162 (hp_1119 _ _) rfl (lt_n hn (by decide)) rfl rfl (Nat.le_of_ble_eq_true rfl) (Nat.le_of_ble_eq_true rfl) (by decide) (by decide) rfl (fun I2 S J2 T hp_1128 => ?_)
  refine ev_icmp_eq (q := 1134) 1159 dL_law_1131 (by decide) rfl (fun c_1131 => ?_) (fun c_1131 => ?_)
  · exact k _ _ _ _ hp_1128
  · exact absurd rfl c_1131
theorem lw_told (hx : xl ≤ 320) (hi : i + 5 ≤ xl) (hG : GI n I J X) (k : ∀ I S J T, GI n I J X → Ev xl xs 7 169 (65 - n) ((65 - n) * 12) (mLn nm) 1159 [some (.ref 1004), some (.ref 0), some (.ref 33), some (.int (nI i))] [] n (sysH (ov I S) (ovJ J T) X) Q) : Ev xl xs 7 169 (65 - n) ((65 - n) * 12) (mLn nm) 1136 [some (.ref 1004), some (.ref 0), some (.ref 33), some (.int (nI i))] [] n (sysH (ov I S) (ovJ J T) X) Q := by
  have hn := GI_n hG
  obtain ⟨r, hB⟩ := st_told (xl := xl) (xs := xs) (xs (nI i + 1).toNatClampNeg) hG
  refine ev_aload_n (q := 1137) dL_law_1136 rfl rfl ?_
  refine ev_aload_n (q := 1138) dL_law_1137 rfl rfl ?_
  refine ev_iload_n (q := 1139) dL_law_1138 rfl rfl ?_
  refine ev_iconst (q := 1140) (1) dL_law_1139 (by decide) rfl ?_
  refine ev_iadd (q := 1141) dL_law_1140 rfl ?_
  refine ev_sald (q := 1142) dL_law_1141 (sc_in (k := 1) (by omega) hx) rfl ?_
  refine ev_callV1iX (q := 1145) dL_law_1142 ca_L_163 (hB _ _) rfl (lt_n hn (by decide)) rfl rfl (Nat.le_of_ble_eq_true rfl) (Nat.le_of_ble_eq_true rfl) (by decide) (by decide) rfl (fun I2 S J2 T hp_1142 => ?_)
  refine ev_aload_n (q := 1146) dL_law_1145 rfl rfl ?_
  refine ev_aload_n (q := 1147) dL_law_1146 rfl rfl ?_
  refine ev_iload_n (q := 1148) dL_law_1147 rfl rfl ?_
  refine ev_iconst (q := 1149) (1) dL_law_1148 (by decide) rfl ?_
  refine ev_iadd (q := 1150) dL_law_1149 rfl ?_
  refine ev_sald (q := 1151) dL_law_1150 (sc_in (k := 1) (by omega) hx) rfl ?_
  refine ev_callV1iX (q := 1154) dL_law_1151 ca_L_166 (hp_1142 _ _) rfl (lt_n hn (by decide)) rfl rfl (Nat.le_of_ble_eq_true rfl) (Nat.le_of_ble_eq_true rfl) (by decide) (by decide) rfl (fun I2 S J2 T hp_1151 => ?_)
  refine ev_icmp_eq (q := 1157) 1159 dL_law_1154 (by decide) rfl (fun c_1154 => ?_) (fun c_1154 => ?_)
  · exact k _ _ _ _ hp_1151
  · exact absurd rfl c_1154
end LAW4
