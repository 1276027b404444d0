set_option maxRecDepth 20000 in
set_option maxHeartbeats 1000000 in
theorem law_26 {d : Nat} (hd : 57 ≤ d) {σ : MM} {X : CST} {i n : Int} (hn : σ 92 1 0 = n) (hi : 0 ≤ i ∧ i + 6 ≤ n) (hnN : n ≤ 3072) (hs : ∀ z : Int, IR (σ 92 0 z)) (hC : CRl σ X) (hM : MRl σ X) (kk : ∀ (σ' : MM) (X' : CST), CRl σ' X' → MRl σ' X' → σ' 92 = σ 92 → V yL_law cL_law 4 (some .boolean) d LQ 2578 [some (vR 92 0), some (vR 0 0), some (vR 34 0), some (vI i)] [] σ') : V yL_law cL_law 4 (some .boolean) d LQ 1014 [some (vR 92 0), some (vR 0 0), some (vR 34 0), some (vI i)] [] σ := by
  refine V_aload_1 (pc := 1014) dL_law_1014 ?_
  refine V_aload_0 (pc := 1015) dL_law_1015 ?_
  refine V_iload_3 (pc := 1016) dL_law_1016 ?_
  refine V_iconst (pc := 1017) dL_law_1017 ?_
  refine V_iadd (pc := 1018) dL_law_1018 ?_
  refine V_sld (pc := 1019) dL_law_1019 hn hnN (by omega) (v := σ 92 0 (i + 1)) rfl ?_
  refine V_aload_0 (pc := 1020) dL_law_1020 ?_
  refine V_iload_3 (pc := 1021) dL_law_1021 ?_
  refine V_iconst (pc := 1022) dL_law_1022 ?_
  refine V_iadd (pc := 1023) dL_law_1023 ?_
  refine V_sld (pc := 1024) dL_law_1024 hn hnN (by omega) (v := σ 92 0 (i + 2)) rfl ?_
  refine V_callV2i (pc := 1025) dL_law_1025 kv_L_121 rc_0 (by omega) (d - 1) (by omega) rfl (V.sci (c_X5_passes (by omega) hC.b hC.w hC.c (hs _) (hs _))) (fun v1 σ1 h1 => ?_)
  have h92 := h1.2
  have hC1 : CRl σ1 X := by rw [h1.1.2]; exact hC
  have hM1 : MRl σ1 X := by rw [h1.1.2]; exact hM
  have hO1 := hC.ok
  have hG1 := hC.g
  refine V_aload_2 (pc := 1028) dL_law_1028 ?_
  refine V_aload_0 (pc := 1029) dL_law_1029 ?_
  refine V_iload_3 (pc := 1030) dL_law_1030 ?_
  refine V_iconst (pc := 1031) dL_law_1031 ?_
  refine V_iadd (pc := 1032) dL_law_1032 ?_
  refine V_sld (pc := 1033) dL_law_1033 (by rw [h92]; exact hn) hnN (by omega) (v := σ 92 0 (i + 1)) (by rw [h92]) ?_
  refine V_aload_0 (pc := 1034) dL_law_1034 ?_
  refine V_iload_3 (pc := 1035) dL_law_1035 ?_
  refine V_iconst (pc := 1036) dL_law_1036 ?_
  refine V_iadd (pc := 1037) dL_law_1037 ?_
  refine V_sld (pc := 1038) dL_law_1038 (by rw [h92]; exact hn) hnN (by omega) (v := σ 92 0 (i + 2)) (by rw [h92]) ?_
  refine V_callV2i (pc := 1039) dL_law_1039 kv_L_124 rc_34 (by omega) (d - 1) (by omega) rfl (V.sci (c_X6_passes (by omega) hM1.1 hG1 (hs _) (hs _))) (fun v2 σ2 h2 => ?_)
  have hC2 := h2.1.2.fm.crl hC1
  have hM2 := h2.1.2.mrl hM1
  have h93 : σ2 92 = σ 92 := h2.2.trans h92
  refine V_icmp_same (pc := 1042) 2578 dL_law_1042 (by decide) (h1.1.1.trans h2.1.1.symm) ?_
  exact kk _ _ hC2 hM2 h93

set_option maxRecDepth 20000 in
set_option maxHeartbeats 1000000 in
theorem law_27 {d : Nat} (hd : 57 ≤ d) {σ : MM} {X : CST} {i n : Int} (hn : σ 92 1 0 = n) (hi : 0 ≤ i ∧ i + 6 ≤ n) (hnN : n ≤ 3072) (hs : ∀ z : Int, IR (σ 92 0 z)) (hC : CRl σ X) (hM : MRl σ X) (kk : ∀ (σ' : MM) (X' : CST), CRl σ' X' → MRl σ' X' → σ' 92 = σ 92 → V yL_law cL_law 4 (some .boolean) d LQ 2578 [some (vR 92 0), some (vR 0 0), some (vR 34 0), some (vI i)] [] σ') : V yL_law cL_law 4 (some .boolean) d LQ 1047 [some (vR 92 0), some (vR 0 0), some (vR 34 0), some (vI i)] [] σ := by
  refine V_aload_1 (pc := 1047) dL_law_1047 ?_
  refine V_aload_0 (pc := 1048) dL_law_1048 ?_
  refine V_iload_3 (pc := 1049) dL_law_1049 ?_
  refine V_iconst (pc := 1050) dL_law_1050 ?_
  refine V_iadd (pc := 1051) dL_law_1051 ?_
  refine V_sld (pc := 1052) dL_law_1052 hn hnN (by omega) (v := σ 92 0 (i + 1)) rfl ?_
  refine V_callV1i (pc := 1053) dL_law_1053 kv_L_125 rc_0 (by omega) (d - 1) (by omega) rfl (V.sci (c_X5_suspects (by omega) hC.b hC.w hC.c (hs _))) (fun v1 σ1 h1 => ?_)
  have h92 := h1.2
  have hC1 : CRl σ1 X := by rw [h1.1.2]; exact hC
  have hM1 : MRl σ1 X := by rw [h1.1.2]; exact hM
  have hO1 := hC.ok
  have hG1 := hC.g
  refine V_aload_2 (pc := 1056) dL_law_1056 ?_
  refine V_aload_0 (pc := 1057) dL_law_1057 ?_
  refine V_iload_3 (pc := 1058) dL_law_1058 ?_
  refine V_iconst (pc := 1059) dL_law_1059 ?_
  refine V_iadd (pc := 1060) dL_law_1060 ?_
  refine V_sld (pc := 1061) dL_law_1061 (by rw [h92]; exact hn) hnN (by omega) (v := σ 92 0 (i + 1)) (by rw [h92]) ?_
  refine V_callV1i (pc := 1062) dL_law_1062 kv_L_128 rc_34 (by omega) (d - 1) (by omega) rfl (V.sci (c_X6_suspects (by omega) hM1.1 hG1 (hs _))) (fun v2 σ2 h2 => ?_)
  have hC2 := h2.1.2.fm.crl hC1
  have hM2 := h2.1.2.mrl hM1
  have h93 : σ2 92 = σ 92 := h2.2.trans h92
  refine V_icmp_same (pc := 1065) 2578 dL_law_1065 (by decide) (h1.1.1.trans h2.1.1.symm) ?_
  exact kk _ _ hC2 hM2 h93

set_option maxRecDepth 20000 in
set_option maxHeartbeats 1000000 in
theorem law_28 {d : Nat} (hd : 57 ≤ d) {σ : MM} {X : CST} {i n : Int} (hn : σ 92 1 0 = n) (hi : 0 ≤ i ∧ i + 6 ≤ n) (hnN : n ≤ 3072) (hs : ∀ z : Int, IR (σ 92 0 z)) (hC : CRl σ X) (hM : MRl σ X) (kk : ∀ (σ' : MM) (X' : CST), CRl σ' X' → MRl σ' X' → σ' 92 = σ 92 → V yL_law cL_law 4 (some .boolean) d LQ 2578 [some (vR 92 0), some (vR 0 0), some (vR 34 0), some (vI i)] [] σ') : V yL_law cL_law 4 (some .boolean) d LQ 1070 [some (vR 92 0), some (vR 0 0), some (vR 34 0), some (vI i)] [] σ := by
  refine V_aload_1 (pc := 1070) dL_law_1070 ?_
  refine V_aload_0 (pc := 1071) dL_law_1071 ?_
  refine V_iload_3 (pc := 1072) dL_law_1072 ?_
  refine V_iconst (pc := 1073) dL_law_1073 ?_
  refine V_iadd (pc := 1074) dL_law_1074 ?_
  refine V_sld (pc := 1075) dL_law_1075 hn hnN (by omega) (v := σ 92 0 (i + 1)) rfl ?_
  refine V_callV1i (pc := 1076) dL_law_1076 kv_L_129 rc_0 (by omega) (d - 1) (by omega) rfl (V.sci (c_X5_betrayed (by omega) hC.b hC.w hC.c (hs _))) (fun v1 σ1 h1 => ?_)
  have h92 := h1.2
  have hC1 : CRl σ1 X := by rw [h1.1.2]; exact hC
  have hM1 : MRl σ1 X := by rw [h1.1.2]; exact hM
  have hO1 := hC.ok
  have hG1 := hC.g
  refine V_aload_2 (pc := 1079) dL_law_1079 ?_
  refine V_aload_0 (pc := 1080) dL_law_1080 ?_
  refine V_iload_3 (pc := 1081) dL_law_1081 ?_
  refine V_iconst (pc := 1082) dL_law_1082 ?_
  refine V_iadd (pc := 1083) dL_law_1083 ?_
  refine V_sld (pc := 1084) dL_law_1084 (by rw [h92]; exact hn) hnN (by omega) (v := σ 92 0 (i + 1)) (by rw [h92]) ?_
  refine V_callV1i (pc := 1085) dL_law_1085 kv_L_132 rc_34 (by omega) (d - 1) (by omega) rfl (V.sci (c_X6_betrayed (by omega) hM1.1 hG1 (hs _))) (fun v2 σ2 h2 => ?_)
  have hC2 := h2.1.2.fm.crl hC1
  have hM2 := h2.1.2.mrl hM1
  have h93 : σ2 92 = σ 92 := h2.2.trans h92
  refine V_icmp_same (pc := 1088) 2578 dL_law_1088 (by decide) (h1.1.1.trans h2.1.1.symm) ?_
  exact kk _ _ hC2 hM2 h93

set_option maxRecDepth 20000 in
set_option maxHeartbeats 1000000 in
theorem law_29 {d : Nat} (hd : 57 ≤ d) {σ : MM} {X : CST} {i n : Int} (hn : σ 92 1 0 = n) (hi : 0 ≤ i ∧ i + 6 ≤ n) (hnN : n ≤ 3072) (hs : ∀ z : Int, IR (σ 92 0 z)) (hC : CRl σ X) (hM : MRl σ X) (kk : ∀ (σ' : MM) (X' : CST), CRl σ' X' → MRl σ' X' → σ' 92 = σ 92 → V yL_law cL_law 4 (some .boolean) d LQ 2578 [some (vR 92 0), some (vR 0 0), some (vR 34 0), some (vI i)] [] σ') : V yL_law cL_law 4 (some .boolean) d LQ 1093 [some (vR 92 0), some (vR 0 0), some (vR 34 0), some (vI i)] [] σ := by
  refine V_aload_1 (pc := 1093) dL_law_1093 ?_
  refine V_aload_0 (pc := 1094) dL_law_1094 ?_
  refine V_iload_3 (pc := 1095) dL_law_1095 ?_
  refine V_iconst (pc := 1096) dL_law_1096 ?_
  refine V_iadd (pc := 1097) dL_law_1097 ?_
  refine V_sld (pc := 1098) dL_law_1098 hn hnN (by omega) (v := σ 92 0 (i + 1)) rfl ?_
  refine V_aload_0 (pc := 1099) dL_law_1099 ?_
  refine V_iload_3 (pc := 1100) dL_law_1100 ?_
  refine V_iconst (pc := 1101) dL_law_1101 ?_
  refine V_iadd (pc := 1102) dL_law_1102 ?_
  refine V_sld (pc := 1103) dL_law_1103 hn hnN (by omega) (v := σ 92 0 (i + 2)) rfl ?_
  refine V_aload_0 (pc := 1104) dL_law_1104 ?_
  refine V_iload_3 (pc := 1105) dL_law_1105 ?_
  refine V_iconst (pc := 1106) dL_law_1106 ?_
  refine V_iadd (pc := 1107) dL_law_1107 ?_
  refine V_sld (pc := 1108) dL_law_1108 hn hnN (by omega) (v := σ 92 0 (i + 3)) rfl ?_
  refine V_aload_0 (pc := 1109) dL_law_1109 ?_
  refine V_iload_3 (pc := 1110) dL_law_1110 ?_
  refine V_iconst (pc := 1111) dL_law_1111 ?_
  refine V_iadd (pc := 1112) dL_law_1112 ?_
  refine V_sld (pc := 1113) dL_law_1113 hn hnN (by omega) (v := σ 92 0 (i + 4)) rfl ?_
  refine V_callV4i (pc := 1114) dL_law_1114 kv_L_133 rc_0 (by omega) (d - 1) (by omega) rfl (V.sci (c_X5_ages (by omega) hC.b hC.w (hs _) (hs _) (hs _) (hs _))) (fun v1 σ1 h1 => ?_)
  have h92 := h1.2
  have hC1 : CRl σ1 X := by rw [h1.1.2]; exact hC
  have hM1 : MRl σ1 X := by rw [h1.1.2]; exact hM
  have hO1 := hC.ok
  have hG1 := hC.g
  refine V_aload_2 (pc := 1117) dL_law_1117 ?_
  refine V_aload_0 (pc := 1118) dL_law_1118 ?_
  refine V_iload_3 (pc := 1119) dL_law_1119 ?_
  refine V_iconst (pc := 1120) dL_law_1120 ?_
  refine V_iadd (pc := 1121) dL_law_1121 ?_
  refine V_sld (pc := 1122) dL_law_1122 (by rw [h92]; exact hn) hnN (by omega) (v := σ 92 0 (i + 1)) (by rw [h92]) ?_
  refine V_aload_0 (pc := 1123) dL_law_1123 ?_
  refine V_iload_3 (pc := 1124) dL_law_1124 ?_
  refine V_iconst (pc := 1125) dL_law_1125 ?_
  refine V_iadd (pc := 1126) dL_law_1126 ?_
  refine V_sld (pc := 1127) dL_law_1127 (by rw [h92]; exact hn) hnN (by omega) (v := σ 92 0 (i + 2)) (by rw [h92]) ?_
  refine V_aload_0 (pc := 1128) dL_law_1128 ?_
  refine V_iload_3 (pc := 1129) dL_law_1129 ?_
  refine V_iconst (pc := 1130) dL_law_1130 ?_
  refine V_iadd (pc := 1131) dL_law_1131 ?_
  refine V_sld (pc := 1132) dL_law_1132 (by rw [h92]; exact hn) hnN (by omega) (v := σ 92 0 (i + 3)) (by rw [h92]) ?_
  refine V_aload_0 (pc := 1133) dL_law_1133 ?_
  refine V_iload_3 (pc := 1134) dL_law_1134 ?_
  refine V_iconst (pc := 1135) dL_law_1135 ?_
  refine V_iadd (pc := 1136) dL_law_1136 ?_
  refine V_sld (pc := 1137) dL_law_1137 (by rw [h92]; exact hn) hnN (by omega) (v := σ 92 0 (i + 4)) (by rw [h92]) ?_
  refine V_callV4i (pc := 1138) dL_law_1138 kv_L_137 rc_34 (by omega) (d - 1) (by omega) rfl (V.sci (c_X6_ages (by omega) hM1.1 hG1 (hs _) (hs _) (hs _) (hs _))) (fun v2 σ2 h2 => ?_)
  have hC2 := h2.1.2.fm.crl hC1
  have hM2 := h2.1.2.mrl hM1
  have h93 : σ2 92 = σ 92 := h2.2.trans h92
  refine V_icmp_same (pc := 1141) 2578 dL_law_1141 (by decide) (h1.1.1.trans h2.1.1.symm) ?_
  exact kk _ _ hC2 hM2 h93

set_option maxRecDepth 20000 in
set_option maxHeartbeats 1000000 in
theorem law_30 {d : Nat} (hd : 57 ≤ d) {σ : MM} {X : CST} {i n : Int} (hn : σ 92 1 0 = n) (hi : 0 ≤ i ∧ i + 6 ≤ n) (hnN : n ≤ 3072) (hs : ∀ z : Int, IR (σ 92 0 z)) (hC : CRl σ X) (hM : MRl σ X) (kk : ∀ (σ' : MM) (X' : CST), CRl σ' X' → MRl σ' X' → σ' 92 = σ 92 → V yL_law cL_law 4 (some .boolean) d LQ 2578 [some (vR 92 0), some (vR 0 0), some (vR 34 0), some (vI i)] [] σ') : V yL_law cL_law 4 (some .boolean) d LQ 1146 [some (vR 92 0), some (vR 0 0), some (vR 34 0), some (vI i)] [] σ := by
  refine V_aload_1 (pc := 1146) dL_law_1146 ?_
  refine V_aload_0 (pc := 1147) dL_law_1147 ?_
  refine V_iload_3 (pc := 1148) dL_law_1148 ?_
  refine V_iconst (pc := 1149) dL_law_1149 ?_
  refine V_iadd (pc := 1150) dL_law_1150 ?_
  refine V_sld (pc := 1151) dL_law_1151 hn hnN (by omega) (v := σ 92 0 (i + 1)) rfl ?_
  refine V_aload_0 (pc := 1152) dL_law_1152 ?_
  refine V_iload_3 (pc := 1153) dL_law_1153 ?_
  refine V_iconst (pc := 1154) dL_law_1154 ?_
  refine V_iadd (pc := 1155) dL_law_1155 ?_
  refine V_sld (pc := 1156) dL_law_1156 hn hnN (by omega) (v := σ 92 0 (i + 2)) rfl ?_
  refine V_callV2i (pc := 1157) dL_law_1157 kv_L_138 rc_0 (by omega) (d - 1) (by omega) rfl (V.sci (c_X5_dates (by omega) hC.b hC.g hC.z (hs _) (hs _))) (fun v1 σ1 h1 => ?_)
  have h92 := h1.2
  have hC1 := h1.1.2.crl hC
  have hM1 := h1.1.2.fc.mrl hM
  have hO1 := hC.ok
  have hG1 := hC.g
  refine V_aload_2 (pc := 1160) dL_law_1160 ?_
  refine V_aload_0 (pc := 1161) dL_law_1161 ?_
  refine V_iload_3 (pc := 1162) dL_law_1162 ?_
  refine V_iconst (pc := 1163) dL_law_1163 ?_
  refine V_iadd (pc := 1164) dL_law_1164 ?_
  refine V_sld (pc := 1165) dL_law_1165 (by rw [h92]; exact hn) hnN (by omega) (v := σ 92 0 (i + 1)) (by rw [h92]) ?_
  refine V_aload_0 (pc := 1166) dL_law_1166 ?_
  refine V_iload_3 (pc := 1167) dL_law_1167 ?_
  refine V_iconst (pc := 1168) dL_law_1168 ?_
  refine V_iadd (pc := 1169) dL_law_1169 ?_
  refine V_sld (pc := 1170) dL_law_1170 (by rw [h92]; exact hn) hnN (by omega) (v := σ 92 0 (i + 2)) (by rw [h92]) ?_
  refine V_callV2i (pc := 1171) dL_law_1171 kv_L_141 rc_34 (by omega) (d - 1) (by omega) rfl (V.sci (c_X6_dates (by omega) hM1.1 hG1 hM1.2.1 (hs _) (hs _))) (fun v2 σ2 h2 => ?_)
  have hC2 := h2.1.2.fm.crl hC1
  have hM2 := h2.1.2.mrl hM1
  have h93 : σ2 92 = σ 92 := h2.2.trans h92
  refine V_icmp_same (pc := 1174) 2578 dL_law_1174 (by decide) (h1.1.1.trans h2.1.1.symm) ?_
  exact kk _ _ hC2 hM2 h93

set_option maxRecDepth 20000 in
set_option maxHeartbeats 1000000 in
theorem law_31 {d : Nat} (hd : 57 ≤ d) {σ : MM} {X : CST} {i n : Int} (hn : σ 92 1 0 = n) (hi : 0 ≤ i ∧ i + 6 ≤ n) (hnN : n ≤ 3072) (hs : ∀ z : Int, IR (σ 92 0 z)) (hC : CRl σ X) (hM : MRl σ X) (kk : ∀ (σ' : MM) (X' : CST), CRl σ' X' → MRl σ' X' → σ' 92 = σ 92 → V yL_law cL_law 4 (some .boolean) d LQ 2578 [some (vR 92 0), some (vR 0 0), some (vR 34 0), some (vI i)] [] σ') : V yL_law cL_law 4 (some .boolean) d LQ 1179 [some (vR 92 0), some (vR 0 0), some (vR 34 0), some (vI i)] [] σ := by
  refine V_aload_1 (pc := 1179) dL_law_1179 ?_
  refine V_aload_0 (pc := 1180) dL_law_1180 ?_
  refine V_iload_3 (pc := 1181) dL_law_1181 ?_
  refine V_iconst (pc := 1182) dL_law_1182 ?_
  refine V_iadd (pc := 1183) dL_law_1183 ?_
  refine V_sld (pc := 1184) dL_law_1184 hn hnN (by omega) (v := σ 92 0 (i + 1)) rfl ?_
  refine V_aload_0 (pc := 1185) dL_law_1185 ?_
  refine V_iload_3 (pc := 1186) dL_law_1186 ?_
  refine V_iconst (pc := 1187) dL_law_1187 ?_
  refine V_iadd (pc := 1188) dL_law_1188 ?_
  refine V_sld (pc := 1189) dL_law_1189 hn hnN (by omega) (v := σ 92 0 (i + 2)) rfl ?_
  refine V_callV2i (pc := 1190) dL_law_1190 kv_L_142 rc_0 (by omega) (d - 1) (by omega) rfl (V.sci (c_X5_first (by omega) hC.b hC.g hC.z (hs _) (hs _))) (fun v1 σ1 h1 => ?_)
  have h92 := h1.2
  have hC1 := h1.1.2.crl hC
  have hM1 := h1.1.2.fc.mrl hM
  have hO1 := hC.ok
  have hG1 := hC.g
  refine V_aload_2 (pc := 1193) dL_law_1193 ?_
  refine V_aload_0 (pc := 1194) dL_law_1194 ?_
  refine V_iload_3 (pc := 1195) dL_law_1195 ?_
  refine V_iconst (pc := 1196) dL_law_1196 ?_
  refine V_iadd (pc := 1197) dL_law_1197 ?_
  refine V_sld (pc := 1198) dL_law_1198 (by rw [h92]; exact hn) hnN (by omega) (v := σ 92 0 (i + 1)) (by rw [h92]) ?_
  refine V_aload_0 (pc := 1199) dL_law_1199 ?_
  refine V_iload_3 (pc := 1200) dL_law_1200 ?_
  refine V_iconst (pc := 1201) dL_law_1201 ?_
  refine V_iadd (pc := 1202) dL_law_1202 ?_
  refine V_sld (pc := 1203) dL_law_1203 (by rw [h92]; exact hn) hnN (by omega) (v := σ 92 0 (i + 2)) (by rw [h92]) ?_
  refine V_callV2i (pc := 1204) dL_law_1204 kv_L_145 rc_34 (by omega) (d - 1) (by omega) rfl (V.sci (c_X6_first (by omega) hM1.1 hG1 hM1.2.1 (hs _) (hs _))) (fun v2 σ2 h2 => ?_)
  have hC2 := h2.1.2.fm.crl hC1
  have hM2 := h2.1.2.mrl hM1
  have h93 : σ2 92 = σ 92 := h2.2.trans h92
  refine V_icmp_same (pc := 1207) 2578 dL_law_1207 (by decide) (h1.1.1.trans h2.1.1.symm) ?_
  exact kk _ _ hC2 hM2 h93

set_option maxRecDepth 20000 in
set_option maxHeartbeats 1000000 in
theorem law_32 {d : Nat} (hd : 57 ≤ d) {σ : MM} {X : CST} {i n : Int} (hn : σ 92 1 0 = n) (hi : 0 ≤ i ∧ i + 6 ≤ n) (hnN : n ≤ 3072) (hs : ∀ z : Int, IR (σ 92 0 z)) (hC : CRl σ X) (hM : MRl σ X) (kk : ∀ (σ' : MM) (X' : CST), CRl σ' X' → MRl σ' X' → σ' 92 = σ 92 → V yL_law cL_law 4 (some .boolean) d LQ 2578 [some (vR 92 0), some (vR 0 0), some (vR 34 0), some (vI i)] [] σ') : V yL_law cL_law 4 (some .boolean) d LQ 1212 [some (vR 92 0), some (vR 0 0), some (vR 34 0), some (vI i)] [] σ := by
  refine V_aload_1 (pc := 1212) dL_law_1212 ?_
  refine V_aload_0 (pc := 1213) dL_law_1213 ?_
  refine V_iload_3 (pc := 1214) dL_law_1214 ?_
  refine V_iconst (pc := 1215) dL_law_1215 ?_
  refine V_iadd (pc := 1216) dL_law_1216 ?_
  refine V_sld (pc := 1217) dL_law_1217 hn hnN (by omega) (v := σ 92 0 (i + 1)) rfl ?_
  refine V_aload_0 (pc := 1218) dL_law_1218 ?_
  refine V_iload_3 (pc := 1219) dL_law_1219 ?_
  refine V_iconst (pc := 1220) dL_law_1220 ?_
  refine V_iadd (pc := 1221) dL_law_1221 ?_
  refine V_sld (pc := 1222) dL_law_1222 hn hnN (by omega) (v := σ 92 0 (i + 2)) rfl ?_
  refine V_callV2i (pc := 1223) dL_law_1223 kv_L_146 rc_0 (by omega) (d - 1) (by omega) rfl (V.sci (c_X5_last (by omega) hC.b hC.g hC.z (hs _) (hs _))) (fun v1 σ1 h1 => ?_)
  have h92 := h1.2
  have hC1 := h1.1.2.crl hC
  have hM1 := h1.1.2.fc.mrl hM
  have hO1 := hC.ok
  have hG1 := hC.g
  refine V_aload_2 (pc := 1226) dL_law_1226 ?_
  refine V_aload_0 (pc := 1227) dL_law_1227 ?_
  refine V_iload_3 (pc := 1228) dL_law_1228 ?_
  refine V_iconst (pc := 1229) dL_law_1229 ?_
  refine V_iadd (pc := 1230) dL_law_1230 ?_
  refine V_sld (pc := 1231) dL_law_1231 (by rw [h92]; exact hn) hnN (by omega) (v := σ 92 0 (i + 1)) (by rw [h92]) ?_
  refine V_aload_0 (pc := 1232) dL_law_1232 ?_
  refine V_iload_3 (pc := 1233) dL_law_1233 ?_
  refine V_iconst (pc := 1234) dL_law_1234 ?_
  refine V_iadd (pc := 1235) dL_law_1235 ?_
  refine V_sld (pc := 1236) dL_law_1236 (by rw [h92]; exact hn) hnN (by omega) (v := σ 92 0 (i + 2)) (by rw [h92]) ?_
  refine V_callV2i (pc := 1237) dL_law_1237 kv_L_149 rc_34 (by omega) (d - 1) (by omega) rfl (V.sci (c_X6_last (by omega) hM1.1 hG1 hM1.2.1 (hs _) (hs _))) (fun v2 σ2 h2 => ?_)
  have hC2 := h2.1.2.fm.crl hC1
  have hM2 := h2.1.2.mrl hM1
  have h93 : σ2 92 = σ 92 := h2.2.trans h92
  refine V_icmp_same (pc := 1240) 2578 dL_law_1240 (by decide) (h1.1.1.trans h2.1.1.symm) ?_
  exact kk _ _ hC2 hM2 h93

set_option maxRecDepth 20000 in
set_option maxHeartbeats 1000000 in
theorem law_33 {d : Nat} (hd : 57 ≤ d) {σ : MM} {X : CST} {i n : Int} (hn : σ 92 1 0 = n) (hi : 0 ≤ i ∧ i + 6 ≤ n) (hnN : n ≤ 3072) (hs : ∀ z : Int, IR (σ 92 0 z)) (hC : CRl σ X) (hM : MRl σ X) (kk : ∀ (σ' : MM) (X' : CST), CRl σ' X' → MRl σ' X' → σ' 92 = σ 92 → V yL_law cL_law 4 (some .boolean) d LQ 2578 [some (vR 92 0), some (vR 0 0), some (vR 34 0), some (vI i)] [] σ') : V yL_law cL_law 4 (some .boolean) d LQ 1245 [some (vR 92 0), some (vR 0 0), some (vR 34 0), some (vI i)] [] σ := by
  refine V_aload_1 (pc := 1245) dL_law_1245 ?_
  refine V_aload_0 (pc := 1246) dL_law_1246 ?_
  refine V_iload_3 (pc := 1247) dL_law_1247 ?_
  refine V_iconst (pc := 1248) dL_law_1248 ?_
  refine V_iadd (pc := 1249) dL_law_1249 ?_
  refine V_sld (pc := 1250) dL_law_1250 hn hnN (by omega) (v := σ 92 0 (i + 1)) rfl ?_
  refine V_aload_0 (pc := 1251) dL_law_1251 ?_
  refine V_iload_3 (pc := 1252) dL_law_1252 ?_
  refine V_iconst (pc := 1253) dL_law_1253 ?_
  refine V_iadd (pc := 1254) dL_law_1254 ?_
  refine V_sld (pc := 1255) dL_law_1255 hn hnN (by omega) (v := σ 92 0 (i + 2)) rfl ?_
  refine V_callV2i (pc := 1256) dL_law_1256 kv_L_150 rc_0 (by omega) (d - 1) (by omega) rfl (V.sci (c_X5_ask (by omega) hC.b hC.g hC.z (hs _) (hs _))) (fun v1 σ1 h1 => ?_)
  have h92 := h1.2
  have hC1 := h1.1.2.crl hC
  have hM1 := h1.1.2.fc.mrl hM
  have hO1 := hC.ok
  have hG1 := hC.g
  refine V_aload_2 (pc := 1259) dL_law_1259 ?_
  refine V_aload_0 (pc := 1260) dL_law_1260 ?_
  refine V_iload_3 (pc := 1261) dL_law_1261 ?_
  refine V_iconst (pc := 1262) dL_law_1262 ?_
  refine V_iadd (pc := 1263) dL_law_1263 ?_
  refine V_sld (pc := 1264) dL_law_1264 (by rw [h92]; exact hn) hnN (by omega) (v := σ 92 0 (i + 1)) (by rw [h92]) ?_
  refine V_aload_0 (pc := 1265) dL_law_1265 ?_
  refine V_iload_3 (pc := 1266) dL_law_1266 ?_
  refine V_iconst (pc := 1267) dL_law_1267 ?_
  refine V_iadd (pc := 1268) dL_law_1268 ?_
  refine V_sld (pc := 1269) dL_law_1269 (by rw [h92]; exact hn) hnN (by omega) (v := σ 92 0 (i + 2)) (by rw [h92]) ?_
  refine V_callV2i (pc := 1270) dL_law_1270 kv_L_153 rc_34 (by omega) (d - 1) (by omega) rfl (V.sci (c_X6_ask (by omega) hM1.1 hG1 hM1.2.1 (hs _) (hs _))) (fun v2 σ2 h2 => ?_)
  have hC2 := h2.1.2.fm.crl hC1
  have hM2 := h2.1.2.mrl hM1
  have h93 : σ2 92 = σ 92 := h2.2.trans h92
  refine V_icmp_same (pc := 1273) 2578 dL_law_1273 (by decide) (h1.1.1.trans h2.1.1.symm) ?_
  exact kk _ _ hC2 hM2 h93

set_option maxRecDepth 20000 in
set_option maxHeartbeats 1000000 in
theorem law_34 {d : Nat} (hd : 57 ≤ d) {σ : MM} {X : CST} {i n : Int} (hn : σ 92 1 0 = n) (hi : 0 ≤ i ∧ i + 6 ≤ n) (hnN : n ≤ 3072) (hs : ∀ z : Int, IR (σ 92 0 z)) (hC : CRl σ X) (hM : MRl σ X) (kk : ∀ (σ' : MM) (X' : CST), CRl σ' X' → MRl σ' X' → σ' 92 = σ 92 → V yL_law cL_law 4 (some .boolean) d LQ 2578 [some (vR 92 0), some (vR 0 0), some (vR 34 0), some (vI i)] [] σ') : V yL_law cL_law 4 (some .boolean) d LQ 1278 [some (vR 92 0), some (vR 0 0), some (vR 34 0), some (vI i)] [] σ := by
  refine V_aload_1 (pc := 1278) dL_law_1278 ?_
  refine V_aload_0 (pc := 1279) dL_law_1279 ?_
  refine V_iload_3 (pc := 1280) dL_law_1280 ?_
  refine V_iconst (pc := 1281) dL_law_1281 ?_
  refine V_iadd (pc := 1282) dL_law_1282 ?_
  refine V_sld (pc := 1283) dL_law_1283 hn hnN (by omega) (v := σ 92 0 (i + 1)) rfl ?_
  refine V_aload_0 (pc := 1284) dL_law_1284 ?_
  refine V_iload_3 (pc := 1285) dL_law_1285 ?_
  refine V_iconst (pc := 1286) dL_law_1286 ?_
  refine V_iadd (pc := 1287) dL_law_1287 ?_
  refine V_sld (pc := 1288) dL_law_1288 hn hnN (by omega) (v := σ 92 0 (i + 2)) rfl ?_
  refine V_callV2i (pc := 1289) dL_law_1289 kv_L_154 rc_0 (by omega) (d - 1) (by omega) rfl (V.sci (c_X5_leaves (by omega) hC.b hC.g hC.z (hs _) (hs _))) (fun v1 σ1 h1 => ?_)
  have h92 := h1.2
  have hC1 := h1.1.2.crl hC
  have hM1 := h1.1.2.fc.mrl hM
  have hO1 := hC.ok
  have hG1 := hC.g
  refine V_aload_2 (pc := 1292) dL_law_1292 ?_
  refine V_aload_0 (pc := 1293) dL_law_1293 ?_
  refine V_iload_3 (pc := 1294) dL_law_1294 ?_
  refine V_iconst (pc := 1295) dL_law_1295 ?_
  refine V_iadd (pc := 1296) dL_law_1296 ?_
  refine V_sld (pc := 1297) dL_law_1297 (by rw [h92]; exact hn) hnN (by omega) (v := σ 92 0 (i + 1)) (by rw [h92]) ?_
  refine V_aload_0 (pc := 1298) dL_law_1298 ?_
  refine V_iload_3 (pc := 1299) dL_law_1299 ?_
  refine V_iconst (pc := 1300) dL_law_1300 ?_
  refine V_iadd (pc := 1301) dL_law_1301 ?_
  refine V_sld (pc := 1302) dL_law_1302 (by rw [h92]; exact hn) hnN (by omega) (v := σ 92 0 (i + 2)) (by rw [h92]) ?_
  refine V_callV2i (pc := 1303) dL_law_1303 kv_L_157 rc_34 (by omega) (d - 1) (by omega) rfl (V.sci (c_X6_leaves (by omega) hM1.1 hG1 hM1.2.1 (hs _) (hs _))) (fun v2 σ2 h2 => ?_)
  have hC2 := h2.1.2.fm.crl hC1
  have hM2 := h2.1.2.mrl hM1
  have h93 : σ2 92 = σ 92 := h2.2.trans h92
  refine V_icmp_same (pc := 1306) 2578 dL_law_1306 (by decide) (h1.1.1.trans h2.1.1.symm) ?_
  exact kk _ _ hC2 hM2 h93

set_option maxRecDepth 20000 in
set_option maxHeartbeats 1000000 in
theorem law_35 {d : Nat} (hd : 57 ≤ d) {σ : MM} {X : CST} {i n : Int} (hn : σ 92 1 0 = n) (hi : 0 ≤ i ∧ i + 6 ≤ n) (hnN : n ≤ 3072) (hs : ∀ z : Int, IR (σ 92 0 z)) (hC : CRl σ X) (hM : MRl σ X) (kk : ∀ (σ' : MM) (X' : CST), CRl σ' X' → MRl σ' X' → σ' 92 = σ 92 → V yL_law cL_law 4 (some .boolean) d LQ 2578 [some (vR 92 0), some (vR 0 0), some (vR 34 0), some (vI i)] [] σ') : V yL_law cL_law 4 (some .boolean) d LQ 1311 [some (vR 92 0), some (vR 0 0), some (vR 34 0), some (vI i)] [] σ := by
  refine V_aload_1 (pc := 1311) dL_law_1311 ?_
  refine V_aload_0 (pc := 1312) dL_law_1312 ?_
  refine V_iload_3 (pc := 1313) dL_law_1313 ?_
  refine V_iconst (pc := 1314) dL_law_1314 ?_
  refine V_iadd (pc := 1315) dL_law_1315 ?_
  refine V_sld (pc := 1316) dL_law_1316 hn hnN (by omega) (v := σ 92 0 (i + 1)) rfl ?_
  refine V_aload_0 (pc := 1317) dL_law_1317 ?_
  refine V_iload_3 (pc := 1318) dL_law_1318 ?_
  refine V_iconst (pc := 1319) dL_law_1319 ?_
  refine V_iadd (pc := 1320) dL_law_1320 ?_
  refine V_sld (pc := 1321) dL_law_1321 hn hnN (by omega) (v := σ 92 0 (i + 2)) rfl ?_
  refine V_callV2i (pc := 1322) dL_law_1322 kv_L_158 rc_0 (by omega) (d - 1) (by omega) rfl (V.sci (c_X5_kinds (by omega) hC.b hC.g hC.z (hs _) (hs _))) (fun v1 σ1 h1 => ?_)
  have h92 := h1.2
  have hC1 := h1.1.2.crl hC
  have hM1 := h1.1.2.fc.mrl hM
  have hO1 := hC.ok
  have hG1 := hC.g
  refine V_aload_2 (pc := 1325) dL_law_1325 ?_
  refine V_aload_0 (pc := 1326) dL_law_1326 ?_
  refine V_iload_3 (pc := 1327) dL_law_1327 ?_
  refine V_iconst (pc := 1328) dL_law_1328 ?_
  refine V_iadd (pc := 1329) dL_law_1329 ?_
  refine V_sld (pc := 1330) dL_law_1330 (by rw [h92]; exact hn) hnN (by omega) (v := σ 92 0 (i + 1)) (by rw [h92]) ?_
  refine V_aload_0 (pc := 1331) dL_law_1331 ?_
  refine V_iload_3 (pc := 1332) dL_law_1332 ?_
  refine V_iconst (pc := 1333) dL_law_1333 ?_
  refine V_iadd (pc := 1334) dL_law_1334 ?_
  refine V_sld (pc := 1335) dL_law_1335 (by rw [h92]; exact hn) hnN (by omega) (v := σ 92 0 (i + 2)) (by rw [h92]) ?_
  refine V_callV2i (pc := 1336) dL_law_1336 kv_L_161 rc_34 (by omega) (d - 1) (by omega) rfl (V.sci (c_X6_kinds (by omega) hM1.1 hG1 hM1.2.1 (hs _) (hs _))) (fun v2 σ2 h2 => ?_)
  have hC2 := h2.1.2.fm.crl hC1
  have hM2 := h2.1.2.mrl hM1
  have h93 : σ2 92 = σ 92 := h2.2.trans h92
  refine V_icmp_same (pc := 1339) 2578 dL_law_1339 (by decide) (h1.1.1.trans h2.1.1.symm) ?_
  exact kk _ _ hC2 hM2 h93

set_option maxRecDepth 20000 in
set_option maxHeartbeats 1000000 in
theorem law_36 {d : Nat} (hd : 57 ≤ d) {σ : MM} {X : CST} {i n : Int} (hn : σ 92 1 0 = n) (hi : 0 ≤ i ∧ i + 6 ≤ n) (hnN : n ≤ 3072) (hs : ∀ z : Int, IR (σ 92 0 z)) (hC : CRl σ X) (hM : MRl σ X) (kk : ∀ (σ' : MM) (X' : CST), CRl σ' X' → MRl σ' X' → σ' 92 = σ 92 → V yL_law cL_law 4 (some .boolean) d LQ 2578 [some (vR 92 0), some (vR 0 0), some (vR 34 0), some (vI i)] [] σ') : V yL_law cL_law 4 (some .boolean) d LQ 1344 [some (vR 92 0), some (vR 0 0), some (vR 34 0), some (vI i)] [] σ := by
  refine V_aload_1 (pc := 1344) dL_law_1344 ?_
  refine V_aload_0 (pc := 1345) dL_law_1345 ?_
  refine V_iload_3 (pc := 1346) dL_law_1346 ?_
  refine V_iconst (pc := 1347) dL_law_1347 ?_
  refine V_iadd (pc := 1348) dL_law_1348 ?_
  refine V_sld (pc := 1349) dL_law_1349 hn hnN (by omega) (v := σ 92 0 (i + 1)) rfl ?_
  refine V_callV1i (pc := 1350) dL_law_1350 kv_L_162 rc_0 (by omega) (d - 1) (by omega) rfl (V.sci (c_X5_laws (by omega) hC.b hC.g hC.z (hs _))) (fun v1 σ1 h1 => ?_)
  have h92 := h1.2
  have hC1 := h1.1.2.crl hC
  have hM1 := h1.1.2.fc.mrl hM
  have hO1 := hC.ok
  have hG1 := hC.g
  refine V_aload_2 (pc := 1353) dL_law_1353 ?_
  refine V_aload_0 (pc := 1354) dL_law_1354 ?_
  refine V_iload_3 (pc := 1355) dL_law_1355 ?_
  refine V_iconst (pc := 1356) dL_law_1356 ?_
  refine V_iadd (pc := 1357) dL_law_1357 ?_
  refine V_sld (pc := 1358) dL_law_1358 (by rw [h92]; exact hn) hnN (by omega) (v := σ 92 0 (i + 1)) (by rw [h92]) ?_
  refine V_callV1i (pc := 1359) dL_law_1359 kv_L_165 rc_34 (by omega) (d - 1) (by omega) rfl (V.sci (c_X6_laws (by omega) hM1.1 hG1 hM1.2.1 (hs _))) (fun v2 σ2 h2 => ?_)
  have hC2 := h2.1.2.fm.crl hC1
  have hM2 := h2.1.2.mrl hM1
  have h93 : σ2 92 = σ 92 := h2.2.trans h92
  refine V_icmp_same (pc := 1362) 2578 dL_law_1362 (by decide) (h1.1.1.trans h2.1.1.symm) ?_
  exact kk _ _ hC2 hM2 h93

set_option maxRecDepth 20000 in
set_option maxHeartbeats 1000000 in
theorem law_37 {d : Nat} (hd : 57 ≤ d) {σ : MM} {X : CST} {i n : Int} (hn : σ 92 1 0 = n) (hi : 0 ≤ i ∧ i + 6 ≤ n) (hnN : n ≤ 3072) (hs : ∀ z : Int, IR (σ 92 0 z)) (hC : CRl σ X) (hM : MRl σ X) (kk : ∀ (σ' : MM) (X' : CST), CRl σ' X' → MRl σ' X' → σ' 92 = σ 92 → V yL_law cL_law 4 (some .boolean) d LQ 2578 [some (vR 92 0), some (vR 0 0), some (vR 34 0), some (vI i)] [] σ') : V yL_law cL_law 4 (some .boolean) d LQ 1367 [some (vR 92 0), some (vR 0 0), some (vR 34 0), some (vI i)] [] σ := by
  refine V_aload_1 (pc := 1367) dL_law_1367 ?_
  refine V_aload_0 (pc := 1368) dL_law_1368 ?_
  refine V_iload_3 (pc := 1369) dL_law_1369 ?_
  refine V_iconst (pc := 1370) dL_law_1370 ?_
  refine V_iadd (pc := 1371) dL_law_1371 ?_
  refine V_sld (pc := 1372) dL_law_1372 hn hnN (by omega) (v := σ 92 0 (i + 1)) rfl ?_
  refine V_callV1i (pc := 1373) dL_law_1373 kv_L_166 rc_0 (by omega) (d - 1) (by omega) rfl (V.sci (c_X5_by (by omega) hC.b hC.g (hs _))) (fun v1 σ1 h1 => ?_)
  have h92 := h1.2
  have hC1 := h1.1.2.crl hC
  have hM1 := h1.1.2.fc.mrl hM
  have hO1 := hC.ok
  have hG1 := hC.g
  refine V_aload_2 (pc := 1376) dL_law_1376 ?_
  refine V_aload_0 (pc := 1377) dL_law_1377 ?_
  refine V_iload_3 (pc := 1378) dL_law_1378 ?_
  refine V_iconst (pc := 1379) dL_law_1379 ?_
  refine V_iadd (pc := 1380) dL_law_1380 ?_
  refine V_sld (pc := 1381) dL_law_1381 (by rw [h92]; exact hn) hnN (by omega) (v := σ 92 0 (i + 1)) (by rw [h92]) ?_
  refine V_callV1i (pc := 1382) dL_law_1382 kv_L_169 rc_34 (by omega) (d - 1) (by omega) rfl (V.sci (c_X6_by (by omega) hM1.1 hG1 (hs _))) (fun v2 σ2 h2 => ?_)
  have hC2 := h2.1.2.fm.crl hC1
  have hM2 := h2.1.2.mrl hM1
  have h93 : σ2 92 = σ 92 := h2.2.trans h92
  refine V_icmp_same (pc := 1385) 2578 dL_law_1385 (by decide) (h1.1.1.trans h2.1.1.symm) ?_
  exact kk _ _ hC2 hM2 h93

set_option maxRecDepth 20000 in
set_option maxHeartbeats 1000000 in
theorem law_38 {d : Nat} (hd : 57 ≤ d) {σ : MM} {X : CST} {i n : Int} (hn : σ 92 1 0 = n) (hi : 0 ≤ i ∧ i + 6 ≤ n) (hnN : n ≤ 3072) (hs : ∀ z : Int, IR (σ 92 0 z)) (hC : CRl σ X) (hM : MRl σ X) (kk : ∀ (σ' : MM) (X' : CST), CRl σ' X' → MRl σ' X' → σ' 92 = σ 92 → V yL_law cL_law 4 (some .boolean) d LQ 2578 [some (vR 92 0), some (vR 0 0), some (vR 34 0), some (vI i)] [] σ') : V yL_law cL_law 4 (some .boolean) d LQ 1390 [some (vR 92 0), some (vR 0 0), some (vR 34 0), some (vI i)] [] σ := by
  refine V_aload_1 (pc := 1390) dL_law_1390 ?_
  refine V_callV0i (pc := 1391) dL_law_1391 kv_L_170 rc_0 (by omega) (d - 1) (by omega) rfl (V.sci (c_X5_law (by omega) hC.b hC.g)) (fun v1 σ1 h1 => ?_)
  have h92 := h1.2
  have hC1 := h1.1.2.crl hC
  have hM1 := h1.1.2.fc.mrl hM
  have hO1 := hC.ok
  have hG1 := hC.g
  refine V_aload_2 (pc := 1394) dL_law_1394 ?_
  refine V_callV0i (pc := 1395) dL_law_1395 kv_L_173 rc_34 (by omega) (d - 1) (by omega) rfl (V.sci (c_X6_law (by omega) hM1.1 hG1)) (fun v2 σ2 h2 => ?_)
  have hC2 := h2.1.2.fm.crl hC1
  have hM2 := h2.1.2.mrl hM1
  have h93 : σ2 92 = σ 92 := h2.2.trans h92
  refine V_icmp_same (pc := 1398) 2578 dL_law_1398 (by decide) (h1.1.1.trans h2.1.1.symm) ?_
  exact kk _ _ hC2 hM2 h93

set_option maxRecDepth 20000 in
set_option maxHeartbeats 1000000 in
theorem law_39 {d : Nat} (hd : 57 ≤ d) {σ : MM} {X : CST} {i n : Int} (hn : σ 92 1 0 = n) (hi : 0 ≤ i ∧ i + 6 ≤ n) (hnN : n ≤ 3072) (hs : ∀ z : Int, IR (σ 92 0 z)) (hC : CRl σ X) (hM : MRl σ X) (kk : ∀ (σ' : MM) (X' : CST), CRl σ' X' → MRl σ' X' → σ' 92 = σ 92 → V yL_law cL_law 4 (some .boolean) d LQ 2578 [some (vR 92 0), some (vR 0 0), some (vR 34 0), some (vI i)] [] σ') : V yL_law cL_law 4 (some .boolean) d LQ 1403 [some (vR 92 0), some (vR 0 0), some (vR 34 0), some (vI i)] [] σ := by
  refine V_aload_1 (pc := 1403) dL_law_1403 ?_
  refine V_aload_0 (pc := 1404) dL_law_1404 ?_
  refine V_iload_3 (pc := 1405) dL_law_1405 ?_
  refine V_iconst (pc := 1406) dL_law_1406 ?_
  refine V_iadd (pc := 1407) dL_law_1407 ?_
  refine V_sld (pc := 1408) dL_law_1408 hn hnN (by omega) (v := σ 92 0 (i + 1)) rfl ?_
  refine V_aload_0 (pc := 1409) dL_law_1409 ?_
  refine V_iload_3 (pc := 1410) dL_law_1410 ?_
  refine V_iconst (pc := 1411) dL_law_1411 ?_
  refine V_iadd (pc := 1412) dL_law_1412 ?_
  refine V_sld (pc := 1413) dL_law_1413 hn hnN (by omega) (v := σ 92 0 (i + 2)) rfl ?_
  refine V_callV2i (pc := 1414) dL_law_1414 kv_L_174 rc_0 (by omega) (d - 1) (by omega) rfl (V.sci (c_X5_bold (by omega) hC.b hC.w hC.c (hs _) (hs _))) (fun v1 σ1 h1 => ?_)
  have h92 := h1.2
  have hC1 : CRl σ1 X := by rw [h1.1.2]; exact hC
  have hM1 : MRl σ1 X := by rw [h1.1.2]; exact hM
  have hO1 := hC.ok
  have hG1 := hC.g
  refine V_aload_2 (pc := 1417) dL_law_1417 ?_
  refine V_aload_0 (pc := 1418) dL_law_1418 ?_
  refine V_iload_3 (pc := 1419) dL_law_1419 ?_
  refine V_iconst (pc := 1420) dL_law_1420 ?_
  refine V_iadd (pc := 1421) dL_law_1421 ?_
  refine V_sld (pc := 1422) dL_law_1422 (by rw [h92]; exact hn) hnN (by omega) (v := σ 92 0 (i + 1)) (by rw [h92]) ?_
  refine V_aload_0 (pc := 1423) dL_law_1423 ?_
  refine V_iload_3 (pc := 1424) dL_law_1424 ?_
  refine V_iconst (pc := 1425) dL_law_1425 ?_
  refine V_iadd (pc := 1426) dL_law_1426 ?_
  refine V_sld (pc := 1427) dL_law_1427 (by rw [h92]; exact hn) hnN (by omega) (v := σ 92 0 (i + 2)) (by rw [h92]) ?_
  refine V_callV2i (pc := 1428) dL_law_1428 kv_L_177 rc_34 (by omega) (d - 1) (by omega) rfl (V.sci (c_X6_bold (by omega) hM1.1 hG1 (hs _) (hs _))) (fun v2 σ2 h2 => ?_)
  have hC2 := h2.1.2.fm.crl hC1
  have hM2 := h2.1.2.mrl hM1
  have h93 : σ2 92 = σ 92 := h2.2.trans h92
  refine V_icmp_same (pc := 1431) 2578 dL_law_1431 (by decide) (h1.1.1.trans h2.1.1.symm) ?_
  exact kk _ _ hC2 hM2 h93

set_option maxRecDepth 20000 in
set_option maxHeartbeats 1000000 in
theorem law_40 {d : Nat} (hd : 57 ≤ d) {σ : MM} {X : CST} {i n : Int} (hn : σ 92 1 0 = n) (hi : 0 ≤ i ∧ i + 6 ≤ n) (hnN : n ≤ 3072) (hs : ∀ z : Int, IR (σ 92 0 z)) (hC : CRl σ X) (hM : MRl σ X) (kk : ∀ (σ' : MM) (X' : CST), CRl σ' X' → MRl σ' X' → σ' 92 = σ 92 → V yL_law cL_law 4 (some .boolean) d LQ 2578 [some (vR 92 0), some (vR 0 0), some (vR 34 0), some (vI i)] [] σ') : V yL_law cL_law 4 (some .boolean) d LQ 1436 [some (vR 92 0), some (vR 0 0), some (vR 34 0), some (vI i)] [] σ := by
  refine V_aload_1 (pc := 1436) dL_law_1436 ?_
  refine V_aload_0 (pc := 1437) dL_law_1437 ?_
  refine V_iload_3 (pc := 1438) dL_law_1438 ?_
  refine V_iconst (pc := 1439) dL_law_1439 ?_
  refine V_iadd (pc := 1440) dL_law_1440 ?_
  refine V_sld (pc := 1441) dL_law_1441 hn hnN (by omega) (v := σ 92 0 (i + 1)) rfl ?_
  refine V_aload_0 (pc := 1442) dL_law_1442 ?_
  refine V_iload_3 (pc := 1443) dL_law_1443 ?_
  refine V_iconst (pc := 1444) dL_law_1444 ?_
  refine V_iadd (pc := 1445) dL_law_1445 ?_
  refine V_sld (pc := 1446) dL_law_1446 hn hnN (by omega) (v := σ 92 0 (i + 2)) rfl ?_
  refine V_callV2i (pc := 1447) dL_law_1447 kv_L_178 rc_0 (by omega) (d - 1) (by omega) rfl (V.sci (c_X5_sum (by omega) hC.b hC.w hC.c (hs _) (hs _))) (fun v1 σ1 h1 => ?_)
  have h92 := h1.2
  have hC1 : CRl σ1 X := by rw [h1.1.2]; exact hC
  have hM1 : MRl σ1 X := by rw [h1.1.2]; exact hM
  have hO1 := hC.ok
  have hG1 := hC.g
  refine V_aload_2 (pc := 1450) dL_law_1450 ?_
  refine V_aload_0 (pc := 1451) dL_law_1451 ?_
  refine V_iload_3 (pc := 1452) dL_law_1452 ?_
  refine V_iconst (pc := 1453) dL_law_1453 ?_
  refine V_iadd (pc := 1454) dL_law_1454 ?_
  refine V_sld (pc := 1455) dL_law_1455 (by rw [h92]; exact hn) hnN (by omega) (v := σ 92 0 (i + 1)) (by rw [h92]) ?_
  refine V_aload_0 (pc := 1456) dL_law_1456 ?_
  refine V_iload_3 (pc := 1457) dL_law_1457 ?_
  refine V_iconst (pc := 1458) dL_law_1458 ?_
  refine V_iadd (pc := 1459) dL_law_1459 ?_
  refine V_sld (pc := 1460) dL_law_1460 (by rw [h92]; exact hn) hnN (by omega) (v := σ 92 0 (i + 2)) (by rw [h92]) ?_
  refine V_callV2i (pc := 1461) dL_law_1461 kv_L_181 rc_34 (by omega) (d - 1) (by omega) rfl (V.sci (c_X6_sum (by omega) hM1.1 hG1 (hs _) (hs _))) (fun v2 σ2 h2 => ?_)
  have hC2 := h2.1.2.fm.crl hC1
  have hM2 := h2.1.2.mrl hM1
  have h93 : σ2 92 = σ 92 := h2.2.trans h92
  refine V_icmp_same (pc := 1464) 2578 dL_law_1464 (by decide) (h1.1.1.trans h2.1.1.symm) ?_
  exact kk _ _ hC2 hM2 h93

set_option maxRecDepth 20000 in
set_option maxHeartbeats 1000000 in
theorem law_41 {d : Nat} (hd : 57 ≤ d) {σ : MM} {X : CST} {i n : Int} (hn : σ 92 1 0 = n) (hi : 0 ≤ i ∧ i + 6 ≤ n) (hnN : n ≤ 3072) (hs : ∀ z : Int, IR (σ 92 0 z)) (hC : CRl σ X) (hM : MRl σ X) (kk : ∀ (σ' : MM) (X' : CST), CRl σ' X' → MRl σ' X' → σ' 92 = σ 92 → V yL_law cL_law 4 (some .boolean) d LQ 2578 [some (vR 92 0), some (vR 0 0), some (vR 34 0), some (vI i)] [] σ') : V yL_law cL_law 4 (some .boolean) d LQ 1469 [some (vR 92 0), some (vR 0 0), some (vR 34 0), some (vI i)] [] σ := by
  refine V_aload_1 (pc := 1469) dL_law_1469 ?_
  refine V_aload_0 (pc := 1470) dL_law_1470 ?_
  refine V_iload_3 (pc := 1471) dL_law_1471 ?_
  refine V_iconst (pc := 1472) dL_law_1472 ?_
  refine V_iadd (pc := 1473) dL_law_1473 ?_
  refine V_sld (pc := 1474) dL_law_1474 hn hnN (by omega) (v := σ 92 0 (i + 1)) rfl ?_
  refine V_callV1i (pc := 1475) dL_law_1475 kv_L_182 rc_0 (by omega) (d - 1) (by omega) rfl (V.sci (c_X5_spread (by omega) hC.b hC.w hC.c (hs _))) (fun v1 σ1 h1 => ?_)
  have h92 := h1.2
  have hC1 : CRl σ1 X := by rw [h1.1.2]; exact hC
  have hM1 : MRl σ1 X := by rw [h1.1.2]; exact hM
  have hO1 := hC.ok
  have hG1 := hC.g
  refine V_aload_2 (pc := 1478) dL_law_1478 ?_
  refine V_aload_0 (pc := 1479) dL_law_1479 ?_
  refine V_iload_3 (pc := 1480) dL_law_1480 ?_
  refine V_iconst (pc := 1481) dL_law_1481 ?_
  refine V_iadd (pc := 1482) dL_law_1482 ?_
  refine V_sld (pc := 1483) dL_law_1483 (by rw [h92]; exact hn) hnN (by omega) (v := σ 92 0 (i + 1)) (by rw [h92]) ?_
  refine V_callV1i (pc := 1484) dL_law_1484 kv_L_185 rc_34 (by omega) (d - 1) (by omega) rfl (V.sci (c_X6_spread (by omega) hM1.1 hG1 (hs _))) (fun v2 σ2 h2 => ?_)
  have hC2 := h2.1.2.fm.crl hC1
  have hM2 := h2.1.2.mrl hM1
  have h93 : σ2 92 = σ 92 := h2.2.trans h92
  refine V_icmp_same (pc := 1487) 2578 dL_law_1487 (by decide) (h1.1.1.trans h2.1.1.symm) ?_
  exact kk _ _ hC2 hM2 h93

set_option maxRecDepth 20000 in
set_option maxHeartbeats 1000000 in
theorem law_42 {d : Nat} (hd : 57 ≤ d) {σ : MM} {X : CST} {i n : Int} (hn : σ 92 1 0 = n) (hi : 0 ≤ i ∧ i + 6 ≤ n) (hnN : n ≤ 3072) (hs : ∀ z : Int, IR (σ 92 0 z)) (hC : CRl σ X) (hM : MRl σ X) (kk : ∀ (σ' : MM) (X' : CST), CRl σ' X' → MRl σ' X' → σ' 92 = σ 92 → V yL_law cL_law 4 (some .boolean) d LQ 2578 [some (vR 92 0), some (vR 0 0), some (vR 34 0), some (vI i)] [] σ') : V yL_law cL_law 4 (some .boolean) d LQ 1492 [some (vR 92 0), some (vR 0 0), some (vR 34 0), some (vI i)] [] σ := by
  refine V_aload_1 (pc := 1492) dL_law_1492 ?_
  refine V_aload_0 (pc := 1493) dL_law_1493 ?_
  refine V_iload_3 (pc := 1494) dL_law_1494 ?_
  refine V_iconst (pc := 1495) dL_law_1495 ?_
  refine V_iadd (pc := 1496) dL_law_1496 ?_
  refine V_sld (pc := 1497) dL_law_1497 hn hnN (by omega) (v := σ 92 0 (i + 1)) rfl ?_
  refine V_callV1i (pc := 1498) dL_law_1498 kv_L_186 rc_0 (by omega) (d - 1) (by omega) rfl (V.sci (c_X5_uses (by omega) hC.b hC.w (hs _))) (fun v1 σ1 h1 => ?_)
  have h92 := h1.2
  have hC1 : CRl σ1 X := by rw [h1.1.2]; exact hC
  have hM1 : MRl σ1 X := by rw [h1.1.2]; exact hM
  have hO1 := hC.ok
  have hG1 := hC.g
  refine V_aload_2 (pc := 1501) dL_law_1501 ?_
  refine V_aload_0 (pc := 1502) dL_law_1502 ?_
  refine V_iload_3 (pc := 1503) dL_law_1503 ?_
  refine V_iconst (pc := 1504) dL_law_1504 ?_
  refine V_iadd (pc := 1505) dL_law_1505 ?_
  refine V_sld (pc := 1506) dL_law_1506 (by rw [h92]; exact hn) hnN (by omega) (v := σ 92 0 (i + 1)) (by rw [h92]) ?_
  refine V_callV1i (pc := 1507) dL_law_1507 kv_L_189 rc_34 (by omega) (d - 1) (by omega) rfl (V.sci (c_X6_uses (by omega) hM1.1 hG1 (hs _))) (fun v2 σ2 h2 => ?_)
  have hC2 := h2.1.2.fm.crl hC1
  have hM2 := h2.1.2.mrl hM1
  have h93 : σ2 92 = σ 92 := h2.2.trans h92
  refine V_icmp_same (pc := 1510) 2578 dL_law_1510 (by decide) (h1.1.1.trans h2.1.1.symm) ?_
  exact kk _ _ hC2 hM2 h93

set_option maxRecDepth 20000 in
set_option maxHeartbeats 1000000 in
theorem law_43 {d : Nat} (hd : 57 ≤ d) {σ : MM} {X : CST} {i n : Int} (hn : σ 92 1 0 = n) (hi : 0 ≤ i ∧ i + 6 ≤ n) (hnN : n ≤ 3072) (hs : ∀ z : Int, IR (σ 92 0 z)) (hC : CRl σ X) (hM : MRl σ X) (kk : ∀ (σ' : MM) (X' : CST), CRl σ' X' → MRl σ' X' → σ' 92 = σ 92 → V yL_law cL_law 4 (some .boolean) d LQ 2578 [some (vR 92 0), some (vR 0 0), some (vR 34 0), some (vI i)] [] σ') : V yL_law cL_law 4 (some .boolean) d LQ 1515 [some (vR 92 0), some (vR 0 0), some (vR 34 0), some (vI i)] [] σ := by
  refine V_aload_1 (pc := 1515) dL_law_1515 ?_
  refine V_aload_0 (pc := 1516) dL_law_1516 ?_
  refine V_iload_3 (pc := 1517) dL_law_1517 ?_
  refine V_iconst (pc := 1518) dL_law_1518 ?_
  refine V_iadd (pc := 1519) dL_law_1519 ?_
  refine V_sld (pc := 1520) dL_law_1520 hn hnN (by omega) (v := σ 92 0 (i + 1)) rfl ?_
  refine V_callV1i (pc := 1521) dL_law_1521 kv_L_190 rc_0 (by omega) (d - 1) (by omega) rfl (V.sci (c_X5_newest (by omega) hC.b hC.w (hs _))) (fun v1 σ1 h1 => ?_)
  have h92 := h1.2
  have hC1 : CRl σ1 X := by rw [h1.1.2]; exact hC
  have hM1 : MRl σ1 X := by rw [h1.1.2]; exact hM
  have hO1 := hC.ok
  have hG1 := hC.g
  refine V_aload_2 (pc := 1524) dL_law_1524 ?_
  refine V_aload_0 (pc := 1525) dL_law_1525 ?_
  refine V_iload_3 (pc := 1526) dL_law_1526 ?_
  refine V_iconst (pc := 1527) dL_law_1527 ?_
  refine V_iadd (pc := 1528) dL_law_1528 ?_
  refine V_sld (pc := 1529) dL_law_1529 (by rw [h92]; exact hn) hnN (by omega) (v := σ 92 0 (i + 1)) (by rw [h92]) ?_
  refine V_callV1i (pc := 1530) dL_law_1530 kv_L_193 rc_34 (by omega) (d - 1) (by omega) rfl (V.sci (c_X6_newest (by omega) hM1.1 hG1 (hs _))) (fun v2 σ2 h2 => ?_)
  have hC2 := h2.1.2.fm.crl hC1
  have hM2 := h2.1.2.mrl hM1
  have h93 : σ2 92 = σ 92 := h2.2.trans h92
  refine V_icmp_same (pc := 1533) 2578 dL_law_1533 (by decide) (h1.1.1.trans h2.1.1.symm) ?_
  exact kk _ _ hC2 hM2 h93

set_option maxRecDepth 20000 in
set_option maxHeartbeats 1000000 in
theorem law_44 {d : Nat} (hd : 57 ≤ d) {σ : MM} {X : CST} {i n : Int} (hn : σ 92 1 0 = n) (hi : 0 ≤ i ∧ i + 6 ≤ n) (hnN : n ≤ 3072) (hs : ∀ z : Int, IR (σ 92 0 z)) (hC : CRl σ X) (hM : MRl σ X) (kk : ∀ (σ' : MM) (X' : CST), CRl σ' X' → MRl σ' X' → σ' 92 = σ 92 → V yL_law cL_law 4 (some .boolean) d LQ 2578 [some (vR 92 0), some (vR 0 0), some (vR 34 0), some (vI i)] [] σ') : V yL_law cL_law 4 (some .boolean) d LQ 1538 [some (vR 92 0), some (vR 0 0), some (vR 34 0), some (vI i)] [] σ := by
  refine V_aload_1 (pc := 1538) dL_law_1538 ?_
  refine V_aload_0 (pc := 1539) dL_law_1539 ?_
  refine V_iload_3 (pc := 1540) dL_law_1540 ?_
  refine V_iconst (pc := 1541) dL_law_1541 ?_
  refine V_iadd (pc := 1542) dL_law_1542 ?_
  refine V_sld (pc := 1543) dL_law_1543 hn hnN (by omega) (v := σ 92 0 (i + 1)) rfl ?_
  refine V_callV1i (pc := 1544) dL_law_1544 kv_L_194 rc_0 (by omega) (d - 1) (by omega) rfl (V.sci (c_X5_oldest (by omega) hC.b hC.w (hs _))) (fun v1 σ1 h1 => ?_)
  have h92 := h1.2
  have hC1 : CRl σ1 X := by rw [h1.1.2]; exact hC
  have hM1 : MRl σ1 X := by rw [h1.1.2]; exact hM
  have hO1 := hC.ok
  have hG1 := hC.g
  refine V_aload_2 (pc := 1547) dL_law_1547 ?_
  refine V_aload_0 (pc := 1548) dL_law_1548 ?_
  refine V_iload_3 (pc := 1549) dL_law_1549 ?_
  refine V_iconst (pc := 1550) dL_law_1550 ?_
  refine V_iadd (pc := 1551) dL_law_1551 ?_
  refine V_sld (pc := 1552) dL_law_1552 (by rw [h92]; exact hn) hnN (by omega) (v := σ 92 0 (i + 1)) (by rw [h92]) ?_
  refine V_callV1i (pc := 1553) dL_law_1553 kv_L_197 rc_34 (by omega) (d - 1) (by omega) rfl (V.sci (c_X6_oldest (by omega) hM1.1 hG1 (hs _))) (fun v2 σ2 h2 => ?_)
  have hC2 := h2.1.2.fm.crl hC1
  have hM2 := h2.1.2.mrl hM1
  have h93 : σ2 92 = σ 92 := h2.2.trans h92
  refine V_icmp_same (pc := 1556) 2578 dL_law_1556 (by decide) (h1.1.1.trans h2.1.1.symm) ?_
  exact kk _ _ hC2 hM2 h93

set_option maxRecDepth 20000 in
set_option maxHeartbeats 1000000 in
theorem law_45 {d : Nat} (hd : 57 ≤ d) {σ : MM} {X : CST} {i n : Int} (hn : σ 92 1 0 = n) (hi : 0 ≤ i ∧ i + 6 ≤ n) (hnN : n ≤ 3072) (hs : ∀ z : Int, IR (σ 92 0 z)) (hC : CRl σ X) (hM : MRl σ X) (kk : ∀ (σ' : MM) (X' : CST), CRl σ' X' → MRl σ' X' → σ' 92 = σ 92 → V yL_law cL_law 4 (some .boolean) d LQ 2578 [some (vR 92 0), some (vR 0 0), some (vR 34 0), some (vI i)] [] σ') : V yL_law cL_law 4 (some .boolean) d LQ 1561 [some (vR 92 0), some (vR 0 0), some (vR 34 0), some (vI i)] [] σ := by
  refine V_aload_1 (pc := 1561) dL_law_1561 ?_
  refine V_aload_0 (pc := 1562) dL_law_1562 ?_
  refine V_iload_3 (pc := 1563) dL_law_1563 ?_
  refine V_iconst (pc := 1564) dL_law_1564 ?_
  refine V_iadd (pc := 1565) dL_law_1565 ?_
  refine V_sld (pc := 1566) dL_law_1566 hn hnN (by omega) (v := σ 92 0 (i + 1)) rfl ?_
  refine V_callV1i (pc := 1567) dL_law_1567 kv_L_198 rc_0 (by omega) (d - 1) (by omega) rfl (V.sci (c_X5_steady (by omega) hC.b hC.w hC.c (hs _))) (fun v1 σ1 h1 => ?_)
  have h92 := h1.2
  have hC1 : CRl σ1 X := by rw [h1.1.2]; exact hC
  have hM1 : MRl σ1 X := by rw [h1.1.2]; exact hM
  have hO1 := hC.ok
  have hG1 := hC.g
  refine V_aload_2 (pc := 1570) dL_law_1570 ?_
  refine V_aload_0 (pc := 1571) dL_law_1571 ?_
  refine V_iload_3 (pc := 1572) dL_law_1572 ?_
  refine V_iconst (pc := 1573) dL_law_1573 ?_
  refine V_iadd (pc := 1574) dL_law_1574 ?_
  refine V_sld (pc := 1575) dL_law_1575 (by rw [h92]; exact hn) hnN (by omega) (v := σ 92 0 (i + 1)) (by rw [h92]) ?_
  refine V_callV1i (pc := 1576) dL_law_1576 kv_L_201 rc_34 (by omega) (d - 1) (by omega) rfl (V.sci (c_X6_steady (by omega) hM1.1 hG1 (hs _))) (fun v2 σ2 h2 => ?_)
  have hC2 := h2.1.2.fm.crl hC1
  have hM2 := h2.1.2.mrl hM1
  have h93 : σ2 92 = σ 92 := h2.2.trans h92
  refine V_icmp_same (pc := 1579) 2578 dL_law_1579 (by decide) (h1.1.1.trans h2.1.1.symm) ?_
  exact kk _ _ hC2 hM2 h93

set_option maxRecDepth 20000 in
set_option maxHeartbeats 1000000 in
theorem law_46 {d : Nat} (hd : 57 ≤ d) {σ : MM} {X : CST} {i n : Int} (hn : σ 92 1 0 = n) (hi : 0 ≤ i ∧ i + 6 ≤ n) (hnN : n ≤ 3072) (hs : ∀ z : Int, IR (σ 92 0 z)) (hC : CRl σ X) (hM : MRl σ X) (kk : ∀ (σ' : MM) (X' : CST), CRl σ' X' → MRl σ' X' → σ' 92 = σ 92 → V yL_law cL_law 4 (some .boolean) d LQ 2578 [some (vR 92 0), some (vR 0 0), some (vR 34 0), some (vI i)] [] σ') : V yL_law cL_law 4 (some .boolean) d LQ 1584 [some (vR 92 0), some (vR 0 0), some (vR 34 0), some (vI i)] [] σ := by
  refine V_aload_1 (pc := 1584) dL_law_1584 ?_
  refine V_aload_0 (pc := 1585) dL_law_1585 ?_
  refine V_iload_3 (pc := 1586) dL_law_1586 ?_
  refine V_iconst (pc := 1587) dL_law_1587 ?_
  refine V_iadd (pc := 1588) dL_law_1588 ?_
  refine V_sld (pc := 1589) dL_law_1589 hn hnN (by omega) (v := σ 92 0 (i + 1)) rfl ?_
  refine V_callV1i (pc := 1590) dL_law_1590 kv_L_202 rc_0 (by omega) (d - 1) (by omega) rfl (V.sci (c_X5_falls (by omega) hC.b hC.w hC.c (hs _))) (fun v1 σ1 h1 => ?_)
  have h92 := h1.2
  have hC1 : CRl σ1 X := by rw [h1.1.2]; exact hC
  have hM1 : MRl σ1 X := by rw [h1.1.2]; exact hM
  have hO1 := hC.ok
  have hG1 := hC.g
  refine V_aload_2 (pc := 1593) dL_law_1593 ?_
  refine V_aload_0 (pc := 1594) dL_law_1594 ?_
  refine V_iload_3 (pc := 1595) dL_law_1595 ?_
  refine V_iconst (pc := 1596) dL_law_1596 ?_
  refine V_iadd (pc := 1597) dL_law_1597 ?_
  refine V_sld (pc := 1598) dL_law_1598 (by rw [h92]; exact hn) hnN (by omega) (v := σ 92 0 (i + 1)) (by rw [h92]) ?_
  refine V_callV1i (pc := 1599) dL_law_1599 kv_L_205 rc_34 (by omega) (d - 1) (by omega) rfl (V.sci (c_X6_falls (by omega) hM1.1 hG1 (hs _))) (fun v2 σ2 h2 => ?_)
  have hC2 := h2.1.2.fm.crl hC1
  have hM2 := h2.1.2.mrl hM1
  have h93 : σ2 92 = σ 92 := h2.2.trans h92
  refine V_icmp_same (pc := 1602) 2578 dL_law_1602 (by decide) (h1.1.1.trans h2.1.1.symm) ?_
  exact kk _ _ hC2 hM2 h93

set_option maxRecDepth 20000 in
set_option maxHeartbeats 1000000 in
theorem law_47 {d : Nat} (hd : 57 ≤ d) {σ : MM} {X : CST} {i n : Int} (hn : σ 92 1 0 = n) (hi : 0 ≤ i ∧ i + 6 ≤ n) (hnN : n ≤ 3072) (hs : ∀ z : Int, IR (σ 92 0 z)) (hC : CRl σ X) (hM : MRl σ X) (kk : ∀ (σ' : MM) (X' : CST), CRl σ' X' → MRl σ' X' → σ' 92 = σ 92 → V yL_law cL_law 4 (some .boolean) d LQ 2578 [some (vR 92 0), some (vR 0 0), some (vR 34 0), some (vI i)] [] σ') : V yL_law cL_law 4 (some .boolean) d LQ 1607 [some (vR 92 0), some (vR 0 0), some (vR 34 0), some (vI i)] [] σ := by
  refine V_aload_1 (pc := 1607) dL_law_1607 ?_
  refine V_aload_0 (pc := 1608) dL_law_1608 ?_
  refine V_iload_3 (pc := 1609) dL_law_1609 ?_
  refine V_iconst (pc := 1610) dL_law_1610 ?_
  refine V_iadd (pc := 1611) dL_law_1611 ?_
  refine V_sld (pc := 1612) dL_law_1612 hn hnN (by omega) (v := σ 92 0 (i + 1)) rfl ?_
  refine V_aload_0 (pc := 1613) dL_law_1613 ?_
  refine V_iload_3 (pc := 1614) dL_law_1614 ?_
  refine V_iconst (pc := 1615) dL_law_1615 ?_
  refine V_iadd (pc := 1616) dL_law_1616 ?_
  refine V_sld (pc := 1617) dL_law_1617 hn hnN (by omega) (v := σ 92 0 (i + 2)) rfl ?_
  refine V_callV2i (pc := 1618) dL_law_1618 kv_L_206 rc_0 (by omega) (d - 1) (by omega) rfl (V.sci (c_X5_age (by omega) hC.b hC.w hC.c (hs _) (hs _))) (fun v1 σ1 h1 => ?_)
  have h92 := h1.2
  have hC1 : CRl σ1 X := by rw [h1.1.2]; exact hC
  have hM1 : MRl σ1 X := by rw [h1.1.2]; exact hM
  have hO1 := hC.ok
  have hG1 := hC.g
  refine V_aload_2 (pc := 1621) dL_law_1621 ?_
  refine V_aload_0 (pc := 1622) dL_law_1622 ?_
  refine V_iload_3 (pc := 1623) dL_law_1623 ?_
  refine V_iconst (pc := 1624) dL_law_1624 ?_
  refine V_iadd (pc := 1625) dL_law_1625 ?_
  refine V_sld (pc := 1626) dL_law_1626 (by rw [h92]; exact hn) hnN (by omega) (v := σ 92 0 (i + 1)) (by rw [h92]) ?_
  refine V_aload_0 (pc := 1627) dL_law_1627 ?_
  refine V_iload_3 (pc := 1628) dL_law_1628 ?_
  refine V_iconst (pc := 1629) dL_law_1629 ?_
  refine V_iadd (pc := 1630) dL_law_1630 ?_
  refine V_sld (pc := 1631) dL_law_1631 (by rw [h92]; exact hn) hnN (by omega) (v := σ 92 0 (i + 2)) (by rw [h92]) ?_
  refine V_callV2i (pc := 1632) dL_law_1632 kv_L_209 rc_34 (by omega) (d - 1) (by omega) rfl (V.sci (c_X6_age (by omega) hM1.1 hG1 (hs _) (hs _))) (fun v2 σ2 h2 => ?_)
  have hC2 := h2.1.2.fm.crl hC1
  have hM2 := h2.1.2.mrl hM1
  have h93 : σ2 92 = σ 92 := h2.2.trans h92
  refine V_icmp_same (pc := 1635) 2578 dL_law_1635 (by decide) (h1.1.1.trans h2.1.1.symm) ?_
  exact kk _ _ hC2 hM2 h93

set_option maxRecDepth 20000 in
set_option maxHeartbeats 1000000 in
theorem law_48 {d : Nat} (hd : 57 ≤ d) {σ : MM} {X : CST} {i n : Int} (hn : σ 92 1 0 = n) (hi : 0 ≤ i ∧ i + 6 ≤ n) (hnN : n ≤ 3072) (hs : ∀ z : Int, IR (σ 92 0 z)) (hC : CRl σ X) (hM : MRl σ X) (kk : ∀ (σ' : MM) (X' : CST), CRl σ' X' → MRl σ' X' → σ' 92 = σ 92 → V yL_law cL_law 4 (some .boolean) d LQ 2578 [some (vR 92 0), some (vR 0 0), some (vR 34 0), some (vI i)] [] σ') : V yL_law cL_law 4 (some .boolean) d LQ 1640 [some (vR 92 0), some (vR 0 0), some (vR 34 0), some (vI i)] [] σ := by
  refine V_aload_1 (pc := 1640) dL_law_1640 ?_
  refine V_aload_0 (pc := 1641) dL_law_1641 ?_
  refine V_iload_3 (pc := 1642) dL_law_1642 ?_
  refine V_iconst (pc := 1643) dL_law_1643 ?_
  refine V_iadd (pc := 1644) dL_law_1644 ?_
  refine V_sld (pc := 1645) dL_law_1645 hn hnN (by omega) (v := σ 92 0 (i + 1)) rfl ?_
  refine V_callV1i (pc := 1646) dL_law_1646 kv_L_210 rc_0 (by omega) (d - 1) (by omega) rfl (V.sci (c_X5_honest (by omega) hC.b hC.w hC.c (hs _))) (fun v1 σ1 h1 => ?_)
  have h92 := h1.2
  have hC1 : CRl σ1 X := by rw [h1.1.2]; exact hC
  have hM1 : MRl σ1 X := by rw [h1.1.2]; exact hM
  have hO1 := hC.ok
  have hG1 := hC.g
  refine V_aload_2 (pc := 1649) dL_law_1649 ?_
  refine V_aload_0 (pc := 1650) dL_law_1650 ?_
  refine V_iload_3 (pc := 1651) dL_law_1651 ?_
  refine V_iconst (pc := 1652) dL_law_1652 ?_
  refine V_iadd (pc := 1653) dL_law_1653 ?_
  refine V_sld (pc := 1654) dL_law_1654 (by rw [h92]; exact hn) hnN (by omega) (v := σ 92 0 (i + 1)) (by rw [h92]) ?_
  refine V_callV1i (pc := 1655) dL_law_1655 kv_L_213 rc_34 (by omega) (d - 1) (by omega) rfl (V.sci (c_X6_honest (by omega) hM1.1 hG1 (hs _))) (fun v2 σ2 h2 => ?_)
  have hC2 := h2.1.2.fm.crl hC1
  have hM2 := h2.1.2.mrl hM1
  have h93 : σ2 92 = σ 92 := h2.2.trans h92
  refine V_icmp_same (pc := 1658) 2578 dL_law_1658 (by decide) (h1.1.1.trans h2.1.1.symm) ?_
  exact kk _ _ hC2 hM2 h93

set_option maxRecDepth 20000 in
set_option maxHeartbeats 1000000 in
theorem law_49 {d : Nat} (hd : 57 ≤ d) {σ : MM} {X : CST} {i n : Int} (hn : σ 92 1 0 = n) (hi : 0 ≤ i ∧ i + 6 ≤ n) (hnN : n ≤ 3072) (hs : ∀ z : Int, IR (σ 92 0 z)) (hC : CRl σ X) (hM : MRl σ X) (kk : ∀ (σ' : MM) (X' : CST), CRl σ' X' → MRl σ' X' → σ' 92 = σ 92 → V yL_law cL_law 4 (some .boolean) d LQ 2578 [some (vR 92 0), some (vR 0 0), some (vR 34 0), some (vI i)] [] σ') : V yL_law cL_law 4 (some .boolean) d LQ 1663 [some (vR 92 0), some (vR 0 0), some (vR 34 0), some (vI i)] [] σ := by
  refine V_aload_1 (pc := 1663) dL_law_1663 ?_
  refine V_callV0i (pc := 1664) dL_law_1664 kv_L_214 rc_0 (by omega) (d - 1) (by omega) rfl (V.sci (c_X5_peaks (by omega) hC.b hC.w hC.c)) (fun v1 σ1 h1 => ?_)
  have h92 := h1.2
  have hC1 : CRl σ1 X := by rw [h1.1.2]; exact hC
  have hM1 : MRl σ1 X := by rw [h1.1.2]; exact hM
  have hO1 := hC.ok
  have hG1 := hC.g
  refine V_aload_2 (pc := 1667) dL_law_1667 ?_
  refine V_callV0i (pc := 1668) dL_law_1668 kv_L_217 rc_34 (by omega) (d - 1) (by omega) rfl (V.sci (c_X6_peaks (by omega) hM1.1 hG1)) (fun v2 σ2 h2 => ?_)
  have hC2 := h2.1.2.fm.crl hC1
  have hM2 := h2.1.2.mrl hM1
  have h93 : σ2 92 = σ 92 := h2.2.trans h92
  refine V_icmp_same (pc := 1671) 2578 dL_law_1671 (by decide) (h1.1.1.trans h2.1.1.symm) ?_
  exact kk _ _ hC2 hM2 h93

set_option maxRecDepth 20000 in
set_option maxHeartbeats 1000000 in
theorem law_50 {d : Nat} (hd : 57 ≤ d) {σ : MM} {X : CST} {i n : Int} (hn : σ 92 1 0 = n) (hi : 0 ≤ i ∧ i + 6 ≤ n) (hnN : n ≤ 3072) (hs : ∀ z : Int, IR (σ 92 0 z)) (hC : CRl σ X) (hM : MRl σ X) (kk : ∀ (σ' : MM) (X' : CST), CRl σ' X' → MRl σ' X' → σ' 92 = σ 92 → V yL_law cL_law 4 (some .boolean) d LQ 2578 [some (vR 92 0), some (vR 0 0), some (vR 34 0), some (vI i)] [] σ') : V yL_law cL_law 4 (some .boolean) d LQ 1676 [some (vR 92 0), some (vR 0 0), some (vR 34 0), some (vI i)] [] σ := by
  refine V_aload_1 (pc := 1676) dL_law_1676 ?_
  refine V_aload_0 (pc := 1677) dL_law_1677 ?_
  refine V_iload_3 (pc := 1678) dL_law_1678 ?_
  refine V_iconst (pc := 1679) dL_law_1679 ?_
  refine V_iadd (pc := 1680) dL_law_1680 ?_
  refine V_sld (pc := 1681) dL_law_1681 hn hnN (by omega) (v := σ 92 0 (i + 1)) rfl ?_
  refine V_callV1i (pc := 1682) dL_law_1682 kv_L_218 rc_0 (by omega) (d - 1) (by omega) rfl (V.sci (c_X5_lasts (by omega) hC.b hC.w hC.c (hs _))) (fun v1 σ1 h1 => ?_)
  have h92 := h1.2
  have hC1 : CRl σ1 X := by rw [h1.1.2]; exact hC
  have hM1 : MRl σ1 X := by rw [h1.1.2]; exact hM
  have hO1 := hC.ok
  have hG1 := hC.g
  refine V_aload_2 (pc := 1685) dL_law_1685 ?_
  refine V_aload_0 (pc := 1686) dL_law_1686 ?_
  refine V_iload_3 (pc := 1687) dL_law_1687 ?_
  refine V_iconst (pc := 1688) dL_law_1688 ?_
  refine V_iadd (pc := 1689) dL_law_1689 ?_
  refine V_sld (pc := 1690) dL_law_1690 (by rw [h92]; exact hn) hnN (by omega) (v := σ 92 0 (i + 1)) (by rw [h92]) ?_
  refine V_callV1i (pc := 1691) dL_law_1691 kv_L_221 rc_34 (by omega) (d - 1) (by omega) rfl (V.sci (c_X6_lasts (by omega) hM1.1 hG1 (hs _))) (fun v2 σ2 h2 => ?_)
  have hC2 := h2.1.2.fm.crl hC1
  have hM2 := h2.1.2.mrl hM1
  have h93 : σ2 92 = σ 92 := h2.2.trans h92
  refine V_icmp_same (pc := 1694) 2578 dL_law_1694 (by decide) (h1.1.1.trans h2.1.1.symm) ?_
  exact kk _ _ hC2 hM2 h93

set_option maxRecDepth 20000 in
set_option maxHeartbeats 1000000 in
theorem law_51 {d : Nat} (hd : 57 ≤ d) {σ : MM} {X : CST} {i n : Int} (hn : σ 92 1 0 = n) (hi : 0 ≤ i ∧ i + 6 ≤ n) (hnN : n ≤ 3072) (hs : ∀ z : Int, IR (σ 92 0 z)) (hC : CRl σ X) (hM : MRl σ X) (kk : ∀ (σ' : MM) (X' : CST), CRl σ' X' → MRl σ' X' → σ' 92 = σ 92 → V yL_law cL_law 4 (some .boolean) d LQ 2578 [some (vR 92 0), some (vR 0 0), some (vR 34 0), some (vI i)] [] σ') : V yL_law cL_law 4 (some .boolean) d LQ 1699 [some (vR 92 0), some (vR 0 0), some (vR 34 0), some (vI i)] [] σ := by
  refine V_aload_1 (pc := 1699) dL_law_1699 ?_
  refine V_aload_0 (pc := 1700) dL_law_1700 ?_
  refine V_iload_3 (pc := 1701) dL_law_1701 ?_
  refine V_iconst (pc := 1702) dL_law_1702 ?_
  refine V_iadd (pc := 1703) dL_law_1703 ?_
  refine V_sld (pc := 1704) dL_law_1704 hn hnN (by omega) (v := σ 92 0 (i + 1)) rfl ?_
  refine V_callV1i (pc := 1705) dL_law_1705 kv_L_222 rc_0 (by omega) (d - 1) (by omega) rfl (V.sci (c_X5_order (by omega) hC.b hC.w (hs _))) (fun v1 σ1 h1 => ?_)
  have h92 := h1.2
  have hC1 : CRl σ1 X := by rw [h1.1.2]; exact hC
  have hM1 : MRl σ1 X := by rw [h1.1.2]; exact hM
  have hO1 := hC.ok
  have hG1 := hC.g
  refine V_aload_2 (pc := 1708) dL_law_1708 ?_
  refine V_aload_0 (pc := 1709) dL_law_1709 ?_
  refine V_iload_3 (pc := 1710) dL_law_1710 ?_
  refine V_iconst (pc := 1711) dL_law_1711 ?_
  refine V_iadd (pc := 1712) dL_law_1712 ?_
  refine V_sld (pc := 1713) dL_law_1713 (by rw [h92]; exact hn) hnN (by omega) (v := σ 92 0 (i + 1)) (by rw [h92]) ?_
  refine V_callV1i (pc := 1714) dL_law_1714 kv_L_225 rc_34 (by omega) (d - 1) (by omega) rfl (V.sci (c_X6_order (by omega) hM1.1 hG1 (hs _))) (fun v2 σ2 h2 => ?_)
  have hC2 := h2.1.2.fm.crl hC1
  have hM2 := h2.1.2.mrl hM1
  have h93 : σ2 92 = σ 92 := h2.2.trans h92
  refine V_icmp_same (pc := 1717) 2578 dL_law_1717 (by decide) (h1.1.1.trans h2.1.1.symm) ?_
  exact kk _ _ hC2 hM2 h93
