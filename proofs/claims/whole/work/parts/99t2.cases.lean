/-! ===== the law: its cases 22 .. 32 ===== -/
section JX
variable {Ln : Nat} {xs : Nat → Int32}
theorem law_c22 {j : Nat} {A : AS} {h : PH} (hL : Ln ≤ 3584) (hj : 7 * j + 7 ≤ Ln) (S : St h A) (kk : ∀ A' h', St h' A' → J mL_law room_1 [] (ZW Ln xs) 1332 (LW j) [] SHF h') : J mL_law room_1 [] (ZW Ln xs) 998 (LW j) [] SHF h := by
  obtain ⟨hG, ⟨p, hX⟩, hM, hW⟩ := id S
  refine J_aload_n dL_law_998 rfl ?_
  refine J_arg (k := 1) dL_law_999 dL_law_1000 dL_law_1001 dL_law_1002 dL_law_1003 (by omega) hL ?_
  refine J_arg (k := 2) dL_law_1004 dL_law_1005 dL_law_1006 dL_law_1007 dL_law_1008 (by omega) hL ?_
  refine J_arg (k := 3) dL_law_1009 dL_law_1010 dL_law_1011 dL_law_1012 dL_law_1013 (by omega) hL ?_
  refine J_arg (k := 4) dL_law_1014 dL_law_1015 dL_law_1016 dL_law_1017 dL_law_1018 (by omega) hL ?_
  refine J_arg (k := 5) dL_law_1019 dL_law_1020 dL_law_1021 dL_law_1022 dL_law_1023 (by omega) hL ?_
  refine J_cWI (ci := 9) (c := 0) (as := [pI (xs (7 * j + 1)), pI (xs (7 * j + 2)), pI (xs (7 * j + 3)), pI (xs (7 * j + 4)), pI (xs (7 * j + 5))]) (st := []) dL_law_1024 lL_112 okX9_when vX9_when s0 (by decide) rfl rfl rfl (Nat.le_of_ble_eq_true rfl) ⟨Nat.le_of_ble_eq_true rfl, Nat.le_of_ble_eq_true rfl⟩ crW (c_X9_when hG hX hW) (fun v h1 q1 => ?_)
  obtain ⟨e1, q1⟩ := q1
  have q1 := XP.q q1 hG
  have G1 := q1.2.2
  have M1 := hM.far q1.2.1
  refine J_aload_n dL_law_1027 rfl ?_
  refine J_arg (k := 1) dL_law_1028 dL_law_1029 dL_law_1030 dL_law_1031 dL_law_1032 (by omega) hL ?_
  refine J_arg (k := 2) dL_law_1033 dL_law_1034 dL_law_1035 dL_law_1036 dL_law_1037 (by omega) hL ?_
  refine J_arg (k := 3) dL_law_1038 dL_law_1039 dL_law_1040 dL_law_1041 dL_law_1042 (by omega) hL ?_
  refine J_arg (k := 4) dL_law_1043 dL_law_1044 dL_law_1045 dL_law_1046 dL_law_1047 (by omega) hL ?_
  refine J_arg (k := 5) dL_law_1048 dL_law_1049 dL_law_1050 dL_law_1051 dL_law_1052 (by omega) hL ?_
  refine J_cWI (ci := 10) (c := 158) (as := [pI (xs (7 * j + 1)), pI (xs (7 * j + 2)), pI (xs (7 * j + 3)), pI (xs (7 * j + 4)), pI (xs (7 * j + 5))]) (st := [pI v]) dL_law_1053 lL_115 okX10_when vX10_when s158 (by decide) rfl rfl rfl (Nat.le_of_ble_eq_true rfl) ⟨Nat.le_of_ble_eq_true rfl, Nat.le_of_ble_eq_true rfl⟩ crW (c_X10_when G1 M1 hW) (fun w h2 q2 => ?_)
  obtain ⟨e2, q2⟩ := q2
  exact J_icmp_eq dL_law_1056 (fun _ => kk _ _ (S.next q1 q2 hW)) (fun z => absurd (e1.trans e2.symm) z)
theorem law_c23 {j : Nat} {A : AS} {h : PH} (hL : Ln ≤ 3584) (hj : 7 * j + 7 ≤ Ln) (S : St h A) (kk : ∀ A' h', St h' A' → J mL_law room_1 [] (ZW Ln xs) 1332 (LW j) [] SHF h') : J mL_law room_1 [] (ZW Ln xs) 1061 (LW j) [] SHF h := by
  obtain ⟨hG, ⟨p, hX⟩, hM, hW⟩ := id S
  refine J_aload_n dL_law_1061 rfl ?_
  refine J_arg (k := 1) dL_law_1062 dL_law_1063 dL_law_1064 dL_law_1065 dL_law_1066 (by omega) hL ?_
  refine J_arg (k := 2) dL_law_1067 dL_law_1068 dL_law_1069 dL_law_1070 dL_law_1071 (by omega) hL ?_
  refine J_arg (k := 3) dL_law_1072 dL_law_1073 dL_law_1074 dL_law_1075 dL_law_1076 (by omega) hL ?_
  refine J_cWL (ci := 9) (c := 0) (as := [pI (xs (7 * j + 1)), pI (xs (7 * j + 2)), pI (xs (7 * j + 3))]) (st := []) dL_law_1077 lL_116 okX9_second vX9_second s0 (by decide) rfl rfl rfl (Nat.le_of_ble_eq_true rfl) ⟨Nat.le_of_ble_eq_true rfl, Nat.le_of_ble_eq_true rfl⟩ crW (c_X9_second hG hX hW) (fun v h1 q1 => ?_)
  obtain ⟨e1, q1⟩ := q1
  have q1 := XP.q q1 hG
  have G1 := q1.2.2
  have M1 := hM.far q1.2.1
  refine J_aload_n dL_law_1080 rfl ?_
  refine J_arg (k := 1) dL_law_1081 dL_law_1082 dL_law_1083 dL_law_1084 dL_law_1085 (by omega) hL ?_
  refine J_arg (k := 2) dL_law_1086 dL_law_1087 dL_law_1088 dL_law_1089 dL_law_1090 (by omega) hL ?_
  refine J_arg (k := 3) dL_law_1091 dL_law_1092 dL_law_1093 dL_law_1094 dL_law_1095 (by omega) hL ?_
  refine J_cWL (ci := 10) (c := 158) (as := [pI (xs (7 * j + 1)), pI (xs (7 * j + 2)), pI (xs (7 * j + 3))]) (st := [pL v]) dL_law_1096 lL_119 okX10_second vX10_second s158 (by decide) rfl rfl rfl (Nat.le_of_ble_eq_true rfl) ⟨Nat.le_of_ble_eq_true rfl, Nat.le_of_ble_eq_true rfl⟩ crW (c_X10_second G1 M1 hW) (fun w h2 q2 => ?_)
  obtain ⟨e2, q2⟩ := q2
  refine J_lcmp dL_law_1099 ?_
  exact J_lif_eq dL_law_1100 (fun _ => kk _ _ (S.next q1 q2 hW)) (fun z => absurd (e1.trans e2.symm) z)
theorem law_c24 {j : Nat} {A : AS} {h : PH} (hL : Ln ≤ 3584) (hj : 7 * j + 7 ≤ Ln) (S : St h A) (kk : ∀ A' h', St h' A' → J mL_law room_1 [] (ZW Ln xs) 1332 (LW j) [] SHF h') : J mL_law room_1 [] (ZW Ln xs) 1105 (LW j) [] SHF h := by
  obtain ⟨hG, ⟨p, hX⟩, hM, hW⟩ := id S
  refine J_aload_n dL_law_1105 rfl ?_
  refine J_arg (k := 1) dL_law_1106 dL_law_1107 dL_law_1108 dL_law_1109 dL_law_1110 (by omega) hL ?_
  refine J_arg (k := 2) dL_law_1111 dL_law_1112 dL_law_1113 dL_law_1114 dL_law_1115 (by omega) hL ?_
  refine J_cWI (ci := 9) (c := 0) (as := [pI (xs (7 * j + 1)), pI (xs (7 * j + 2))]) (st := []) dL_law_1116 lL_120 okX9_forTwo vX9_forTwo s0 (by decide) rfl rfl rfl (Nat.le_of_ble_eq_true rfl) ⟨Nat.le_of_ble_eq_true rfl, Nat.le_of_ble_eq_true rfl⟩ crW (c_X9_forTwo hG hX hW) (fun v h1 q1 => ?_)
  obtain ⟨e1, q1⟩ := q1
  have q1 := XP.q q1 hG
  have G1 := q1.2.2
  have M1 := hM.far q1.2.1
  refine J_aload_n dL_law_1119 rfl ?_
  refine J_arg (k := 1) dL_law_1120 dL_law_1121 dL_law_1122 dL_law_1123 dL_law_1124 (by omega) hL ?_
  refine J_arg (k := 2) dL_law_1125 dL_law_1126 dL_law_1127 dL_law_1128 dL_law_1129 (by omega) hL ?_
  refine J_cWI (ci := 10) (c := 158) (as := [pI (xs (7 * j + 1)), pI (xs (7 * j + 2))]) (st := [pI v]) dL_law_1130 lL_123 okX10_forTwo vX10_forTwo s158 (by decide) rfl rfl rfl (Nat.le_of_ble_eq_true rfl) ⟨Nat.le_of_ble_eq_true rfl, Nat.le_of_ble_eq_true rfl⟩ crW (c_X10_forTwo G1 M1 hW) (fun w h2 q2 => ?_)
  obtain ⟨e2, q2⟩ := q2
  exact J_icmp_eq dL_law_1133 (fun _ => kk _ _ (S.next q1 q2 hW)) (fun z => absurd (e1.trans e2.symm) z)
theorem law_c25 {j : Nat} {A : AS} {h : PH} (hL : Ln ≤ 3584) (hj : 7 * j + 7 ≤ Ln) (S : St h A) (kk : ∀ A' h', St h' A' → J mL_law room_1 [] (ZW Ln xs) 1332 (LW j) [] SHF h') : J mL_law room_1 [] (ZW Ln xs) 1138 (LW j) [] SHF h := by
  obtain ⟨hG, ⟨p, hX⟩, hM, hW⟩ := id S
  refine J_aload_n dL_law_1138 rfl ?_
  refine J_arg (k := 1) dL_law_1139 dL_law_1140 dL_law_1141 dL_law_1142 dL_law_1143 (by omega) hL ?_
  refine J_cWI (ci := 9) (c := 0) (as := [pI (xs (7 * j + 1))]) (st := []) dL_law_1144 lL_124 okX9_trust vX9_trust s0 (by decide) rfl rfl rfl (Nat.le_of_ble_eq_true rfl) ⟨Nat.le_of_ble_eq_true rfl, Nat.le_of_ble_eq_true rfl⟩ crW (c_X9_trust hG hX hW) (fun v h1 q1 => ?_)
  obtain ⟨e1, q1⟩ := q1
  have q1 := XP.q q1 hG
  have G1 := q1.2.2
  have M1 := hM.far q1.2.1
  refine J_aload_n dL_law_1147 rfl ?_
  refine J_arg (k := 1) dL_law_1148 dL_law_1149 dL_law_1150 dL_law_1151 dL_law_1152 (by omega) hL ?_
  refine J_cWI (ci := 10) (c := 158) (as := [pI (xs (7 * j + 1))]) (st := [pI v]) dL_law_1153 lL_127 okX10_trust vX10_trust s158 (by decide) rfl rfl rfl (Nat.le_of_ble_eq_true rfl) ⟨Nat.le_of_ble_eq_true rfl, Nat.le_of_ble_eq_true rfl⟩ crW (c_X10_trust G1 M1 hW) (fun w h2 q2 => ?_)
  obtain ⟨e2, q2⟩ := q2
  exact J_icmp_eq dL_law_1156 (fun _ => kk _ _ (S.next q1 q2 hW)) (fun z => absurd (e1.trans e2.symm) z)
theorem law_c26 {j : Nat} {A : AS} {h : PH} (hL : Ln ≤ 3584) (hj : 7 * j + 7 ≤ Ln) (S : St h A) (kk : ∀ A' h', St h' A' → J mL_law room_1 [] (ZW Ln xs) 1332 (LW j) [] SHF h') : J mL_law room_1 [] (ZW Ln xs) 1161 (LW j) [] SHF h := by
  obtain ⟨hG, ⟨p, hX⟩, hM, hW⟩ := id S
  refine J_aload_n dL_law_1161 rfl ?_
  refine J_arg (k := 1) dL_law_1162 dL_law_1163 dL_law_1164 dL_law_1165 dL_law_1166 (by omega) hL ?_
  refine J_cWI (ci := 9) (c := 0) (as := [pI (xs (7 * j + 1))]) (st := []) dL_law_1167 lL_128 okX9_begin vX9_begin s0 (by decide) rfl rfl rfl (Nat.le_of_ble_eq_true rfl) ⟨Nat.le_of_ble_eq_true rfl, Nat.le_of_ble_eq_true rfl⟩ crW (c_X9_begin hG hX hW) (fun v h1 q1 => ?_)
  obtain ⟨e1, q1⟩ := q1
  have q1 := XP.q q1 hG
  have G1 := q1.2.2
  have M1 := hM.far q1.2.1
  refine J_aload_n dL_law_1170 rfl ?_
  refine J_arg (k := 1) dL_law_1171 dL_law_1172 dL_law_1173 dL_law_1174 dL_law_1175 (by omega) hL ?_
  refine J_cWI (ci := 10) (c := 158) (as := [pI (xs (7 * j + 1))]) (st := [pI v]) dL_law_1176 lL_131 okX10_begin_ vX10_begin_ s158 (by decide) rfl rfl rfl (Nat.le_of_ble_eq_true rfl) ⟨Nat.le_of_ble_eq_true rfl, Nat.le_of_ble_eq_true rfl⟩ crW (c_X10_begin_ G1 M1 hW) (fun w h2 q2 => ?_)
  obtain ⟨e2, q2⟩ := q2
  exact J_icmp_eq dL_law_1179 (fun _ => kk _ _ (S.next q1 q2 hW.begins)) (fun z => absurd (e1.trans e2.symm) z)
theorem law_c27 {j : Nat} {A : AS} {h : PH} (hL : Ln ≤ 3584) (hj : 7 * j + 7 ≤ Ln) (S : St h A) (kk : ∀ A' h', St h' A' → J mL_law room_1 [] (ZW Ln xs) 1332 (LW j) [] SHF h') : J mL_law room_1 [] (ZW Ln xs) 1184 (LW j) [] SHF h := by
  obtain ⟨hG, ⟨p, hX⟩, hM, hW⟩ := id S
  refine J_aload_n dL_law_1184 rfl ?_
  refine J_arg (k := 1) dL_law_1185 dL_law_1186 dL_law_1187 dL_law_1188 dL_law_1189 (by omega) hL ?_
  refine J_cWI (ci := 9) (c := 0) (as := [pI (xs (7 * j + 1))]) (st := []) dL_law_1190 lL_132 okX9_go vX9_go s0 (by decide) rfl rfl rfl (Nat.le_of_ble_eq_true rfl) ⟨Nat.le_of_ble_eq_true rfl, Nat.le_of_ble_eq_true rfl⟩ crW (c_X9_go hG hX hW) (fun v h1 q1 => ?_)
  obtain ⟨e1, q1⟩ := q1
  have q1 := XP.q q1 hG
  have G1 := q1.2.2
  have M1 := hM.far q1.2.1
  refine J_aload_n dL_law_1193 rfl ?_
  refine J_arg (k := 1) dL_law_1194 dL_law_1195 dL_law_1196 dL_law_1197 dL_law_1198 (by omega) hL ?_
  refine J_cWI (ci := 10) (c := 158) (as := [pI (xs (7 * j + 1))]) (st := [pI v]) dL_law_1199 lL_135 okX10_go vX10_go s158 (by decide) rfl rfl rfl (Nat.le_of_ble_eq_true rfl) ⟨Nat.le_of_ble_eq_true rfl, Nat.le_of_ble_eq_true rfl⟩ crW (c_X10_go G1 M1 hW) (fun w h2 q2 => ?_)
  obtain ⟨e2, q2⟩ := q2
  exact J_icmp_eq dL_law_1202 (fun _ => kk _ _ (S.next q1 q2 hW.gos)) (fun z => absurd (e1.trans e2.symm) z)
theorem law_c28 {j : Nat} {A : AS} {h : PH} (hL : Ln ≤ 3584) (hj : 7 * j + 7 ≤ Ln) (S : St h A) (kk : ∀ A' h', St h' A' → J mL_law room_1 [] (ZW Ln xs) 1332 (LW j) [] SHF h') : J mL_law room_1 [] (ZW Ln xs) 1207 (LW j) [] SHF h := by
  obtain ⟨hG, ⟨p, hX⟩, hM, hW⟩ := id S
  refine J_aload_n dL_law_1207 rfl ?_
  refine J_arg (k := 1) dL_law_1208 dL_law_1209 dL_law_1210 dL_law_1211 dL_law_1212 (by omega) hL ?_
  refine J_arg (k := 2) dL_law_1213 dL_law_1214 dL_law_1215 dL_law_1216 dL_law_1217 (by omega) hL ?_
  refine J_cWI (ci := 9) (c := 0) (as := [pI (xs (7 * j + 1)), pI (xs (7 * j + 2))]) (st := []) dL_law_1218 lL_136 okX9_stock vX9_stock s0 (by decide) rfl rfl rfl (Nat.le_of_ble_eq_true rfl) ⟨Nat.le_of_ble_eq_true rfl, Nat.le_of_ble_eq_true rfl⟩ crW (c_X9_stock hG hX hW) (fun v h1 q1 => ?_)
  obtain ⟨e1, q1⟩ := q1
  have q1 := XP.q q1 hG
  have G1 := q1.2.2
  have M1 := hM.far q1.2.1
  refine J_aload_n dL_law_1221 rfl ?_
  refine J_arg (k := 1) dL_law_1222 dL_law_1223 dL_law_1224 dL_law_1225 dL_law_1226 (by omega) hL ?_
  refine J_arg (k := 2) dL_law_1227 dL_law_1228 dL_law_1229 dL_law_1230 dL_law_1231 (by omega) hL ?_
  refine J_cWI (ci := 10) (c := 158) (as := [pI (xs (7 * j + 1)), pI (xs (7 * j + 2))]) (st := [pI v]) dL_law_1232 lL_139 okX10_stock vX10_stock s158 (by decide) rfl rfl rfl (Nat.le_of_ble_eq_true rfl) ⟨Nat.le_of_ble_eq_true rfl, Nat.le_of_ble_eq_true rfl⟩ crW (c_X10_stock G1 M1 hW) (fun w h2 q2 => ?_)
  obtain ⟨e2, q2⟩ := q2
  exact J_icmp_eq dL_law_1235 (fun _ => kk _ _ (S.next q1 q2 hW)) (fun z => absurd (e1.trans e2.symm) z)
theorem law_c29 {j : Nat} {A : AS} {h : PH} (hL : Ln ≤ 3584) (hj : 7 * j + 7 ≤ Ln) (S : St h A) (kk : ∀ A' h', St h' A' → J mL_law room_1 [] (ZW Ln xs) 1332 (LW j) [] SHF h') : J mL_law room_1 [] (ZW Ln xs) 1240 (LW j) [] SHF h := by
  obtain ⟨hG, ⟨p, hX⟩, hM, hW⟩ := id S
  refine J_aload_n dL_law_1240 rfl ?_
  refine J_arg (k := 1) dL_law_1241 dL_law_1242 dL_law_1243 dL_law_1244 dL_law_1245 (by omega) hL ?_
  refine J_cWI (ci := 9) (c := 0) (as := [pI (xs (7 * j + 1))]) (st := []) dL_law_1246 lL_140 okX9_ran vX9_ran s0 (by decide) rfl rfl rfl (Nat.le_of_ble_eq_true rfl) ⟨Nat.le_of_ble_eq_true rfl, Nat.le_of_ble_eq_true rfl⟩ crW (c_X9_ran hG hX hW) (fun v h1 q1 => ?_)
  obtain ⟨e1, q1⟩ := q1
  have q1 := XP.q q1 hG
  have G1 := q1.2.2
  have M1 := hM.far q1.2.1
  refine J_aload_n dL_law_1249 rfl ?_
  refine J_arg (k := 1) dL_law_1250 dL_law_1251 dL_law_1252 dL_law_1253 dL_law_1254 (by omega) hL ?_
  refine J_cWI (ci := 10) (c := 158) (as := [pI (xs (7 * j + 1))]) (st := [pI v]) dL_law_1255 lL_143 okX10_ran vX10_ran s158 (by decide) rfl rfl rfl (Nat.le_of_ble_eq_true rfl) ⟨Nat.le_of_ble_eq_true rfl, Nat.le_of_ble_eq_true rfl⟩ crW (c_X10_ran G1 M1 hW) (fun w h2 q2 => ?_)
  obtain ⟨e2, q2⟩ := q2
  exact J_icmp_eq dL_law_1258 (fun _ => kk _ _ (S.next q1 q2 hW)) (fun z => absurd (e1.trans e2.symm) z)
theorem law_c30 {j : Nat} {A : AS} {h : PH} (hL : Ln ≤ 3584) (hj : 7 * j + 7 ≤ Ln) (S : St h A) (kk : ∀ A' h', St h' A' → J mL_law room_1 [] (ZW Ln xs) 1332 (LW j) [] SHF h') : J mL_law room_1 [] (ZW Ln xs) 1263 (LW j) [] SHF h := by
  obtain ⟨hG, ⟨p, hX⟩, hM, hW⟩ := id S
  refine J_aload_n dL_law_1263 rfl ?_
  refine J_arg (k := 1) dL_law_1264 dL_law_1265 dL_law_1266 dL_law_1267 dL_law_1268 (by omega) hL ?_
  refine J_cWI (ci := 9) (c := 0) (as := [pI (xs (7 * j + 1))]) (st := []) dL_law_1269 lL_144 okX9_keep vX9_keep s0 (by decide) rfl rfl rfl (Nat.le_of_ble_eq_true rfl) ⟨Nat.le_of_ble_eq_true rfl, Nat.le_of_ble_eq_true rfl⟩ crW (c_X9_keep hG hX hW) (fun v h1 q1 => ?_)
  obtain ⟨e1, q1⟩ := q1
  have q1 := XP.q q1 hG
  have G1 := q1.2.2
  have M1 := hM.far q1.2.1
  refine J_aload_n dL_law_1272 rfl ?_
  refine J_arg (k := 1) dL_law_1273 dL_law_1274 dL_law_1275 dL_law_1276 dL_law_1277 (by omega) hL ?_
  refine J_cWI (ci := 10) (c := 158) (as := [pI (xs (7 * j + 1))]) (st := [pI v]) dL_law_1278 lL_147 okX10_keep vX10_keep s158 (by decide) rfl rfl rfl (Nat.le_of_ble_eq_true rfl) ⟨Nat.le_of_ble_eq_true rfl, Nat.le_of_ble_eq_true rfl⟩ crW (c_X10_keep G1 M1 hW) (fun w h2 q2 => ?_)
  obtain ⟨e2, q2⟩ := q2
  exact J_icmp_eq dL_law_1281 (fun _ => kk _ _ (S.next q1 q2 hW.keeps_)) (fun z => absurd (e1.trans e2.symm) z)
theorem law_c31 {j : Nat} {A : AS} {h : PH} (hL : Ln ≤ 3584) (hj : 7 * j + 7 ≤ Ln) (S : St h A) (kk : ∀ A' h', St h' A' → J mL_law room_1 [] (ZW Ln xs) 1332 (LW j) [] SHF h') : J mL_law room_1 [] (ZW Ln xs) 1286 (LW j) [] SHF h := by
  obtain ⟨hG, ⟨p, hX⟩, hM, hW⟩ := id S
  refine J_aload_n dL_law_1286 rfl ?_
  refine J_arg (k := 1) dL_law_1287 dL_law_1288 dL_law_1289 dL_law_1290 dL_law_1291 (by omega) hL ?_
  refine J_cWI (ci := 9) (c := 0) (as := [pI (xs (7 * j + 1))]) (st := []) dL_law_1292 lL_148 okX9_take vX9_take s0 (by decide) rfl rfl rfl (Nat.le_of_ble_eq_true rfl) ⟨Nat.le_of_ble_eq_true rfl, Nat.le_of_ble_eq_true rfl⟩ crW (c_X9_take hG hX hW) (fun v h1 q1 => ?_)
  obtain ⟨e1, q1⟩ := q1
  have q1 := XP.q q1 hG
  have G1 := q1.2.2
  have M1 := hM.far q1.2.1
  refine J_aload_n dL_law_1295 rfl ?_
  refine J_arg (k := 1) dL_law_1296 dL_law_1297 dL_law_1298 dL_law_1299 dL_law_1300 (by omega) hL ?_
  refine J_cWI (ci := 10) (c := 158) (as := [pI (xs (7 * j + 1))]) (st := [pI v]) dL_law_1301 lL_151 okX10_take vX10_take s158 (by decide) rfl rfl rfl (Nat.le_of_ble_eq_true rfl) ⟨Nat.le_of_ble_eq_true rfl, Nat.le_of_ble_eq_true rfl⟩ crW (c_X10_take G1 M1 hW) (fun w h2 q2 => ?_)
  obtain ⟨e2, q2⟩ := q2
  exact J_icmp_eq dL_law_1304 (fun _ => kk _ _ (S.next q1 q2 hW.takes)) (fun z => absurd (e1.trans e2.symm) z)
theorem law_c32 {j : Nat} {A : AS} {h : PH} (hL : Ln ≤ 3584) (hj : 7 * j + 7 ≤ Ln) (S : St h A) (kk : ∀ A' h', St h' A' → J mL_law room_1 [] (ZW Ln xs) 1332 (LW j) [] SHF h') : J mL_law room_1 [] (ZW Ln xs) 1309 (LW j) [] SHF h := by
  obtain ⟨hG, ⟨p, hX⟩, hM, hW⟩ := id S
  refine J_aload_n dL_law_1309 rfl ?_
  refine J_arg (k := 1) dL_law_1310 dL_law_1311 dL_law_1312 dL_law_1313 dL_law_1314 (by omega) hL ?_
  refine J_cWI (ci := 9) (c := 0) (as := [pI (xs (7 * j + 1))]) (st := []) dL_law_1315 lL_152 okX9_count vX9_count s0 (by decide) rfl rfl rfl (Nat.le_of_ble_eq_true rfl) ⟨Nat.le_of_ble_eq_true rfl, Nat.le_of_ble_eq_true rfl⟩ crW (c_X9_count hG hX hW) (fun v h1 q1 => ?_)
  obtain ⟨e1, q1⟩ := q1
  have q1 := XP.q q1 hG
  have G1 := q1.2.2
  have M1 := hM.far q1.2.1
  refine J_aload_n dL_law_1318 rfl ?_
  refine J_arg (k := 1) dL_law_1319 dL_law_1320 dL_law_1321 dL_law_1322 dL_law_1323 (by omega) hL ?_
  refine J_cWI (ci := 10) (c := 158) (as := [pI (xs (7 * j + 1))]) (st := [pI v]) dL_law_1324 lL_155 okX10_count vX10_count s158 (by decide) rfl rfl rfl (Nat.le_of_ble_eq_true rfl) ⟨Nat.le_of_ble_eq_true rfl, Nat.le_of_ble_eq_true rfl⟩ crW (c_X10_count G1 M1 hW) (fun w h2 q2 => ?_)
  obtain ⟨e2, q2⟩ := q2
  exact J_icmp_eq dL_law_1327 (fun _ => kk _ _ (S.next q1 q2 hW)) (fun z => absurd (e1.trans e2.symm) z)
end JX
