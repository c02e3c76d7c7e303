/-! ===== printed: the law, call by call ===== -/
section LL
variable {tb : List (Nat × Nat × Nat × Nat)} {g : GP} {adr : Nat → Nat} {b L i k n : Nat} {xs : Nat → Int32} {Q : QT} {μ : Mem} {α : A7}
set_option maxRecDepth 100000 in
set_option maxHeartbeats 4000000 in
theorem law_14 (hb : b < g.1) (hL : L ≤ 2048) (hi : i + 4 ≤ L) (hC : CR μ α) (hM : MR μ α) (hk : k + 1 ≤ 601024) (hn : n + 6 ≤ 7293034) (K : LK tb g adr b L xs Q i (k + 1) (n + 6)) : J g (mL_law tb) room_1 (QX b L xs Q) k n (WM g adr μ) 1028 [some (.ref b), some (.ref (adr 0)), some (.ref (adr 237)), some (.ref (adr 247)), some (.int (nI i)), none, none, none, none] [] := by
  obtain ⟨c, v, v2, α1, ψ, hc10, hv, hz, hψ, hw, hm⟩ := k_join (g := g) (adr := adr) (xs (i + 1)) (xs (i + 2)) (xs (i + 3)) hC hM
  refine J.al1 dL_law_1028 ?_
  refine J.al0 dL_law_1029 ?_
  refine J.il4 dL_law_1030 ?_
  refine J.iconst dL_law_1032 kI_1 ?_
  refine J.iaddN dL_law_1033 ?_
  refine J.sld hb (by omega) (by omega) dL_law_1034 ?_
  refine J.al0 dL_law_1035 ?_
  refine J.il4 dL_law_1036 ?_
  refine J.iconst dL_law_1038 kI_2 ?_
  refine J.iaddN dL_law_1039 ?_
  refine J.sld hb (by omega) (by omega) dL_law_1040 ?_
  refine J.al0 dL_law_1041 ?_
  refine J.il4 dL_law_1042 ?_
  refine J.iconst dL_law_1044 kI_3 ?_
  refine J.iaddN dL_law_1045 ?_
  refine J.sld hb (by omega) (by omega) dL_law_1046 ?_
  refine J.al3 dL_law_1047 ?_
  refine cl_L_183 rfl (k' := k + 1) (n' := n + 6) hw ⟨⟨by decide, by decide⟩, ⟨rfl, rfl⟩, hk, hn⟩ rfl dL_law_1048 (fun μ1 h1 => ?_)
  obtain ⟨hC1, hM1, hout⟩ := hψ μ1 h1
  refine J.is5 dL_law_1051 (Nat.le_of_ble_eq_true rfl) rfl ?_
  refine J.al2 dL_law_1053 ?_
  refine J.al0 dL_law_1054 ?_
  refine J.il4 dL_law_1055 ?_
  refine J.iconst dL_law_1057 kI_1 ?_
  refine J.iaddN dL_law_1058 ?_
  refine J.sld hb (by omega) (by omega) dL_law_1059 ?_
  refine J.al0 dL_law_1060 ?_
  refine J.il4 dL_law_1061 ?_
  refine J.iconst dL_law_1063 kI_2 ?_
  refine J.iaddN dL_law_1064 ?_
  refine J.sld hb (by omega) (by omega) dL_law_1065 ?_
  refine J.al0 dL_law_1066 ?_
  refine J.il4 dL_law_1067 ?_
  refine J.iconst dL_law_1069 kI_3 ?_
  refine J.iaddN dL_law_1070 ?_
  refine J.sld hb (by omega) (by omega) dL_law_1071 ?_
  refine cl_L_186 rfl (by decide) (k' := k + 1) (n' := n + 6) (hm μ1 hM1) ⟨⟨by decide, by decide⟩, ⟨rfl, rfl⟩, hk, hn⟩ rfl dL_law_1072 (fun μ2 h2 => ?_)
  obtain ⟨hM2, ht, hf⟩ := h2
  refine J.is6 dL_law_1075 (Nat.le_of_ble_eq_true rfl) rfl ?_
  refine J.al2 dL_law_1077 ?_
  refine cl_L_138 rfl (by decide) (k' := k + 1) (n' := n + 6) (c_m_thrown _ ht) ⟨⟨by decide, by decide⟩, ⟨rfl, rfl⟩, hk, hn⟩ rfl dL_law_1078 (fun μ3 h3 => ?_)
  rw [h3]; clear h3
  refine J.il5 dL_law_1081 ?_
  refine J.icmp_eqN (tgt := 1088) dL_law_1083 (by decide) (by omega) (by omega) (fun _ => ?_) (fun q => absurd rfl q)
  refine J.il5 dL_law_1088 ?_
  have fin : J g (mL_law tb) room_1 (QX b L xs Q) (k + 1) (n + 6) (WM g adr μ2) 1105 [some (.ref b), some (.ref (adr 0)), some (.ref (adr 237)), some (.ref (adr 247)), some (.int (nI i)), some (.int (nI c)), some (.int v2), none, none] [] := by
    refine J.goto (tgt := 2391) dL_law_1105 (by decide) ?_
    exact J.subR (K μ2 α1 (hC1.fm hf) hM2) ⟨rfl, ⟨rfl, ⟨rfl, ⟨rfl, ⟨rfl, trivial⟩⟩⟩⟩⟩
  refine J.if_neN (tgt := 1105) dL_law_1090 (by decide) (by omega) (fun _ => fin) (fun hc0 => ?_)
  have hvv := hv hc0
  subst hvv
  refine J.al3 dL_law_1093 ?_
  refine J.iconst dL_law_1094 kI_0 ?_
  refine J.lald (x := v2) (by decide) (by decide) ((congrFun (hf 247 (Or.inr rfl)) 0).trans (hout hc0)) dL_law_1095 ?_
  refine J.il6 dL_law_1096 ?_
  refine J.i2l dL_law_1098 ?_
  refine J.lcmpE dL_law_1099 ?_
  exact J.if_eq (tgt := 1105) dL_law_1100 (by decide) (fun _ => fin) (fun q => absurd rfl q)

set_option maxRecDepth 100000 in
set_option maxHeartbeats 4000000 in
theorem law_15 (hb : b < g.1) (hL : L ≤ 2048) (hi : i + 4 ≤ L) (hC : CR μ α) (hM : MR μ α) (hk : k + 1 ≤ 601024) (hn : n + 6 ≤ 7293034) (K : LK tb g adr b L xs Q i (k + 1) (n + 6)) : J g (mL_law tb) room_1 (QX b L xs Q) k n (WM g adr μ) 1108 [some (.ref b), some (.ref (adr 0)), some (.ref (adr 237)), some (.ref (adr 247)), some (.int (nI i)), none, none, none, none] [] := by
  obtain ⟨c, v, v2, α1, ψ, hc10, hv, hz, hψ, hw, hm⟩ := k_invert (g := g) (adr := adr) (xs (i + 1)) (xs (i + 2)) hC hM
  refine J.al1 dL_law_1108 ?_
  refine J.al0 dL_law_1109 ?_
  refine J.il4 dL_law_1110 ?_
  refine J.iconst dL_law_1112 kI_1 ?_
  refine J.iaddN dL_law_1113 ?_
  refine J.sld hb (by omega) (by omega) dL_law_1114 ?_
  refine J.al0 dL_law_1115 ?_
  refine J.il4 dL_law_1116 ?_
  refine J.iconst dL_law_1118 kI_2 ?_
  refine J.iaddN dL_law_1119 ?_
  refine J.sld hb (by omega) (by omega) dL_law_1120 ?_
  refine J.al3 dL_law_1121 ?_
  refine cl_L_187 rfl (k' := k + 1) (n' := n + 6) hw ⟨⟨by decide, by decide⟩, ⟨rfl, rfl⟩, hk, hn⟩ rfl dL_law_1122 (fun μ1 h1 => ?_)
  obtain ⟨hC1, hM1, hout⟩ := hψ μ1 h1
  refine J.is5 dL_law_1125 (Nat.le_of_ble_eq_true rfl) rfl ?_
  refine J.al2 dL_law_1127 ?_
  refine J.al0 dL_law_1128 ?_
  refine J.il4 dL_law_1129 ?_
  refine J.iconst dL_law_1131 kI_1 ?_
  refine J.iaddN dL_law_1132 ?_
  refine J.sld hb (by omega) (by omega) dL_law_1133 ?_
  refine J.al0 dL_law_1134 ?_
  refine J.il4 dL_law_1135 ?_
  refine J.iconst dL_law_1137 kI_2 ?_
  refine J.iaddN dL_law_1138 ?_
  refine J.sld hb (by omega) (by omega) dL_law_1139 ?_
  refine cl_L_189 rfl (by decide) (k' := k + 1) (n' := n + 6) (hm μ1 hM1) ⟨⟨by decide, by decide⟩, ⟨rfl, rfl⟩, hk, hn⟩ rfl dL_law_1140 (fun μ2 h2 => ?_)
  obtain ⟨hM2, ht, hf⟩ := h2
  refine J.is6 dL_law_1143 (Nat.le_of_ble_eq_true rfl) rfl ?_
  refine J.al2 dL_law_1145 ?_
  refine cl_L_138 rfl (by decide) (k' := k + 1) (n' := n + 6) (c_m_thrown _ ht) ⟨⟨by decide, by decide⟩, ⟨rfl, rfl⟩, hk, hn⟩ rfl dL_law_1146 (fun μ3 h3 => ?_)
  rw [h3]; clear h3
  refine J.il5 dL_law_1149 ?_
  refine J.icmp_eqN (tgt := 1156) dL_law_1151 (by decide) (by omega) (by omega) (fun _ => ?_) (fun q => absurd rfl q)
  refine J.il5 dL_law_1156 ?_
  have fin : J g (mL_law tb) room_1 (QX b L xs Q) (k + 1) (n + 6) (WM g adr μ2) 1173 [some (.ref b), some (.ref (adr 0)), some (.ref (adr 237)), some (.ref (adr 247)), some (.int (nI i)), some (.int (nI c)), some (.int v2), none, none] [] := by
    refine J.goto (tgt := 2391) dL_law_1173 (by decide) ?_
    exact J.subR (K μ2 α1 (hC1.fm hf) hM2) ⟨rfl, ⟨rfl, ⟨rfl, ⟨rfl, ⟨rfl, trivial⟩⟩⟩⟩⟩
  refine J.if_neN (tgt := 1173) dL_law_1158 (by decide) (by omega) (fun _ => fin) (fun hc0 => ?_)
  have hvv := hv hc0
  subst hvv
  refine J.al3 dL_law_1161 ?_
  refine J.iconst dL_law_1162 kI_0 ?_
  refine J.lald (x := v2) (by decide) (by decide) ((congrFun (hf 247 (Or.inr rfl)) 0).trans (hout hc0)) dL_law_1163 ?_
  refine J.il6 dL_law_1164 ?_
  refine J.i2l dL_law_1166 ?_
  refine J.lcmpE dL_law_1167 ?_
  exact J.if_eq (tgt := 1173) dL_law_1168 (by decide) (fun _ => fin) (fun q => absurd rfl q)

set_option maxRecDepth 100000 in
set_option maxHeartbeats 4000000 in
theorem law_16 (hb : b < g.1) (hL : L ≤ 2048) (hi : i + 4 ≤ L) (hC : CR μ α) (hM : MR μ α) (hk : k + 1 ≤ 601024) (hn : n + 6 ≤ 7293034) (K : LK tb g adr b L xs Q i (k + 1) (n + 6)) : J g (mL_law tb) room_1 (QX b L xs Q) k n (WM g adr μ) 1176 [some (.ref b), some (.ref (adr 0)), some (.ref (adr 237)), some (.ref (adr 247)), some (.int (nI i)), none, none, none, none] [] := by
  obtain ⟨c, v, v2, α1, ψ, hc10, hv, hz, hψ, hw, hm⟩ := k_commute (g := g) (adr := adr) (xs (i + 1)) (xs (i + 2)) (xs (i + 3)) hC hM
  refine J.al1 dL_law_1176 ?_
  refine J.al0 dL_law_1177 ?_
  refine J.il4 dL_law_1178 ?_
  refine J.iconst dL_law_1180 kI_1 ?_
  refine J.iaddN dL_law_1181 ?_
  refine J.sld hb (by omega) (by omega) dL_law_1182 ?_
  refine J.al0 dL_law_1183 ?_
  refine J.il4 dL_law_1184 ?_
  refine J.iconst dL_law_1186 kI_2 ?_
  refine J.iaddN dL_law_1187 ?_
  refine J.sld hb (by omega) (by omega) dL_law_1188 ?_
  refine J.al0 dL_law_1189 ?_
  refine J.il4 dL_law_1190 ?_
  refine J.iconst dL_law_1192 kI_3 ?_
  refine J.iaddN dL_law_1193 ?_
  refine J.sld hb (by omega) (by omega) dL_law_1194 ?_
  refine J.al3 dL_law_1195 ?_
  refine cl_L_190 rfl (k' := k + 1) (n' := n + 6) hw ⟨⟨by decide, by decide⟩, ⟨rfl, rfl⟩, hk, hn⟩ rfl dL_law_1196 (fun μ1 h1 => ?_)
  obtain ⟨hC1, hM1, hout⟩ := hψ μ1 h1
  refine J.is5 dL_law_1199 (Nat.le_of_ble_eq_true rfl) rfl ?_
  refine J.al2 dL_law_1201 ?_
  refine J.al0 dL_law_1202 ?_
  refine J.il4 dL_law_1203 ?_
  refine J.iconst dL_law_1205 kI_1 ?_
  refine J.iaddN dL_law_1206 ?_
  refine J.sld hb (by omega) (by omega) dL_law_1207 ?_
  refine J.al0 dL_law_1208 ?_
  refine J.il4 dL_law_1209 ?_
  refine J.iconst dL_law_1211 kI_2 ?_
  refine J.iaddN dL_law_1212 ?_
  refine J.sld hb (by omega) (by omega) dL_law_1213 ?_
  refine J.al0 dL_law_1214 ?_
  refine J.il4 dL_law_1215 ?_
  refine J.iconst dL_law_1217 kI_3 ?_
  refine J.iaddN dL_law_1218 ?_
  refine J.sld hb (by omega) (by omega) dL_law_1219 ?_
  refine cl_L_192 rfl (by decide) (k' := k + 1) (n' := n + 6) (hm μ1 hM1) ⟨⟨by decide, by decide⟩, ⟨rfl, rfl⟩, hk, hn⟩ rfl dL_law_1220 (fun μ2 h2 => ?_)
  obtain ⟨hM2, ht, hf⟩ := h2
  refine J.is6 dL_law_1223 (Nat.le_of_ble_eq_true rfl) rfl ?_
  refine J.al2 dL_law_1225 ?_
  refine cl_L_138 rfl (by decide) (k' := k + 1) (n' := n + 6) (c_m_thrown _ ht) ⟨⟨by decide, by decide⟩, ⟨rfl, rfl⟩, hk, hn⟩ rfl dL_law_1226 (fun μ3 h3 => ?_)
  rw [h3]; clear h3
  refine J.il5 dL_law_1229 ?_
  refine J.icmp_eqN (tgt := 1236) dL_law_1231 (by decide) (by omega) (by omega) (fun _ => ?_) (fun q => absurd rfl q)
  refine J.il5 dL_law_1236 ?_
  have fin : J g (mL_law tb) room_1 (QX b L xs Q) (k + 1) (n + 6) (WM g adr μ2) 1253 [some (.ref b), some (.ref (adr 0)), some (.ref (adr 237)), some (.ref (adr 247)), some (.int (nI i)), some (.int (nI c)), some (.int v2), none, none] [] := by
    refine J.goto (tgt := 2391) dL_law_1253 (by decide) ?_
    exact J.subR (K μ2 α1 (hC1.fm hf) hM2) ⟨rfl, ⟨rfl, ⟨rfl, ⟨rfl, ⟨rfl, trivial⟩⟩⟩⟩⟩
  refine J.if_neN (tgt := 1253) dL_law_1238 (by decide) (by omega) (fun _ => fin) (fun hc0 => ?_)
  have hvv := hv hc0
  subst hvv
  refine J.al3 dL_law_1241 ?_
  refine J.iconst dL_law_1242 kI_0 ?_
  refine J.lald (x := v2) (by decide) (by decide) ((congrFun (hf 247 (Or.inr rfl)) 0).trans (hout hc0)) dL_law_1243 ?_
  refine J.il6 dL_law_1244 ?_
  refine J.i2l dL_law_1246 ?_
  refine J.lcmpE dL_law_1247 ?_
  exact J.if_eq (tgt := 1253) dL_law_1248 (by decide) (fun _ => fin) (fun q => absurd rfl q)

set_option maxRecDepth 100000 in
set_option maxHeartbeats 4000000 in
theorem law_17 (hb : b < g.1) (hL : L ≤ 2048) (hi : i + 4 ≤ L) (hC : CR μ α) (hM : MR μ α) (hk : k + 1 ≤ 601024) (hn : n + 6 ≤ 7293034) (K : LK tb g adr b L xs Q i (k + 1) (n + 6)) : J g (mL_law tb) room_1 (QX b L xs Q) k n (WM g adr μ) 1256 [some (.ref b), some (.ref (adr 0)), some (.ref (adr 237)), some (.ref (adr 247)), some (.int (nI i)), none, none, none, none] [] := by
  obtain ⟨c, v, v2, α1, ψ, hc10, hv, hz, hψ, hw, hm⟩ := k_forget (g := g) (adr := adr) (xs (i + 1)) hC hM
  refine J.al1 dL_law_1256 ?_
  refine J.al0 dL_law_1257 ?_
  refine J.il4 dL_law_1258 ?_
  refine J.iconst dL_law_1260 kI_1 ?_
  refine J.iaddN dL_law_1261 ?_
  refine J.sld hb (by omega) (by omega) dL_law_1262 ?_
  refine J.al3 dL_law_1263 ?_
  refine cl_L_193 rfl (k' := k + 1) (n' := n + 6) hw ⟨⟨by decide, by decide⟩, ⟨rfl, rfl⟩, hk, hn⟩ rfl dL_law_1264 (fun μ1 h1 => ?_)
  obtain ⟨hC1, hM1, hout⟩ := hψ μ1 h1
  refine J.is5 dL_law_1267 (Nat.le_of_ble_eq_true rfl) rfl ?_
  refine J.al2 dL_law_1269 ?_
  refine J.al0 dL_law_1270 ?_
  refine J.il4 dL_law_1271 ?_
  refine J.iconst dL_law_1273 kI_1 ?_
  refine J.iaddN dL_law_1274 ?_
  refine J.sld hb (by omega) (by omega) dL_law_1275 ?_
  refine cl_L_195 rfl (by decide) (k' := k + 1) (n' := n + 6) (hm μ1 hM1) ⟨⟨by decide, by decide⟩, ⟨rfl, rfl⟩, hk, hn⟩ rfl dL_law_1276 (fun μ2 h2 => ?_)
  obtain ⟨hM2, ht, hf⟩ := h2
  refine J.is6 dL_law_1279 (Nat.le_of_ble_eq_true rfl) rfl ?_
  refine J.al2 dL_law_1281 ?_
  refine cl_L_138 rfl (by decide) (k' := k + 1) (n' := n + 6) (c_m_thrown _ ht) ⟨⟨by decide, by decide⟩, ⟨rfl, rfl⟩, hk, hn⟩ rfl dL_law_1282 (fun μ3 h3 => ?_)
  rw [h3]; clear h3
  refine J.il5 dL_law_1285 ?_
  refine J.icmp_eqN (tgt := 1292) dL_law_1287 (by decide) (by omega) (by omega) (fun _ => ?_) (fun q => absurd rfl q)
  refine J.il5 dL_law_1292 ?_
  have fin : J g (mL_law tb) room_1 (QX b L xs Q) (k + 1) (n + 6) (WM g adr μ2) 1309 [some (.ref b), some (.ref (adr 0)), some (.ref (adr 237)), some (.ref (adr 247)), some (.int (nI i)), some (.int (nI c)), some (.int v2), none, none] [] := by
    refine J.goto (tgt := 2391) dL_law_1309 (by decide) ?_
    exact J.subR (K μ2 α1 (hC1.fm hf) hM2) ⟨rfl, ⟨rfl, ⟨rfl, ⟨rfl, ⟨rfl, trivial⟩⟩⟩⟩⟩
  refine J.if_neN (tgt := 1309) dL_law_1294 (by decide) (by omega) (fun _ => fin) (fun hc0 => ?_)
  have hvv := hv hc0
  subst hvv
  refine J.al3 dL_law_1297 ?_
  refine J.iconst dL_law_1298 kI_0 ?_
  refine J.lald (x := v2) (by decide) (by decide) ((congrFun (hf 247 (Or.inr rfl)) 0).trans (hout hc0)) dL_law_1299 ?_
  refine J.il6 dL_law_1300 ?_
  refine J.i2l dL_law_1302 ?_
  refine J.lcmpE dL_law_1303 ?_
  exact J.if_eq (tgt := 1309) dL_law_1304 (by decide) (fun _ => fin) (fun q => absurd rfl q)

set_option maxRecDepth 100000 in
set_option maxHeartbeats 4000000 in
theorem law_18 (hb : b < g.1) (hL : L ≤ 2048) (hi : i + 4 ≤ L) (hC : CR μ α) (hM : MR μ α) (hk : k + 1 ≤ 601024) (hn : n + 6 ≤ 7293034) (K : LK tb g adr b L xs Q i (k + 1) (n + 6)) : J g (mL_law tb) room_1 (QX b L xs Q) k n (WM g adr μ) 1312 [some (.ref b), some (.ref (adr 0)), some (.ref (adr 237)), some (.ref (adr 247)), some (.int (nI i)), none, none, none, none] [] := by
  obtain ⟨c, v, v2, α1, ψ, hc10, hv, hz, hψ, hw, hm⟩ := k_goesTo (g := g) (adr := adr) (xs (i + 1)) (xs (i + 2)) hC hM
  refine J.al1 dL_law_1312 ?_
  refine J.al0 dL_law_1313 ?_
  refine J.il4 dL_law_1314 ?_
  refine J.iconst dL_law_1316 kI_1 ?_
  refine J.iaddN dL_law_1317 ?_
  refine J.sld hb (by omega) (by omega) dL_law_1318 ?_
  refine J.al0 dL_law_1319 ?_
  refine J.il4 dL_law_1320 ?_
  refine J.iconst dL_law_1322 kI_2 ?_
  refine J.iaddN dL_law_1323 ?_
  refine J.sld hb (by omega) (by omega) dL_law_1324 ?_
  refine J.al3 dL_law_1325 ?_
  refine cl_L_196 rfl (k' := k + 1) (n' := n + 6) hw ⟨⟨by decide, by decide⟩, ⟨rfl, rfl⟩, hk, hn⟩ rfl dL_law_1326 (fun μ1 h1 => ?_)
  obtain ⟨hC1, hM1, hout⟩ := hψ μ1 h1
  refine J.is5 dL_law_1329 (Nat.le_of_ble_eq_true rfl) rfl ?_
  refine J.al2 dL_law_1331 ?_
  refine J.al0 dL_law_1332 ?_
  refine J.il4 dL_law_1333 ?_
  refine J.iconst dL_law_1335 kI_1 ?_
  refine J.iaddN dL_law_1336 ?_
  refine J.sld hb (by omega) (by omega) dL_law_1337 ?_
  refine J.al0 dL_law_1338 ?_
  refine J.il4 dL_law_1339 ?_
  refine J.iconst dL_law_1341 kI_2 ?_
  refine J.iaddN dL_law_1342 ?_
  refine J.sld hb (by omega) (by omega) dL_law_1343 ?_
  refine cl_L_198 rfl (by decide) (k' := k + 1) (n' := n + 6) (hm μ1 hM1) ⟨⟨by decide, by decide⟩, ⟨rfl, rfl⟩, hk, hn⟩ rfl dL_law_1344 (fun μ2 h2 => ?_)
  obtain ⟨hM2, ht, hf⟩ := h2
  refine J.is6 dL_law_1347 (Nat.le_of_ble_eq_true rfl) rfl ?_
  refine J.al2 dL_law_1349 ?_
  refine cl_L_138 rfl (by decide) (k' := k + 1) (n' := n + 6) (c_m_thrown _ ht) ⟨⟨by decide, by decide⟩, ⟨rfl, rfl⟩, hk, hn⟩ rfl dL_law_1350 (fun μ3 h3 => ?_)
  rw [h3]; clear h3
  refine J.il5 dL_law_1353 ?_
  refine J.icmp_eqN (tgt := 1360) dL_law_1355 (by decide) (by omega) (by omega) (fun _ => ?_) (fun q => absurd rfl q)
  refine J.il5 dL_law_1360 ?_
  have fin : J g (mL_law tb) room_1 (QX b L xs Q) (k + 1) (n + 6) (WM g adr μ2) 1377 [some (.ref b), some (.ref (adr 0)), some (.ref (adr 237)), some (.ref (adr 247)), some (.int (nI i)), some (.int (nI c)), some (.int v2), none, none] [] := by
    refine J.goto (tgt := 2391) dL_law_1377 (by decide) ?_
    exact J.subR (K μ2 α1 (hC1.fm hf) hM2) ⟨rfl, ⟨rfl, ⟨rfl, ⟨rfl, ⟨rfl, trivial⟩⟩⟩⟩⟩
  refine J.if_neN (tgt := 1377) dL_law_1362 (by decide) (by omega) (fun _ => fin) (fun hc0 => ?_)
  have hvv := hv hc0
  subst hvv
  refine J.al3 dL_law_1365 ?_
  refine J.iconst dL_law_1366 kI_0 ?_
  refine J.lald (x := v2) (by decide) (by decide) ((congrFun (hf 247 (Or.inr rfl)) 0).trans (hout hc0)) dL_law_1367 ?_
  refine J.il6 dL_law_1368 ?_
  refine J.i2l dL_law_1370 ?_
  refine J.lcmpE dL_law_1371 ?_
  exact J.if_eq (tgt := 1377) dL_law_1372 (by decide) (fun _ => fin) (fun q => absurd rfl q)

set_option maxRecDepth 100000 in
set_option maxHeartbeats 4000000 in
theorem law_19 (hb : b < g.1) (hL : L ≤ 2048) (hi : i + 4 ≤ L) (hC : CR μ α) (hM : MR μ α) (hk : k + 1 ≤ 601024) (hn : n + 6 ≤ 7293034) (K : LK tb g adr b L xs Q i (k + 1) (n + 6)) : J g (mL_law tb) room_1 (QX b L xs Q) k n (WM g adr μ) 1380 [some (.ref b), some (.ref (adr 0)), some (.ref (adr 237)), some (.ref (adr 247)), some (.int (nI i)), none, none, none, none] [] := by
  obtain ⟨c, v, v2, α1, ψ, hc10, hv, hz, hψ, hw, hm⟩ := k_shelfOf (g := g) (adr := adr) (xs (i + 1)) (xs (i + 2)) hC hM
  refine J.al1 dL_law_1380 ?_
  refine J.al0 dL_law_1381 ?_
  refine J.il4 dL_law_1382 ?_
  refine J.iconst dL_law_1384 kI_1 ?_
  refine J.iaddN dL_law_1385 ?_
  refine J.sld hb (by omega) (by omega) dL_law_1386 ?_
  refine J.al0 dL_law_1387 ?_
  refine J.il4 dL_law_1388 ?_
  refine J.iconst dL_law_1390 kI_2 ?_
  refine J.iaddN dL_law_1391 ?_
  refine J.sld hb (by omega) (by omega) dL_law_1392 ?_
  refine J.al3 dL_law_1393 ?_
  refine cl_L_199 rfl (k' := k + 1) (n' := n + 6) hw ⟨⟨by decide, by decide⟩, ⟨rfl, rfl⟩, hk, hn⟩ rfl dL_law_1394 (fun μ1 h1 => ?_)
  obtain ⟨hC1, hM1, hout⟩ := hψ μ1 h1
  refine J.is5 dL_law_1397 (Nat.le_of_ble_eq_true rfl) rfl ?_
  refine J.al2 dL_law_1399 ?_
  refine J.al0 dL_law_1400 ?_
  refine J.il4 dL_law_1401 ?_
  refine J.iconst dL_law_1403 kI_1 ?_
  refine J.iaddN dL_law_1404 ?_
  refine J.sld hb (by omega) (by omega) dL_law_1405 ?_
  refine J.al0 dL_law_1406 ?_
  refine J.il4 dL_law_1407 ?_
  refine J.iconst dL_law_1409 kI_2 ?_
  refine J.iaddN dL_law_1410 ?_
  refine J.sld hb (by omega) (by omega) dL_law_1411 ?_
  refine cl_L_201 rfl (by decide) (k' := k + 1) (n' := n + 6) (hm μ1 hM1) ⟨⟨by decide, by decide⟩, ⟨rfl, rfl⟩, hk, hn⟩ rfl dL_law_1412 (fun μ2 h2 => ?_)
  obtain ⟨hM2, ht, hf⟩ := h2
  refine J.is6 dL_law_1415 (Nat.le_of_ble_eq_true rfl) rfl ?_
  refine J.al2 dL_law_1417 ?_
  refine cl_L_138 rfl (by decide) (k' := k + 1) (n' := n + 6) (c_m_thrown _ ht) ⟨⟨by decide, by decide⟩, ⟨rfl, rfl⟩, hk, hn⟩ rfl dL_law_1418 (fun μ3 h3 => ?_)
  rw [h3]; clear h3
  refine J.il5 dL_law_1421 ?_
  refine J.icmp_eqN (tgt := 1428) dL_law_1423 (by decide) (by omega) (by omega) (fun _ => ?_) (fun q => absurd rfl q)
  refine J.il5 dL_law_1428 ?_
  have fin : J g (mL_law tb) room_1 (QX b L xs Q) (k + 1) (n + 6) (WM g adr μ2) 1445 [some (.ref b), some (.ref (adr 0)), some (.ref (adr 237)), some (.ref (adr 247)), some (.int (nI i)), some (.int (nI c)), some (.int v2), none, none] [] := by
    refine J.goto (tgt := 2391) dL_law_1445 (by decide) ?_
    exact J.subR (K μ2 α1 (hC1.fm hf) hM2) ⟨rfl, ⟨rfl, ⟨rfl, ⟨rfl, ⟨rfl, trivial⟩⟩⟩⟩⟩
  refine J.if_neN (tgt := 1445) dL_law_1430 (by decide) (by omega) (fun _ => fin) (fun hc0 => ?_)
  have hvv := hv hc0
  subst hvv
  refine J.al3 dL_law_1433 ?_
  refine J.iconst dL_law_1434 kI_0 ?_
  refine J.lald (x := v2) (by decide) (by decide) ((congrFun (hf 247 (Or.inr rfl)) 0).trans (hout hc0)) dL_law_1435 ?_
  refine J.il6 dL_law_1436 ?_
  refine J.i2l dL_law_1438 ?_
  refine J.lcmpE dL_law_1439 ?_
  exact J.if_eq (tgt := 1445) dL_law_1440 (by decide) (fun _ => fin) (fun q => absurd rfl q)

set_option maxRecDepth 100000 in
set_option maxHeartbeats 4000000 in
theorem law_20 (hb : b < g.1) (hL : L ≤ 2048) (hi : i + 4 ≤ L) (hC : CR μ α) (hM : MR μ α) (hk : k + 1 ≤ 601024) (hn : n + 6 ≤ 7293034) (K : LK tb g adr b L xs Q i (k + 1) (n + 6)) : J g (mL_law tb) room_1 (QX b L xs Q) k n (WM g adr μ) 1448 [some (.ref b), some (.ref (adr 0)), some (.ref (adr 237)), some (.ref (adr 247)), some (.int (nI i)), none, none, none, none] [] := by
  obtain ⟨c, v, v2, α1, ψ, hc10, hv, hz, hψ, hw, hm⟩ := k_orderAgain (g := g) (adr := adr) (xs (i + 1)) hC hM
  refine J.al1 dL_law_1448 ?_
  refine J.al0 dL_law_1449 ?_
  refine J.il4 dL_law_1450 ?_
  refine J.iconst dL_law_1452 kI_1 ?_
  refine J.iaddN dL_law_1453 ?_
  refine J.sld hb (by omega) (by omega) dL_law_1454 ?_
  refine J.al3 dL_law_1455 ?_
  refine cl_L_202 rfl (k' := k + 1) (n' := n + 6) hw ⟨⟨by decide, by decide⟩, ⟨rfl, rfl⟩, hk, hn⟩ rfl dL_law_1456 (fun μ1 h1 => ?_)
  obtain ⟨hC1, hM1, hout⟩ := hψ μ1 h1
  refine J.is5 dL_law_1459 (Nat.le_of_ble_eq_true rfl) rfl ?_
  refine J.al2 dL_law_1461 ?_
  refine J.al0 dL_law_1462 ?_
  refine J.il4 dL_law_1463 ?_
  refine J.iconst dL_law_1465 kI_1 ?_
  refine J.iaddN dL_law_1466 ?_
  refine J.sld hb (by omega) (by omega) dL_law_1467 ?_
  refine cl_L_204 rfl (by decide) (k' := k + 1) (n' := n + 6) (hm μ1 hM1) ⟨⟨by decide, by decide⟩, ⟨rfl, rfl⟩, hk, hn⟩ rfl dL_law_1468 (fun μ2 h2 => ?_)
  obtain ⟨hM2, ht, hf⟩ := h2
  refine J.is6 dL_law_1471 (Nat.le_of_ble_eq_true rfl) rfl ?_
  refine J.al2 dL_law_1473 ?_
  refine cl_L_138 rfl (by decide) (k' := k + 1) (n' := n + 6) (c_m_thrown _ ht) ⟨⟨by decide, by decide⟩, ⟨rfl, rfl⟩, hk, hn⟩ rfl dL_law_1474 (fun μ3 h3 => ?_)
  rw [h3]; clear h3
  refine J.il5 dL_law_1477 ?_
  refine J.icmp_eqN (tgt := 1484) dL_law_1479 (by decide) (by omega) (by omega) (fun _ => ?_) (fun q => absurd rfl q)
  refine J.il5 dL_law_1484 ?_
  have fin : J g (mL_law tb) room_1 (QX b L xs Q) (k + 1) (n + 6) (WM g adr μ2) 1501 [some (.ref b), some (.ref (adr 0)), some (.ref (adr 237)), some (.ref (adr 247)), some (.int (nI i)), some (.int (nI c)), some (.int v2), none, none] [] := by
    refine J.goto (tgt := 2391) dL_law_1501 (by decide) ?_
    exact J.subR (K μ2 α1 (hC1.fm hf) hM2) ⟨rfl, ⟨rfl, ⟨rfl, ⟨rfl, ⟨rfl, trivial⟩⟩⟩⟩⟩
  refine J.if_neN (tgt := 1501) dL_law_1486 (by decide) (by omega) (fun _ => fin) (fun hc0 => ?_)
  have hvv := hv hc0
  subst hvv
  refine J.al3 dL_law_1489 ?_
  refine J.iconst dL_law_1490 kI_0 ?_
  refine J.lald (x := v2) (by decide) (by decide) ((congrFun (hf 247 (Or.inr rfl)) 0).trans (hout hc0)) dL_law_1491 ?_
  refine J.il6 dL_law_1492 ?_
  refine J.i2l dL_law_1494 ?_
  refine J.lcmpE dL_law_1495 ?_
  exact J.if_eq (tgt := 1501) dL_law_1496 (by decide) (fun _ => fin) (fun q => absurd rfl q)
end LL
