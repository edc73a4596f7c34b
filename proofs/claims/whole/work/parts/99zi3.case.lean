/-! the law's cases -/
set_option maxRecDepth 100000 in
set_option maxHeartbeats 4000000 in
theorem lc_18 {Ls : Nat} {xs : Nat → Int32} {i K k ks : Nat} {g : GS} (hLs : Ls ≤ 3584) (hi : i + 7 ≤ Ls) (hK : K < 100000) (hk : k + 5 ≤ 601024) (hks : ks + 463 ≤ 7293034) (h : Rel K g) (hgo : ∀ g', Rel (K + 3) g' → JG Ls xs 3168 i g' (k + 5) (ks + 463)) : JG Ls xs 1144 i g k ks := by
  refine Jl_aload_n (nx := 1145) dL_law_1144 rfl rfl ?_
  refine Jl_arg (nx := 1151) (i := i) (j := 1) dL_law_1145 dL_law_1146 dL_law_1148 dL_law_1149 dL_law_1150 rfl rfl rfl rfl hLs (by omega) ?_
  refine Jl_arg (nx := 1157) (i := i) (j := 2) dL_law_1151 dL_law_1152 dL_law_1154 dL_law_1155 dL_law_1156 rfl rfl rfl rfl hLs (by omega) ?_
  refine Jl_arg (nx := 1163) (i := i) (j := 3) dL_law_1157 dL_law_1158 dL_law_1160 dL_law_1161 dL_law_1162 rfl rfl rfl rfl hLs (by omega) ?_
  refine Jl_arg (nx := 1169) (i := i) (j := 4) dL_law_1163 dL_law_1164 dL_law_1166 dL_law_1167 dL_law_1168 rfl rfl rfl rfl hLs (by omega) ?_
  refine Jl_arg (nx := 1175) (i := i) (j := 5) dL_law_1169 dL_law_1170 dL_law_1172 dL_law_1173 dL_law_1174 rfl rfl rfl rfl hLs (by omega) ?_
  refine Jl_arg6 (nx := 1182) (i := i) (j := 6) dL_law_1175 dL_law_1176 dL_law_1178 dL_law_1180 dL_law_1181 rfl rfl rfl rfl hLs (by omega) ?_
  refine Jl_aload_n (nx := 1183) dL_law_1182 rfl rfl ?_
  refine Jl_callX (R' := rm 11 4 24) (As := [.ref 0, .int (xs (i + 1)), .int (xs (i + 2)), .int (xs (i + 3)), .int (xs (i + 4)), .int (xs (i + 5)), .int (xs (i + 6)), .ref 82]) (nx := 1186) dL_law_1183 rfl wl_does lk_L_215 ws_does rfl ⟨(Nat.le_of_ble_eq_true rfl), (Nat.le_of_ble_eq_true rfl)⟩ (Nat.le_of_ble_eq_true rfl) ⟨(show k + 4 ≤ 601024 by omega), (show ks + 24 ≤ 7293034 by omega)⟩ (cw_does _ _ _ _ _ _ (al_does h _ _ _ _ _ _)) (fun E es' z => by obtain ⟨_, _, z1, -⟩ := z; cases z1) (fun v es' hq => ?_)
  obtain ⟨kk, g3, z1, z2, vv, g1, w, z3, hw, hC⟩ := hq
  cases z1
  subst z2
  subst z3
  refine Jl.widen (k + 5) (ks + 463) (Nat.add_le_add_left (Nat.le_of_ble_eq_true rfl) k) (Nat.add_le_add_left (Nat.le_of_ble_eq_true rfl) ks) ?_
  refine Jl_istore (nx := 1188) dL_law_1186 rfl rfl (Nat.le_of_ble_eq_true rfl) ?_
  refine Jl_aload_n (nx := 1189) dL_law_1188 rfl rfl ?_
  refine Jl_arg (nx := 1195) (i := i) (j := 1) dL_law_1189 dL_law_1190 dL_law_1192 dL_law_1193 dL_law_1194 rfl rfl rfl rfl hLs (by omega) ?_
  refine Jl_arg (nx := 1201) (i := i) (j := 2) dL_law_1195 dL_law_1196 dL_law_1198 dL_law_1199 dL_law_1200 rfl rfl rfl rfl hLs (by omega) ?_
  refine Jl_arg (nx := 1207) (i := i) (j := 3) dL_law_1201 dL_law_1202 dL_law_1204 dL_law_1205 dL_law_1206 rfl rfl rfl rfl hLs (by omega) ?_
  refine Jl_arg (nx := 1213) (i := i) (j := 4) dL_law_1207 dL_law_1208 dL_law_1210 dL_law_1211 dL_law_1212 rfl rfl rfl rfl hLs (by omega) ?_
  refine Jl_arg (nx := 1219) (i := i) (j := 5) dL_law_1213 dL_law_1214 dL_law_1216 dL_law_1217 dL_law_1218 rfl rfl rfl rfl hLs (by omega) ?_
  refine Jl_arg6 (nx := 1226) (i := i) (j := 6) dL_law_1219 dL_law_1220 dL_law_1222 dL_law_1224 dL_law_1225 rfl rfl rfl rfl hLs (by omega) ?_
  refine Jl_callV (M' := mX12_does) (R' := rm 6 0 0) (As := [.int (xs (i + 1)), .int (xs (i + 2)), .int (xs (i + 3)), .int (xs (i + 4)), .int (xs (i + 5)), .int (xs (i + 6))]) (nx := 1229) dL_law_1226 rfl ml_X12_does lk_L_217 iv_X12_does rfl rfl rfl ⟨(Nat.le_of_ble_eq_true rfl), (Nat.le_of_ble_eq_true rfl)⟩ (Nat.le_of_ble_eq_true rfl) ⟨hk, hks⟩ (hC w) (fun E es' z => by obtain ⟨_, _, z1, -⟩ := z; cases z1) (fun v es' hq => ?_)
  obtain ⟨x, g2, z1, z2, hth, hval, hR, hB⟩ := hq
  cases z1
  subst z2
  refine Jl_istore (nx := 1231) dL_law_1229 rfl rfl (Nat.le_of_ble_eq_true rfl) ?_
  refine Jl_aload_n (nx := 1232) dL_law_1231 rfl rfl ?_
  refine Jl_callV (M' := mX12_thrown) (R' := rm 0 0 0) (As := []) (nx := 1235) dL_law_1232 rfl ml_X12_thrown lk_L_159 iv_X12_thrown rfl rfl rfl ⟨(Nat.le_of_ble_eq_true rfl), (Nat.le_of_ble_eq_true rfl)⟩ (Nat.le_of_ble_eq_true rfl) ⟨hk, hks⟩ (ct_m_thrown _) (fun E es' z => by cases z.1) (fun v es' hq => ?_)
  obtain ⟨z1, z2⟩ := hq
  cases z1
  subst z2
  refine Jl_iload (nx := 1237) dL_law_1235 rfl rfl ?_
  refine Jl_icmp_eq (nx := 1240) (tgt := 1242) dL_law_1237 rfl (by decide) (fun _ => ?_) (fun z => absurd hth z)
  refine Jl_iload (nx := 1244) dL_law_1242 rfl rfl ?_
  refine Jl_if_ne (nx := 1247) (tgt := 1259) dL_law_1244 rfl (by decide) (fun hne => ?_) (fun he => ?_)
  · refine Jl_goto (nx := 3168) dL_law_1259 (by decide) ?_
    exact Jl_kill (nx := 0) 5 (Jl_kill (nx := 0) 6 (hgo g2 (hR.up (by omega))))
  · refine Jl_aload_n (nx := 1248) dL_law_1247 rfl rfl ?_
    refine Jl_iconst (nx := 1249) (v := 0) (by decide) dL_law_1248 rfl ?_
    refine Jl_lald (nx := 1250) (es := Wd g2) (a := 82) (n := 1) (f := gB g2 82) dL_law_1249 rfl rfl (fun z => z.elim (by decide) (by decide)) ?_
    refine Jl_iload (nx := 1252) dL_law_1250 rfl rfl ?_
    refine Jl_i2l (nx := 1253) dL_law_1252 rfl ?_
    refine Jl_lcmp (nx := 1254) dL_law_1253 rfl ?_
    have hc0 : lg_cmp (gB g2 82 (0 : Int32).toNatClampNeg) x.toInt64 = 0 := by
      rw [hB]; show lg_cmp (w 0) x.toInt64 = 0; rw [hw he, hval he]; exact lg_cmp_self _
    refine Jl_if_eq (nx := 1257) (tgt := 1259) dL_law_1254 rfl (by decide) (fun _ => ?_) (fun z => absurd hc0 z)
    refine Jl_goto (nx := 3168) dL_law_1259 (by decide) ?_
    exact Jl_kill (nx := 0) 5 (Jl_kill (nx := 0) 6 (hgo g2 (hR.up (by omega))))
set_option maxRecDepth 100000 in
set_option maxHeartbeats 4000000 in
theorem lc_19 {Ls : Nat} {xs : Nat → Int32} {i K k ks : Nat} {g : GS} (hLs : Ls ≤ 3584) (hi : i + 7 ≤ Ls) (hK : K < 100000) (hk : k + 5 ≤ 601024) (hks : ks + 463 ≤ 7293034) (h : Rel K g) (hgo : ∀ g', Rel (K + 3) g' → JG Ls xs 3168 i g' (k + 5) (ks + 463)) : JG Ls xs 1262 i g k ks := by
  refine Jl_aload_n (nx := 1263) dL_law_1262 rfl rfl ?_
  refine Jl_arg (nx := 1269) (i := i) (j := 1) dL_law_1263 dL_law_1264 dL_law_1266 dL_law_1267 dL_law_1268 rfl rfl rfl rfl hLs (by omega) ?_
  refine Jl_arg (nx := 1275) (i := i) (j := 2) dL_law_1269 dL_law_1270 dL_law_1272 dL_law_1273 dL_law_1274 rfl rfl rfl rfl hLs (by omega) ?_
  refine Jl_arg (nx := 1281) (i := i) (j := 3) dL_law_1275 dL_law_1276 dL_law_1278 dL_law_1279 dL_law_1280 rfl rfl rfl rfl hLs (by omega) ?_
  refine Jl_aload_n (nx := 1282) dL_law_1281 rfl rfl ?_
  refine Jl_callX (R' := rm 11 2 12) (As := [.ref 0, .int (xs (i + 1)), .int (xs (i + 2)), .int (xs (i + 3)), .ref 82]) (nx := 1285) dL_law_1282 rfl wl_waits lk_L_218 ws_waits rfl ⟨(Nat.le_of_ble_eq_true rfl), (Nat.le_of_ble_eq_true rfl)⟩ (Nat.le_of_ble_eq_true rfl) ⟨(show k + 2 ≤ 601024 by omega), (show ks + 12 ≤ 7293034 by omega)⟩ (cw_waits _ _ _ (al_waits h _ _ _)) (fun E es' z => by obtain ⟨_, _, z1, -⟩ := z; cases z1) (fun v es' hq => ?_)
  obtain ⟨kk, g3, z1, z2, vv, g1, w, z3, hw, hC⟩ := hq
  cases z1
  subst z2
  subst z3
  refine Jl.widen (k + 5) (ks + 463) (Nat.add_le_add_left (Nat.le_of_ble_eq_true rfl) k) (Nat.add_le_add_left (Nat.le_of_ble_eq_true rfl) ks) ?_
  refine Jl_istore (nx := 1287) dL_law_1285 rfl rfl (Nat.le_of_ble_eq_true rfl) ?_
  refine Jl_aload_n (nx := 1288) dL_law_1287 rfl rfl ?_
  refine Jl_arg (nx := 1294) (i := i) (j := 1) dL_law_1288 dL_law_1289 dL_law_1291 dL_law_1292 dL_law_1293 rfl rfl rfl rfl hLs (by omega) ?_
  refine Jl_arg (nx := 1300) (i := i) (j := 2) dL_law_1294 dL_law_1295 dL_law_1297 dL_law_1298 dL_law_1299 rfl rfl rfl rfl hLs (by omega) ?_
  refine Jl_arg (nx := 1306) (i := i) (j := 3) dL_law_1300 dL_law_1301 dL_law_1303 dL_law_1304 dL_law_1305 rfl rfl rfl rfl hLs (by omega) ?_
  refine Jl_callV (M' := mX12_waits) (R' := rm 6 0 0) (As := [.int (xs (i + 1)), .int (xs (i + 2)), .int (xs (i + 3))]) (nx := 1309) dL_law_1306 rfl ml_X12_waits lk_L_221 iv_X12_waits rfl rfl rfl ⟨(Nat.le_of_ble_eq_true rfl), (Nat.le_of_ble_eq_true rfl)⟩ (Nat.le_of_ble_eq_true rfl) ⟨hk, hks⟩ (hC w) (fun E es' z => by obtain ⟨_, _, z1, -⟩ := z; cases z1) (fun v es' hq => ?_)
  obtain ⟨x, g2, z1, z2, hth, hval, hR, hB⟩ := hq
  cases z1
  subst z2
  refine Jl_lstore (nx := 1311) dL_law_1309 rfl rfl (Nat.le_of_ble_eq_true rfl) ?_
  refine Jl_aload_n (nx := 1312) dL_law_1311 rfl rfl ?_
  refine Jl_callV (M' := mX12_thrown) (R' := rm 0 0 0) (As := []) (nx := 1315) dL_law_1312 rfl ml_X12_thrown lk_L_159 iv_X12_thrown rfl rfl rfl ⟨(Nat.le_of_ble_eq_true rfl), (Nat.le_of_ble_eq_true rfl)⟩ (Nat.le_of_ble_eq_true rfl) ⟨hk, hks⟩ (ct_m_thrown _) (fun E es' z => by cases z.1) (fun v es' hq => ?_)
  obtain ⟨z1, z2⟩ := hq
  cases z1
  subst z2
  refine Jl_iload (nx := 1317) dL_law_1315 rfl rfl ?_
  refine Jl_icmp_eq (nx := 1320) (tgt := 1322) dL_law_1317 rfl (by decide) (fun _ => ?_) (fun z => absurd hth z)
  refine Jl_iload (nx := 1324) dL_law_1322 rfl rfl ?_
  refine Jl_if_ne (nx := 1327) (tgt := 1338) dL_law_1324 rfl (by decide) (fun hne => ?_) (fun he => ?_)
  · refine Jl_goto (nx := 3168) dL_law_1338 (by decide) ?_
    exact Jl_kill (nx := 0) 5 (Jl_kill (nx := 0) 6 (hgo g2 (hR.up (by omega))))
  · refine Jl_aload_n (nx := 1328) dL_law_1327 rfl rfl ?_
    refine Jl_iconst (nx := 1329) (v := 0) (by decide) dL_law_1328 rfl ?_
    refine Jl_lald (nx := 1330) (es := Wd g2) (a := 82) (n := 1) (f := gB g2 82) dL_law_1329 rfl rfl (fun z => z.elim (by decide) (by decide)) ?_
    refine Jl_lload (nx := 1332) dL_law_1330 rfl rfl ?_
    refine Jl_lcmp (nx := 1333) dL_law_1332 rfl ?_
    have hc0 : lg_cmp (gB g2 82 (0 : Int32).toNatClampNeg) x = 0 := by
      rw [hB]; show lg_cmp (w 0) x = 0; rw [hw he, hval he]; exact lg_cmp_self _
    refine Jl_if_eq (nx := 1336) (tgt := 1338) dL_law_1333 rfl (by decide) (fun _ => ?_) (fun z => absurd hc0 z)
    refine Jl_goto (nx := 3168) dL_law_1338 (by decide) ?_
    exact Jl_kill (nx := 0) 5 (Jl_kill (nx := 0) 6 (hgo g2 (hR.up (by omega))))
set_option maxRecDepth 100000 in
set_option maxHeartbeats 4000000 in
theorem lc_20 {Ls : Nat} {xs : Nat → Int32} {i K k ks : Nat} {g : GS} (hLs : Ls ≤ 3584) (hi : i + 7 ≤ Ls) (hK : K < 100000) (hk : k + 5 ≤ 601024) (hks : ks + 463 ≤ 7293034) (h : Rel K g) (hgo : ∀ g', Rel (K + 3) g' → JG Ls xs 3168 i g' (k + 5) (ks + 463)) : JG Ls xs 1341 i g k ks := by
  refine Jl_aload_n (nx := 1342) dL_law_1341 rfl rfl ?_
  refine Jl_arg (nx := 1348) (i := i) (j := 1) dL_law_1342 dL_law_1343 dL_law_1345 dL_law_1346 dL_law_1347 rfl rfl rfl rfl hLs (by omega) ?_
  refine Jl_arg (nx := 1354) (i := i) (j := 2) dL_law_1348 dL_law_1349 dL_law_1351 dL_law_1352 dL_law_1353 rfl rfl rfl rfl hLs (by omega) ?_
  refine Jl_arg (nx := 1360) (i := i) (j := 3) dL_law_1354 dL_law_1355 dL_law_1357 dL_law_1358 dL_law_1359 rfl rfl rfl rfl hLs (by omega) ?_
  refine Jl_aload_n (nx := 1361) dL_law_1360 rfl rfl ?_
  refine Jl_callX (R' := rm 9 2 12) (As := [.ref 0, .int (xs (i + 1)), .int (xs (i + 2)), .int (xs (i + 3)), .ref 82]) (nx := 1364) dL_law_1361 rfl wl_enough lk_L_222 ws_enough rfl ⟨(Nat.le_of_ble_eq_true rfl), (Nat.le_of_ble_eq_true rfl)⟩ (Nat.le_of_ble_eq_true rfl) ⟨(show k + 2 ≤ 601024 by omega), (show ks + 12 ≤ 7293034 by omega)⟩ (cw_enough _ _ _ (al_enough h _ _ _)) (fun E es' z => by obtain ⟨_, _, z1, -⟩ := z; cases z1) (fun v es' hq => ?_)
  obtain ⟨kk, g3, z1, z2, vv, g1, w, z3, hw, hC⟩ := hq
  cases z1
  subst z2
  subst z3
  refine Jl.widen (k + 5) (ks + 463) (Nat.add_le_add_left (Nat.le_of_ble_eq_true rfl) k) (Nat.add_le_add_left (Nat.le_of_ble_eq_true rfl) ks) ?_
  refine Jl_istore (nx := 1366) dL_law_1364 rfl rfl (Nat.le_of_ble_eq_true rfl) ?_
  refine Jl_aload_n (nx := 1367) dL_law_1366 rfl rfl ?_
  refine Jl_arg (nx := 1373) (i := i) (j := 1) dL_law_1367 dL_law_1368 dL_law_1370 dL_law_1371 dL_law_1372 rfl rfl rfl rfl hLs (by omega) ?_
  refine Jl_arg (nx := 1379) (i := i) (j := 2) dL_law_1373 dL_law_1374 dL_law_1376 dL_law_1377 dL_law_1378 rfl rfl rfl rfl hLs (by omega) ?_
  refine Jl_arg (nx := 1385) (i := i) (j := 3) dL_law_1379 dL_law_1380 dL_law_1382 dL_law_1383 dL_law_1384 rfl rfl rfl rfl hLs (by omega) ?_
  refine Jl_callV (M' := mX12_enough) (R' := rm 6 0 0) (As := [.int (xs (i + 1)), .int (xs (i + 2)), .int (xs (i + 3))]) (nx := 1388) dL_law_1385 rfl ml_X12_enough lk_L_224 iv_X12_enough rfl rfl rfl ⟨(Nat.le_of_ble_eq_true rfl), (Nat.le_of_ble_eq_true rfl)⟩ (Nat.le_of_ble_eq_true rfl) ⟨hk, hks⟩ (hC w) (fun E es' z => by obtain ⟨_, _, z1, -⟩ := z; cases z1) (fun v es' hq => ?_)
  obtain ⟨x, g2, z1, z2, hth, hval, hR, hB⟩ := hq
  cases z1
  subst z2
  refine Jl_istore (nx := 1390) dL_law_1388 rfl rfl (Nat.le_of_ble_eq_true rfl) ?_
  refine Jl_aload_n (nx := 1391) dL_law_1390 rfl rfl ?_
  refine Jl_callV (M' := mX12_thrown) (R' := rm 0 0 0) (As := []) (nx := 1394) dL_law_1391 rfl ml_X12_thrown lk_L_159 iv_X12_thrown rfl rfl rfl ⟨(Nat.le_of_ble_eq_true rfl), (Nat.le_of_ble_eq_true rfl)⟩ (Nat.le_of_ble_eq_true rfl) ⟨hk, hks⟩ (ct_m_thrown _) (fun E es' z => by cases z.1) (fun v es' hq => ?_)
  obtain ⟨z1, z2⟩ := hq
  cases z1
  subst z2
  refine Jl_iload (nx := 1396) dL_law_1394 rfl rfl ?_
  refine Jl_icmp_eq (nx := 1399) (tgt := 1401) dL_law_1396 rfl (by decide) (fun _ => ?_) (fun z => absurd hth z)
  refine Jl_iload (nx := 1403) dL_law_1401 rfl rfl ?_
  refine Jl_if_ne (nx := 1406) (tgt := 1418) dL_law_1403 rfl (by decide) (fun hne => ?_) (fun he => ?_)
  · refine Jl_goto (nx := 3168) dL_law_1418 (by decide) ?_
    exact Jl_kill (nx := 0) 5 (Jl_kill (nx := 0) 6 (hgo g2 (hR.up (by omega))))
  · refine Jl_aload_n (nx := 1407) dL_law_1406 rfl rfl ?_
    refine Jl_iconst (nx := 1408) (v := 0) (by decide) dL_law_1407 rfl ?_
    refine Jl_lald (nx := 1409) (es := Wd g2) (a := 82) (n := 1) (f := gB g2 82) dL_law_1408 rfl rfl (fun z => z.elim (by decide) (by decide)) ?_
    refine Jl_iload (nx := 1411) dL_law_1409 rfl rfl ?_
    refine Jl_i2l (nx := 1412) dL_law_1411 rfl ?_
    refine Jl_lcmp (nx := 1413) dL_law_1412 rfl ?_
    have hc0 : lg_cmp (gB g2 82 (0 : Int32).toNatClampNeg) x.toInt64 = 0 := by
      rw [hB]; show lg_cmp (w 0) x.toInt64 = 0; rw [hw he, hval he]; exact lg_cmp_self _
    refine Jl_if_eq (nx := 1416) (tgt := 1418) dL_law_1413 rfl (by decide) (fun _ => ?_) (fun z => absurd hc0 z)
    refine Jl_goto (nx := 3168) dL_law_1418 (by decide) ?_
    exact Jl_kill (nx := 0) 5 (Jl_kill (nx := 0) 6 (hgo g2 (hR.up (by omega))))
set_option maxRecDepth 100000 in
set_option maxHeartbeats 4000000 in
theorem lc_21 {Ls : Nat} {xs : Nat → Int32} {i K k ks : Nat} {g : GS} (hLs : Ls ≤ 3584) (hi : i + 7 ≤ Ls) (hK : K < 100000) (hk : k + 5 ≤ 601024) (hks : ks + 463 ≤ 7293034) (h : Rel K g) (hgo : ∀ g', Rel (K + 3) g' → JG Ls xs 3168 i g' (k + 5) (ks + 463)) : JG Ls xs 1421 i g k ks := by
  refine Jl_aload_n (nx := 1422) dL_law_1421 rfl rfl ?_
  refine Jl_arg (nx := 1428) (i := i) (j := 1) dL_law_1422 dL_law_1423 dL_law_1425 dL_law_1426 dL_law_1427 rfl rfl rfl rfl hLs (by omega) ?_
  refine Jl_arg (nx := 1434) (i := i) (j := 2) dL_law_1428 dL_law_1429 dL_law_1431 dL_law_1432 dL_law_1433 rfl rfl rfl rfl hLs (by omega) ?_
  refine Jl_arg (nx := 1440) (i := i) (j := 3) dL_law_1434 dL_law_1435 dL_law_1437 dL_law_1438 dL_law_1439 rfl rfl rfl rfl hLs (by omega) ?_
  refine Jl_arg (nx := 1446) (i := i) (j := 4) dL_law_1440 dL_law_1441 dL_law_1443 dL_law_1444 dL_law_1445 rfl rfl rfl rfl hLs (by omega) ?_
  refine Jl_arg (nx := 1452) (i := i) (j := 5) dL_law_1446 dL_law_1447 dL_law_1449 dL_law_1450 dL_law_1451 rfl rfl rfl rfl hLs (by omega) ?_
  refine Jl_aload_n (nx := 1453) dL_law_1452 rfl rfl ?_
  refine Jl_callX (R' := rm 11 4 24) (As := [.ref 0, .int (xs (i + 1)), .int (xs (i + 2)), .int (xs (i + 3)), .int (xs (i + 4)), .int (xs (i + 5)), .ref 82]) (nx := 1456) dL_law_1453 rfl wl_loses lk_L_225 ws_loses rfl ⟨(Nat.le_of_ble_eq_true rfl), (Nat.le_of_ble_eq_true rfl)⟩ (Nat.le_of_ble_eq_true rfl) ⟨(show k + 4 ≤ 601024 by omega), (show ks + 24 ≤ 7293034 by omega)⟩ (cw_loses _ _ _ _ _ (al_loses h _ _ _ _ _)) (fun E es' z => by obtain ⟨_, _, z1, -⟩ := z; cases z1) (fun v es' hq => ?_)
  obtain ⟨kk, g3, z1, z2, vv, g1, w, z3, hw, hC⟩ := hq
  cases z1
  subst z2
  subst z3
  refine Jl.widen (k + 5) (ks + 463) (Nat.add_le_add_left (Nat.le_of_ble_eq_true rfl) k) (Nat.add_le_add_left (Nat.le_of_ble_eq_true rfl) ks) ?_
  refine Jl_istore (nx := 1458) dL_law_1456 rfl rfl (Nat.le_of_ble_eq_true rfl) ?_
  refine Jl_aload_n (nx := 1459) dL_law_1458 rfl rfl ?_
  refine Jl_arg (nx := 1465) (i := i) (j := 1) dL_law_1459 dL_law_1460 dL_law_1462 dL_law_1463 dL_law_1464 rfl rfl rfl rfl hLs (by omega) ?_
  refine Jl_arg (nx := 1471) (i := i) (j := 2) dL_law_1465 dL_law_1466 dL_law_1468 dL_law_1469 dL_law_1470 rfl rfl rfl rfl hLs (by omega) ?_
  refine Jl_arg (nx := 1477) (i := i) (j := 3) dL_law_1471 dL_law_1472 dL_law_1474 dL_law_1475 dL_law_1476 rfl rfl rfl rfl hLs (by omega) ?_
  refine Jl_arg (nx := 1483) (i := i) (j := 4) dL_law_1477 dL_law_1478 dL_law_1480 dL_law_1481 dL_law_1482 rfl rfl rfl rfl hLs (by omega) ?_
  refine Jl_arg (nx := 1489) (i := i) (j := 5) dL_law_1483 dL_law_1484 dL_law_1486 dL_law_1487 dL_law_1488 rfl rfl rfl rfl hLs (by omega) ?_
  refine Jl_callV (M' := mX12_loses) (R' := rm 6 0 0) (As := [.int (xs (i + 1)), .int (xs (i + 2)), .int (xs (i + 3)), .int (xs (i + 4)), .int (xs (i + 5))]) (nx := 1492) dL_law_1489 rfl ml_X12_loses lk_L_228 iv_X12_loses rfl rfl rfl ⟨(Nat.le_of_ble_eq_true rfl), (Nat.le_of_ble_eq_true rfl)⟩ (Nat.le_of_ble_eq_true rfl) ⟨hk, hks⟩ (hC w) (fun E es' z => by obtain ⟨_, _, z1, -⟩ := z; cases z1) (fun v es' hq => ?_)
  obtain ⟨x, g2, z1, z2, hth, hval, hR, hB⟩ := hq
  cases z1
  subst z2
  refine Jl_lstore (nx := 1494) dL_law_1492 rfl rfl (Nat.le_of_ble_eq_true rfl) ?_
  refine Jl_aload_n (nx := 1495) dL_law_1494 rfl rfl ?_
  refine Jl_callV (M' := mX12_thrown) (R' := rm 0 0 0) (As := []) (nx := 1498) dL_law_1495 rfl ml_X12_thrown lk_L_159 iv_X12_thrown rfl rfl rfl ⟨(Nat.le_of_ble_eq_true rfl), (Nat.le_of_ble_eq_true rfl)⟩ (Nat.le_of_ble_eq_true rfl) ⟨hk, hks⟩ (ct_m_thrown _) (fun E es' z => by cases z.1) (fun v es' hq => ?_)
  obtain ⟨z1, z2⟩ := hq
  cases z1
  subst z2
  refine Jl_iload (nx := 1500) dL_law_1498 rfl rfl ?_
  refine Jl_icmp_eq (nx := 1503) (tgt := 1505) dL_law_1500 rfl (by decide) (fun _ => ?_) (fun z => absurd hth z)
  refine Jl_iload (nx := 1507) dL_law_1505 rfl rfl ?_
  refine Jl_if_ne (nx := 1510) (tgt := 1521) dL_law_1507 rfl (by decide) (fun hne => ?_) (fun he => ?_)
  · refine Jl_goto (nx := 3168) dL_law_1521 (by decide) ?_
    exact Jl_kill (nx := 0) 5 (Jl_kill (nx := 0) 6 (hgo g2 (hR.up (by omega))))
  · refine Jl_aload_n (nx := 1511) dL_law_1510 rfl rfl ?_
    refine Jl_iconst (nx := 1512) (v := 0) (by decide) dL_law_1511 rfl ?_
    refine Jl_lald (nx := 1513) (es := Wd g2) (a := 82) (n := 1) (f := gB g2 82) dL_law_1512 rfl rfl (fun z => z.elim (by decide) (by decide)) ?_
    refine Jl_lload (nx := 1515) dL_law_1513 rfl rfl ?_
    refine Jl_lcmp (nx := 1516) dL_law_1515 rfl ?_
    have hc0 : lg_cmp (gB g2 82 (0 : Int32).toNatClampNeg) x = 0 := by
      rw [hB]; show lg_cmp (w 0) x = 0; rw [hw he, hval he]; exact lg_cmp_self _
    refine Jl_if_eq (nx := 1519) (tgt := 1521) dL_law_1516 rfl (by decide) (fun _ => ?_) (fun z => absurd hc0 z)
    refine Jl_goto (nx := 3168) dL_law_1521 (by decide) ?_
    exact Jl_kill (nx := 0) 5 (Jl_kill (nx := 0) 6 (hgo g2 (hR.up (by omega))))
set_option maxRecDepth 100000 in
set_option maxHeartbeats 4000000 in
theorem lc_22 {Ls : Nat} {xs : Nat → Int32} {i K k ks : Nat} {g : GS} (hLs : Ls ≤ 3584) (hi : i + 7 ≤ Ls) (hK : K < 100000) (hk : k + 5 ≤ 601024) (hks : ks + 463 ≤ 7293034) (h : Rel K g) (hgo : ∀ g', Rel (K + 3) g' → JG Ls xs 3168 i g' (k + 5) (ks + 463)) : JG Ls xs 1524 i g k ks := by
  refine Jl_aload_n (nx := 1525) dL_law_1524 rfl rfl ?_
  refine Jl_arg (nx := 1531) (i := i) (j := 1) dL_law_1525 dL_law_1526 dL_law_1528 dL_law_1529 dL_law_1530 rfl rfl rfl rfl hLs (by omega) ?_
  refine Jl_arg (nx := 1537) (i := i) (j := 2) dL_law_1531 dL_law_1532 dL_law_1534 dL_law_1535 dL_law_1536 rfl rfl rfl rfl hLs (by omega) ?_
  refine Jl_arg (nx := 1543) (i := i) (j := 3) dL_law_1537 dL_law_1538 dL_law_1540 dL_law_1541 dL_law_1542 rfl rfl rfl rfl hLs (by omega) ?_
  refine Jl_arg (nx := 1549) (i := i) (j := 4) dL_law_1543 dL_law_1544 dL_law_1546 dL_law_1547 dL_law_1548 rfl rfl rfl rfl hLs (by omega) ?_
  refine Jl_arg (nx := 1555) (i := i) (j := 5) dL_law_1549 dL_law_1550 dL_law_1552 dL_law_1553 dL_law_1554 rfl rfl rfl rfl hLs (by omega) ?_
  refine Jl_arg6 (nx := 1562) (i := i) (j := 6) dL_law_1555 dL_law_1556 dL_law_1558 dL_law_1560 dL_law_1561 rfl rfl rfl rfl hLs (by omega) ?_
  refine Jl_if_eq (nx := 1565) (tgt := 1569) dL_law_1562 rfl (by decide) (fun hb => ?_) (fun hb => ?_)
  · refine Jl_iconst (nx := 1570) (v := 0) (by decide) dL_law_1569 rfl ?_
    refine Jl_aload_n (nx := 1571) dL_law_1570 rfl rfl ?_
    refine Jl_callX (R' := rm 11 4 24) (As := [.ref 0, .int (xs (i + 1)), .int (xs (i + 2)), .int (xs (i + 3)), .int (xs (i + 4)), .int (xs (i + 5)), .int (bI false), .ref 82]) (nx := 1574) dL_law_1571 rfl wl_part lk_L_229 ws_part rfl ⟨(Nat.le_of_ble_eq_true rfl), (Nat.le_of_ble_eq_true rfl)⟩ (Nat.le_of_ble_eq_true rfl) ⟨(show k + 4 ≤ 601024 by omega), (show ks + 24 ≤ 7293034 by omega)⟩ (cw_part _ _ _ _ _ _ (al_part h _ _ _ _ _ _)) (fun E es' z => by obtain ⟨_, _, z1, -⟩ := z; cases z1) (fun v es' hq => ?_)
    obtain ⟨kk, g3, z1, z2, vv, g1, w, z3, hw, hC⟩ := hq
    cases z1
    subst z2
    subst z3
    refine Jl.widen (k + 5) (ks + 463) (Nat.add_le_add_left (Nat.le_of_ble_eq_true rfl) k) (Nat.add_le_add_left (Nat.le_of_ble_eq_true rfl) ks) ?_
    refine Jl_istore (nx := 1576) dL_law_1574 rfl rfl (Nat.le_of_ble_eq_true rfl) ?_
    refine Jl_aload_n (nx := 1577) dL_law_1576 rfl rfl ?_
    refine Jl_arg (nx := 1583) (i := i) (j := 1) dL_law_1577 dL_law_1578 dL_law_1580 dL_law_1581 dL_law_1582 rfl rfl rfl rfl hLs (by omega) ?_
    refine Jl_arg (nx := 1589) (i := i) (j := 2) dL_law_1583 dL_law_1584 dL_law_1586 dL_law_1587 dL_law_1588 rfl rfl rfl rfl hLs (by omega) ?_
    refine Jl_arg (nx := 1595) (i := i) (j := 3) dL_law_1589 dL_law_1590 dL_law_1592 dL_law_1593 dL_law_1594 rfl rfl rfl rfl hLs (by omega) ?_
    refine Jl_arg (nx := 1601) (i := i) (j := 4) dL_law_1595 dL_law_1596 dL_law_1598 dL_law_1599 dL_law_1600 rfl rfl rfl rfl hLs (by omega) ?_
    refine Jl_arg (nx := 1607) (i := i) (j := 5) dL_law_1601 dL_law_1602 dL_law_1604 dL_law_1605 dL_law_1606 rfl rfl rfl rfl hLs (by omega) ?_
    refine Jl_arg6 (nx := 1614) (i := i) (j := 6) dL_law_1607 dL_law_1608 dL_law_1610 dL_law_1612 dL_law_1613 rfl rfl rfl rfl hLs (by omega) ?_
    refine Jl_if_eq (nx := 1617) (tgt := 1621) dL_law_1614 rfl (by decide) (fun _ => ?_) (fun z => absurd hb z)
    refine Jl_iconst (nx := 1622) (v := 0) (by decide) dL_law_1621 rfl ?_
    refine Jl_callV (M' := mX12_part) (R' := rm 6 0 0) (As := [.int (xs (i + 1)), .int (xs (i + 2)), .int (xs (i + 3)), .int (xs (i + 4)), .int (xs (i + 5)), .int (bI false)]) (nx := 1625) dL_law_1622 rfl ml_X12_part lk_L_232 iv_X12_part rfl rfl rfl ⟨(Nat.le_of_ble_eq_true rfl), (Nat.le_of_ble_eq_true rfl)⟩ (Nat.le_of_ble_eq_true rfl) ⟨hk, hks⟩ (hC w) (fun E es' z => by obtain ⟨_, _, z1, -⟩ := z; cases z1) (fun v es' hq => ?_)
    obtain ⟨x, g2, z1, z2, hth, hval, hR, hB⟩ := hq
    cases z1
    subst z2
    refine Jl_istore (nx := 1627) dL_law_1625 rfl rfl (Nat.le_of_ble_eq_true rfl) ?_
    refine Jl_aload_n (nx := 1628) dL_law_1627 rfl rfl ?_
    refine Jl_callV (M' := mX12_thrown) (R' := rm 0 0 0) (As := []) (nx := 1631) dL_law_1628 rfl ml_X12_thrown lk_L_159 iv_X12_thrown rfl rfl rfl ⟨(Nat.le_of_ble_eq_true rfl), (Nat.le_of_ble_eq_true rfl)⟩ (Nat.le_of_ble_eq_true rfl) ⟨hk, hks⟩ (ct_m_thrown _) (fun E es' z => by cases z.1) (fun v es' hq => ?_)
    obtain ⟨z1, z2⟩ := hq
    cases z1
    subst z2
    refine Jl_iload (nx := 1633) dL_law_1631 rfl rfl ?_
    refine Jl_icmp_eq (nx := 1636) (tgt := 1638) dL_law_1633 rfl (by decide) (fun _ => ?_) (fun z => absurd hth z)
    refine Jl_iload (nx := 1640) dL_law_1638 rfl rfl ?_
    refine Jl_if_ne (nx := 1643) (tgt := 1655) dL_law_1640 rfl (by decide) (fun hne => ?_) (fun he => ?_)
    · refine Jl_goto (nx := 3168) dL_law_1655 (by decide) ?_
      exact Jl_kill (nx := 0) 5 (Jl_kill (nx := 0) 6 (hgo g2 (hR.up (by omega))))
    · refine Jl_aload_n (nx := 1644) dL_law_1643 rfl rfl ?_
      refine Jl_iconst (nx := 1645) (v := 0) (by decide) dL_law_1644 rfl ?_
      refine Jl_lald (nx := 1646) (es := Wd g2) (a := 82) (n := 1) (f := gB g2 82) dL_law_1645 rfl rfl (fun z => z.elim (by decide) (by decide)) ?_
      refine Jl_iload (nx := 1648) dL_law_1646 rfl rfl ?_
      refine Jl_i2l (nx := 1649) dL_law_1648 rfl ?_
      refine Jl_lcmp (nx := 1650) dL_law_1649 rfl ?_
      have hc0 : lg_cmp (gB g2 82 (0 : Int32).toNatClampNeg) x.toInt64 = 0 := by
        rw [hB]; show lg_cmp (w 0) x.toInt64 = 0; rw [hw he, hval he]; exact lg_cmp_self _
      refine Jl_if_eq (nx := 1653) (tgt := 1655) dL_law_1650 rfl (by decide) (fun _ => ?_) (fun z => absurd hc0 z)
      refine Jl_goto (nx := 3168) dL_law_1655 (by decide) ?_
      exact Jl_kill (nx := 0) 5 (Jl_kill (nx := 0) 6 (hgo g2 (hR.up (by omega))))
  · refine Jl_iconst (nx := 1566) (v := 1) (by decide) dL_law_1565 rfl ?_
    refine Jl_goto (nx := 1570) dL_law_1566 (by decide) ?_
    refine Jl_aload_n (nx := 1571) dL_law_1570 rfl rfl ?_
    refine Jl_callX (R' := rm 11 4 24) (As := [.ref 0, .int (xs (i + 1)), .int (xs (i + 2)), .int (xs (i + 3)), .int (xs (i + 4)), .int (xs (i + 5)), .int (bI true), .ref 82]) (nx := 1574) dL_law_1571 rfl wl_part lk_L_229 ws_part rfl ⟨(Nat.le_of_ble_eq_true rfl), (Nat.le_of_ble_eq_true rfl)⟩ (Nat.le_of_ble_eq_true rfl) ⟨(show k + 4 ≤ 601024 by omega), (show ks + 24 ≤ 7293034 by omega)⟩ (cw_part _ _ _ _ _ _ (al_part h _ _ _ _ _ _)) (fun E es' z => by obtain ⟨_, _, z1, -⟩ := z; cases z1) (fun v es' hq => ?_)
    obtain ⟨kk, g3, z1, z2, vv, g1, w, z3, hw, hC⟩ := hq
    cases z1
    subst z2
    subst z3
    refine Jl.widen (k + 5) (ks + 463) (Nat.add_le_add_left (Nat.le_of_ble_eq_true rfl) k) (Nat.add_le_add_left (Nat.le_of_ble_eq_true rfl) ks) ?_
    refine Jl_istore (nx := 1576) dL_law_1574 rfl rfl (Nat.le_of_ble_eq_true rfl) ?_
    refine Jl_aload_n (nx := 1577) dL_law_1576 rfl rfl ?_
    refine Jl_arg (nx := 1583) (i := i) (j := 1) dL_law_1577 dL_law_1578 dL_law_1580 dL_law_1581 dL_law_1582 rfl rfl rfl rfl hLs (by omega) ?_
    refine Jl_arg (nx := 1589) (i := i) (j := 2) dL_law_1583 dL_law_1584 dL_law_1586 dL_law_1587 dL_law_1588 rfl rfl rfl rfl hLs (by omega) ?_
    refine Jl_arg (nx := 1595) (i := i) (j := 3) dL_law_1589 dL_law_1590 dL_law_1592 dL_law_1593 dL_law_1594 rfl rfl rfl rfl hLs (by omega) ?_
    refine Jl_arg (nx := 1601) (i := i) (j := 4) dL_law_1595 dL_law_1596 dL_law_1598 dL_law_1599 dL_law_1600 rfl rfl rfl rfl hLs (by omega) ?_
    refine Jl_arg (nx := 1607) (i := i) (j := 5) dL_law_1601 dL_law_1602 dL_law_1604 dL_law_1605 dL_law_1606 rfl rfl rfl rfl hLs (by omega) ?_
    refine Jl_arg6 (nx := 1614) (i := i) (j := 6) dL_law_1607 dL_law_1608 dL_law_1610 dL_law_1612 dL_law_1613 rfl rfl rfl rfl hLs (by omega) ?_
    refine Jl_if_eq (nx := 1617) (tgt := 1621) dL_law_1614 rfl (by decide) (fun z => absurd z hb) (fun _ => ?_)
    refine Jl_iconst (nx := 1618) (v := 1) (by decide) dL_law_1617 rfl ?_
    refine Jl_goto (nx := 1622) dL_law_1618 (by decide) ?_
    refine Jl_callV (M' := mX12_part) (R' := rm 6 0 0) (As := [.int (xs (i + 1)), .int (xs (i + 2)), .int (xs (i + 3)), .int (xs (i + 4)), .int (xs (i + 5)), .int (bI true)]) (nx := 1625) dL_law_1622 rfl ml_X12_part lk_L_232 iv_X12_part rfl rfl rfl ⟨(Nat.le_of_ble_eq_true rfl), (Nat.le_of_ble_eq_true rfl)⟩ (Nat.le_of_ble_eq_true rfl) ⟨hk, hks⟩ (hC w) (fun E es' z => by obtain ⟨_, _, z1, -⟩ := z; cases z1) (fun v es' hq => ?_)
    obtain ⟨x, g2, z1, z2, hth, hval, hR, hB⟩ := hq
    cases z1
    subst z2
    refine Jl_istore (nx := 1627) dL_law_1625 rfl rfl (Nat.le_of_ble_eq_true rfl) ?_
    refine Jl_aload_n (nx := 1628) dL_law_1627 rfl rfl ?_
    refine Jl_callV (M' := mX12_thrown) (R' := rm 0 0 0) (As := []) (nx := 1631) dL_law_1628 rfl ml_X12_thrown lk_L_159 iv_X12_thrown rfl rfl rfl ⟨(Nat.le_of_ble_eq_true rfl), (Nat.le_of_ble_eq_true rfl)⟩ (Nat.le_of_ble_eq_true rfl) ⟨hk, hks⟩ (ct_m_thrown _) (fun E es' z => by cases z.1) (fun v es' hq => ?_)
    obtain ⟨z1, z2⟩ := hq
    cases z1
    subst z2
    refine Jl_iload (nx := 1633) dL_law_1631 rfl rfl ?_
    refine Jl_icmp_eq (nx := 1636) (tgt := 1638) dL_law_1633 rfl (by decide) (fun _ => ?_) (fun z => absurd hth z)
    refine Jl_iload (nx := 1640) dL_law_1638 rfl rfl ?_
    refine Jl_if_ne (nx := 1643) (tgt := 1655) dL_law_1640 rfl (by decide) (fun hne => ?_) (fun he => ?_)
    · refine Jl_goto (nx := 3168) dL_law_1655 (by decide) ?_
      exact Jl_kill (nx := 0) 5 (Jl_kill (nx := 0) 6 (hgo g2 (hR.up (by omega))))
    · refine Jl_aload_n (nx := 1644) dL_law_1643 rfl rfl ?_
      refine Jl_iconst (nx := 1645) (v := 0) (by decide) dL_law_1644 rfl ?_
      refine Jl_lald (nx := 1646) (es := Wd g2) (a := 82) (n := 1) (f := gB g2 82) dL_law_1645 rfl rfl (fun z => z.elim (by decide) (by decide)) ?_
      refine Jl_iload (nx := 1648) dL_law_1646 rfl rfl ?_
      refine Jl_i2l (nx := 1649) dL_law_1648 rfl ?_
      refine Jl_lcmp (nx := 1650) dL_law_1649 rfl ?_
      have hc0 : lg_cmp (gB g2 82 (0 : Int32).toNatClampNeg) x.toInt64 = 0 := by
        rw [hB]; show lg_cmp (w 0) x.toInt64 = 0; rw [hw he, hval he]; exact lg_cmp_self _
      refine Jl_if_eq (nx := 1653) (tgt := 1655) dL_law_1650 rfl (by decide) (fun _ => ?_) (fun z => absurd hc0 z)
      refine Jl_goto (nx := 3168) dL_law_1655 (by decide) ?_
      exact Jl_kill (nx := 0) 5 (Jl_kill (nx := 0) 6 (hgo g2 (hR.up (by omega))))
