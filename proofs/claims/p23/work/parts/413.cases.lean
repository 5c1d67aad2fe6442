set_option maxHeartbeats 4000000 in
set_option maxRecDepth 20000 in
theorem lc_30 {E : dkE} {l : Launch} {G : dkG} {L : Nat} {xs : Nat → Int32} (hGd : dk_Gd G) (hE : dk_Good E cL_law RL 20 dk_Ty l G 0 4 600000 7302250) (hX : dk_Scx E L xs) (i : Int) (hi : 0 ≤ i ∧ i + 6 ≤ (L : Int) ∧ (L : Int) ≤ 3072) (σ : dkS) (h : LX σ) (K : ∀ σ1 : dkS, LX σ1 → dk_PJ E 1624 [(4, (-40)), (4, 0), (4, 141), (0, i)] [] 190 σ1) : dk_PJ E 1350 [(4, (-40)), (4, 0), (4, 141), (0, i)] [] 190 σ := by
  obtain ⟨h, hb0, hb1⟩ := h
  refine dk_aload_n (pc' := 1351) hE dL_law_1350 rfl rfl rfl ?_
  refine dk_aload_n (pc' := 1352) hE dL_law_1351 rfl rfl rfl ?_
  refine dk_iload_n (pc' := 1353) hE dL_law_1352 rfl rfl rfl ?_
  refine dk_iconst (pc' := 1354) hE dL_law_1353 (by decide) rfl ?_
  obtain ⟨v1, hv1⟩ : ∃ z : Int, z = i + 1 := ⟨_, rfl⟩
  refine dk_iadd (pc' := 1355) hE dL_law_1354 hv1.symm (by omega) rfl ?_
  refine dk_sldx (pc' := 1356) hE hX dL_law_1355 (by omega) rfl (fun v2 hiv2 hxv2 => ?_)
  refine dk_aload_n (pc' := 1357) hE dL_law_1356 rfl rfl rfl ?_
  refine dk_iload_n (pc' := 1358) hE dL_law_1357 rfl rfl rfl ?_
  refine dk_iconst (pc' := 1359) hE dL_law_1358 (by decide) rfl ?_
  obtain ⟨v3, hv3⟩ : ∃ z : Int, z = i + 2 := ⟨_, rfl⟩
  refine dk_iadd (pc' := 1360) hE dL_law_1359 hv3.symm (by omega) rfl ?_
  refine dk_sldx (pc' := 1361) hE hX dL_law_1360 (by omega) rfl (fun v4 hiv4 hxv4 => ?_)
  refine dk_aload_n (pc' := 1362) hE dL_law_1361 rfl rfl rfl ?_
  refine dk_iload_n (pc' := 1363) hE dL_law_1362 rfl rfl rfl ?_
  refine dk_iconst (pc' := 1364) hE dL_law_1363 (by decide) rfl ?_
  obtain ⟨v5, hv5⟩ : ∃ z : Int, z = i + 3 := ⟨_, rfl⟩
  refine dk_iadd (pc' := 1365) hE dL_law_1364 hv5.symm (by omega) rfl ?_
  refine dk_sldx (pc' := 1366) hE hX dL_law_1365 (by omega) rfl (fun v6 hiv6 hxv6 => ?_)
  refine dk_aload_n (pc' := 1367) hE dL_law_1366 rfl rfl rfl ?_
  refine dk_iload_n (pc' := 1368) hE dL_law_1367 rfl rfl rfl ?_
  refine dk_iconst (pc' := 1369) hE dL_law_1368 (by decide) rfl ?_
  obtain ⟨v7, hv7⟩ : ∃ z : Int, z = i + 4 := ⟨_, rfl⟩
  refine dk_iadd (pc' := 1370) hE dL_law_1369 hv7.symm (by omega) rfl ?_
  refine dk_sldx (pc' := 1371) hE hX dL_law_1370 (by omega) rfl (fun v8 hiv8 hxv8 => ?_)
  refine dk_cL (pc' := 1374) (as := [(0, v2), (0, v4), (0, v6), (0, v8)]) hE lk_L_142 (ct_X10_learn l G hGd v2 v4 v6 v8 (σ 0 9)) dL_law_1371 rfl is_0 rfl (by decide) (Nat.le_of_ble_eq_true rfl) ⟨rfl, h.1, h.2.1, rfl⟩ rfl (fun r10 σ9 hr10 _ => ?_)
  obtain ⟨v11, rfl, hfσ9, hpr10⟩ := hr10
  have hzσ90_12 := hfσ9 0 12 (by omega)
  have hzσ9141_52 := hfσ9 141 52 (by omega)
  have hzσ937_8 := hfσ9 37 8 (by omega)
  have hzσ9141_54 := hfσ9 141 54 (by omega)
  have L12 : LI σ9 := ⟨GI_fr h.1 (fun k j q => hfσ9 k j (by omega)), by rw [hfσ9 0 9 (by omega)]; exact h.2.1, MI_fr h.2.2 (fun k j q => hfσ9 k j (by omega))⟩
  refine dk_pop (pc' := 1375) hE dL_law_1374 (show (0 : Nat) ≠ 3 by decide) rfl ?_
  refine dk_aload_n (pc' := 1376) hE dL_law_1375 rfl rfl rfl ?_
  refine dk_aload_n (pc' := 1377) hE dL_law_1376 rfl rfl rfl ?_
  refine dk_iload_n (pc' := 1378) hE dL_law_1377 rfl rfl rfl ?_
  refine dk_iconst (pc' := 1379) hE dL_law_1378 (by decide) rfl ?_
  obtain ⟨v13, hv13⟩ : ∃ z : Int, z = i + 1 := ⟨_, rfl⟩
  refine dk_iadd (pc' := 1380) hE dL_law_1379 hv13.symm (by omega) rfl ?_
  refine dk_sldx (pc' := 1381) hE hX dL_law_1380 (by omega) rfl (fun v14 hiv14 hxv14 => ?_)
  have hqv14 : v14 = v2 := by rw [hxv14, hxv2, show v13 = v1 by omega]
  refine dk_aload_n (pc' := 1382) hE dL_law_1381 rfl rfl rfl ?_
  refine dk_iload_n (pc' := 1383) hE dL_law_1382 rfl rfl rfl ?_
  refine dk_iconst (pc' := 1384) hE dL_law_1383 (by decide) rfl ?_
  obtain ⟨v15, hv15⟩ : ∃ z : Int, z = i + 2 := ⟨_, rfl⟩
  refine dk_iadd (pc' := 1385) hE dL_law_1384 hv15.symm (by omega) rfl ?_
  refine dk_sldx (pc' := 1386) hE hX dL_law_1385 (by omega) rfl (fun v16 hiv16 hxv16 => ?_)
  have hqv16 : v16 = v4 := by rw [hxv16, hxv4, show v15 = v3 by omega]
  refine dk_aload_n (pc' := 1387) hE dL_law_1386 rfl rfl rfl ?_
  refine dk_iload_n (pc' := 1388) hE dL_law_1387 rfl rfl rfl ?_
  refine dk_iconst (pc' := 1389) hE dL_law_1388 (by decide) rfl ?_
  obtain ⟨v17, hv17⟩ : ∃ z : Int, z = i + 3 := ⟨_, rfl⟩
  refine dk_iadd (pc' := 1390) hE dL_law_1389 hv17.symm (by omega) rfl ?_
  refine dk_sldx (pc' := 1391) hE hX dL_law_1390 (by omega) rfl (fun v18 hiv18 hxv18 => ?_)
  have hqv18 : v18 = v6 := by rw [hxv18, hxv6, show v17 = v5 by omega]
  refine dk_aload_n (pc' := 1392) hE dL_law_1391 rfl rfl rfl ?_
  refine dk_iload_n (pc' := 1393) hE dL_law_1392 rfl rfl rfl ?_
  refine dk_iconst (pc' := 1394) hE dL_law_1393 (by decide) rfl ?_
  obtain ⟨v19, hv19⟩ : ∃ z : Int, z = i + 4 := ⟨_, rfl⟩
  refine dk_iadd (pc' := 1395) hE dL_law_1394 hv19.symm (by omega) rfl ?_
  refine dk_sldx (pc' := 1396) hE hX dL_law_1395 (by omega) rfl (fun v20 hiv20 hxv20 => ?_)
  have hqv20 : v20 = v8 := by rw [hxv20, hxv8, show v19 = v7 by omega]
  refine dk_cL (pc' := 1399) (as := [(0, v14), (0, v16), (0, v18), (0, v20)]) hE lk_L_145 (ct_X11_learn l G hGd v14 v16 v18 v20) dL_law_1396 rfl is_141 rfl (by decide) (Nat.le_of_ble_eq_true rfl) ⟨rfl, L12.2.2⟩ rfl (fun r22 σ21 hr22 _ => ?_)
  obtain ⟨v23, rfl, hfσ21, hpr22⟩ := hr22
  have hzσ210_12 := hfσ21 0 12 (by omega)
  have hzσ21141_52 := hfσ21 141 52 (by omega)
  have hzσ2137_8 := hfσ21 37 8 (by omega)
  have hzσ21141_54 := hfσ21 141 54 (by omega)
  have L24 : LI σ21 := ⟨GI_fr L12.1 (fun k j q => hfσ21 k j (by omega)), by rw [hfσ21 0 9 (by omega)]; exact L12.2.1, MI_fr L12.2.2 (fun k j q => hfσ21 k j (by omega))⟩
  refine dk_pop (pc' := 1400) hE dL_law_1399 (show (0 : Nat) ≠ 3 by decide) rfl ?_
  refine dk_goto (tgt := 1624) hE dL_law_1400 (by decide) ?_
  exact K σ21 ⟨L24, by omega, by omega⟩
set_option maxHeartbeats 4000000 in
set_option maxRecDepth 20000 in
theorem lc_31 {E : dkE} {l : Launch} {G : dkG} {L : Nat} {xs : Nat → Int32} (hGd : dk_Gd G) (hE : dk_Good E cL_law RL 20 dk_Ty l G 0 4 600000 7302250) (hX : dk_Scx E L xs) (i : Int) (hi : 0 ≤ i ∧ i + 6 ≤ (L : Int) ∧ (L : Int) ≤ 3072) (σ : dkS) (h : LX σ) (K : ∀ σ1 : dkS, LX σ1 → dk_PJ E 1624 [(4, (-40)), (4, 0), (4, 141), (0, i)] [] 190 σ1) : dk_PJ E 1403 [(4, (-40)), (4, 0), (4, 141), (0, i)] [] 190 σ := by
  obtain ⟨h, hb0, hb1⟩ := h
  refine dk_aload_n (pc' := 1404) hE dL_law_1403 rfl rfl rfl ?_
  refine dk_aload_n (pc' := 1405) hE dL_law_1404 rfl rfl rfl ?_
  refine dk_iload_n (pc' := 1406) hE dL_law_1405 rfl rfl rfl ?_
  refine dk_iconst (pc' := 1407) hE dL_law_1406 (by decide) rfl ?_
  obtain ⟨v1, hv1⟩ : ∃ z : Int, z = i + 1 := ⟨_, rfl⟩
  refine dk_iadd (pc' := 1408) hE dL_law_1407 hv1.symm (by omega) rfl ?_
  refine dk_sldx (pc' := 1409) hE hX dL_law_1408 (by omega) rfl (fun v2 hiv2 hxv2 => ?_)
  refine dk_aload_n (pc' := 1410) hE dL_law_1409 rfl rfl rfl ?_
  refine dk_iload_n (pc' := 1411) hE dL_law_1410 rfl rfl rfl ?_
  refine dk_iconst (pc' := 1412) hE dL_law_1411 (by decide) rfl ?_
  obtain ⟨v3, hv3⟩ : ∃ z : Int, z = i + 2 := ⟨_, rfl⟩
  refine dk_iadd (pc' := 1413) hE dL_law_1412 hv3.symm (by omega) rfl ?_
  refine dk_sldx (pc' := 1414) hE hX dL_law_1413 (by omega) rfl (fun v4 hiv4 hxv4 => ?_)
  refine dk_cL (pc' := 1417) (as := [(0, v2), (0, v4)]) hE lk_L_146 (ct_X10_rehearse l G hGd v2 v4 (σ 0 9)) dL_law_1414 rfl is_0 rfl (by decide) (Nat.le_of_ble_eq_true rfl) ⟨rfl, h.1, h.2.1, rfl⟩ rfl (fun r6 σ5 hr6 _ => ?_)
  obtain ⟨v7, rfl, hfσ5, hpr6⟩ := hr6
  have hzσ50_12 := hfσ5 0 12 (by omega)
  have hzσ5141_52 := hfσ5 141 52 (by omega)
  have hzσ537_8 := hfσ5 37 8 (by omega)
  have hzσ5141_54 := hfσ5 141 54 (by omega)
  have L8 : LI σ5 := ⟨GI_fr h.1 (fun k j q => hfσ5 k j (by omega)), by rw [hfσ5 0 9 (by omega)]; exact h.2.1, MI_fr h.2.2 (fun k j q => hfσ5 k j (by omega))⟩
  refine dk_pop (pc' := 1418) hE dL_law_1417 (show (0 : Nat) ≠ 3 by decide) rfl ?_
  refine dk_aload_n (pc' := 1419) hE dL_law_1418 rfl rfl rfl ?_
  refine dk_aload_n (pc' := 1420) hE dL_law_1419 rfl rfl rfl ?_
  refine dk_iload_n (pc' := 1421) hE dL_law_1420 rfl rfl rfl ?_
  refine dk_iconst (pc' := 1422) hE dL_law_1421 (by decide) rfl ?_
  obtain ⟨v9, hv9⟩ : ∃ z : Int, z = i + 1 := ⟨_, rfl⟩
  refine dk_iadd (pc' := 1423) hE dL_law_1422 hv9.symm (by omega) rfl ?_
  refine dk_sldx (pc' := 1424) hE hX dL_law_1423 (by omega) rfl (fun v10 hiv10 hxv10 => ?_)
  have hqv10 : v10 = v2 := by rw [hxv10, hxv2, show v9 = v1 by omega]
  refine dk_aload_n (pc' := 1425) hE dL_law_1424 rfl rfl rfl ?_
  refine dk_iload_n (pc' := 1426) hE dL_law_1425 rfl rfl rfl ?_
  refine dk_iconst (pc' := 1427) hE dL_law_1426 (by decide) rfl ?_
  obtain ⟨v11, hv11⟩ : ∃ z : Int, z = i + 2 := ⟨_, rfl⟩
  refine dk_iadd (pc' := 1428) hE dL_law_1427 hv11.symm (by omega) rfl ?_
  refine dk_sldx (pc' := 1429) hE hX dL_law_1428 (by omega) rfl (fun v12 hiv12 hxv12 => ?_)
  have hqv12 : v12 = v4 := by rw [hxv12, hxv4, show v11 = v3 by omega]
  refine dk_cL (pc' := 1432) (as := [(0, v10), (0, v12)]) hE lk_L_149 (ct_X11_rehearse l G hGd v10 v12) dL_law_1429 rfl is_141 rfl (by decide) (Nat.le_of_ble_eq_true rfl) rfl rfl (fun r14 σ13 hr14 _ => ?_)
  obtain ⟨v15, rfl, hfσ13, hpr14⟩ := hr14
  have hzσ130_12 := hfσ13 0 12 (by omega)
  have hzσ13141_52 := hfσ13 141 52 (by omega)
  have hzσ1337_8 := hfσ13 37 8 (by omega)
  have hzσ13141_54 := hfσ13 141 54 (by omega)
  have L16 : LI σ13 := ⟨GI_fr L8.1 (fun k j q => hfσ13 k j (by omega)), by rw [hfσ13 0 9 (by omega)]; exact L8.2.1, MI_fr L8.2.2 (fun k j q => hfσ13 k j (by omega))⟩
  refine dk_pop (pc' := 1433) hE dL_law_1432 (show (0 : Nat) ≠ 3 by decide) rfl ?_
  refine dk_goto (tgt := 1624) hE dL_law_1433 (by decide) ?_
  exact K σ13 ⟨L16, by omega, by omega⟩
set_option maxHeartbeats 4000000 in
set_option maxRecDepth 20000 in
theorem lc_32 {E : dkE} {l : Launch} {G : dkG} {L : Nat} {xs : Nat → Int32} (hGd : dk_Gd G) (hE : dk_Good E cL_law RL 20 dk_Ty l G 0 4 600000 7302250) (hX : dk_Scx E L xs) (i : Int) (hi : 0 ≤ i ∧ i + 6 ≤ (L : Int) ∧ (L : Int) ≤ 3072) (σ : dkS) (h : LX σ) (K : ∀ σ1 : dkS, LX σ1 → dk_PJ E 1624 [(4, (-40)), (4, 0), (4, 141), (0, i)] [] 190 σ1) : dk_PJ E 1436 [(4, (-40)), (4, 0), (4, 141), (0, i)] [] 190 σ := by
  obtain ⟨h, hb0, hb1⟩ := h
  refine dk_aload_n (pc' := 1437) hE dL_law_1436 rfl rfl rfl ?_
  refine dk_aload_n (pc' := 1438) hE dL_law_1437 rfl rfl rfl ?_
  refine dk_iload_n (pc' := 1439) hE dL_law_1438 rfl rfl rfl ?_
  refine dk_iconst (pc' := 1440) hE dL_law_1439 (by decide) rfl ?_
  obtain ⟨v1, hv1⟩ : ∃ z : Int, z = i + 1 := ⟨_, rfl⟩
  refine dk_iadd (pc' := 1441) hE dL_law_1440 hv1.symm (by omega) rfl ?_
  refine dk_sldx (pc' := 1442) hE hX dL_law_1441 (by omega) rfl (fun v2 hiv2 hxv2 => ?_)
  refine dk_cL (pc' := 1445) (as := [(0, v2)]) hE lk_L_150 (ct_X10_rooms l G hGd v2) dL_law_1442 rfl is_0 rfl (by decide) (Nat.le_of_ble_eq_true rfl) rfl rfl (fun r4 σ3 hr4 _ => ?_)
  obtain ⟨v5, rfl, hfσ3, hpr4⟩ := hr4
  have hzσ30_12 := hfσ3 0 12 (by omega)
  have hzσ3141_52 := hfσ3 141 52 (by omega)
  have hzσ337_8 := hfσ3 37 8 (by omega)
  have hzσ3141_54 := hfσ3 141 54 (by omega)
  have L6 : LI σ3 := ⟨GI_fr h.1 (fun k j q => hfσ3 k j (by omega)), by rw [hfσ3 0 9 (by omega)]; exact h.2.1, MI_fr h.2.2 (fun k j q => hfσ3 k j (by omega))⟩
  refine dk_pop (pc' := 1446) hE dL_law_1445 (show (0 : Nat) ≠ 3 by decide) rfl ?_
  refine dk_aload_n (pc' := 1447) hE dL_law_1446 rfl rfl rfl ?_
  refine dk_aload_n (pc' := 1448) hE dL_law_1447 rfl rfl rfl ?_
  refine dk_iload_n (pc' := 1449) hE dL_law_1448 rfl rfl rfl ?_
  refine dk_iconst (pc' := 1450) hE dL_law_1449 (by decide) rfl ?_
  obtain ⟨v7, hv7⟩ : ∃ z : Int, z = i + 1 := ⟨_, rfl⟩
  refine dk_iadd (pc' := 1451) hE dL_law_1450 hv7.symm (by omega) rfl ?_
  refine dk_sldx (pc' := 1452) hE hX dL_law_1451 (by omega) rfl (fun v8 hiv8 hxv8 => ?_)
  have hqv8 : v8 = v2 := by rw [hxv8, hxv2, show v7 = v1 by omega]
  refine dk_cL (pc' := 1455) (as := [(0, v8)]) hE lk_L_153 (ct_X11_rooms l G hGd v8) dL_law_1452 rfl is_141 rfl (by decide) (Nat.le_of_ble_eq_true rfl) rfl rfl (fun r10 σ9 hr10 _ => ?_)
  obtain ⟨v11, rfl, hfσ9, hpr10⟩ := hr10
  have hzσ90_12 := hfσ9 0 12 (by omega)
  have hzσ9141_52 := hfσ9 141 52 (by omega)
  have hzσ937_8 := hfσ9 37 8 (by omega)
  have hzσ9141_54 := hfσ9 141 54 (by omega)
  have L12 : LI σ9 := ⟨GI_fr L6.1 (fun k j q => hfσ9 k j (by omega)), by rw [hfσ9 0 9 (by omega)]; exact L6.2.1, MI_fr L6.2.2 (fun k j q => hfσ9 k j (by omega))⟩
  refine dk_pop (pc' := 1456) hE dL_law_1455 (show (0 : Nat) ≠ 3 by decide) rfl ?_
  refine dk_goto (tgt := 1624) hE dL_law_1456 (by decide) ?_
  exact K σ9 ⟨L12, by omega, by omega⟩
set_option maxHeartbeats 4000000 in
set_option maxRecDepth 20000 in
theorem lc_33 {E : dkE} {l : Launch} {G : dkG} {L : Nat} {xs : Nat → Int32} (hGd : dk_Gd G) (hE : dk_Good E cL_law RL 20 dk_Ty l G 0 4 600000 7302250) (hX : dk_Scx E L xs) (i : Int) (hi : 0 ≤ i ∧ i + 6 ≤ (L : Int) ∧ (L : Int) ≤ 3072) (σ : dkS) (h : LX σ) (K : ∀ σ1 : dkS, LX σ1 → dk_PJ E 1624 [(4, (-40)), (4, 0), (4, 141), (0, i)] [] 190 σ1) : dk_PJ E 1459 [(4, (-40)), (4, 0), (4, 141), (0, i)] [] 190 σ := by
  obtain ⟨h, hb0, hb1⟩ := h
  refine dk_aload_n (pc' := 1460) hE dL_law_1459 rfl rfl rfl ?_
  refine dk_aload_n (pc' := 1461) hE dL_law_1460 rfl rfl rfl ?_
  refine dk_iload_n (pc' := 1462) hE dL_law_1461 rfl rfl rfl ?_
  refine dk_iconst (pc' := 1463) hE dL_law_1462 (by decide) rfl ?_
  obtain ⟨v1, hv1⟩ : ∃ z : Int, z = i + 1 := ⟨_, rfl⟩
  refine dk_iadd (pc' := 1464) hE dL_law_1463 hv1.symm (by omega) rfl ?_
  refine dk_sldx (pc' := 1465) hE hX dL_law_1464 (by omega) rfl (fun v2 hiv2 hxv2 => ?_)
  refine dk_cL (pc' := 1468) (as := [(0, v2)]) hE lk_L_154 (ct_X10_week l G hGd v2 (σ 0 9)) dL_law_1465 rfl is_0 rfl (by decide) (Nat.le_of_ble_eq_true rfl) ⟨rfl, h.1, h.2.1, rfl⟩ rfl (fun r4 σ3 hr4 _ => ?_)
  obtain ⟨v5, rfl, hfσ3, hpr4⟩ := hr4
  have hzσ30_12 := hfσ3 0 12 (by omega)
  have hzσ3141_52 := hfσ3 141 52 (by omega)
  have hzσ337_8 := hfσ3 37 8 (by omega)
  have hzσ3141_54 := hfσ3 141 54 (by omega)
  have L6 : LI σ3 := ⟨GI_fr h.1 (fun k j q => hfσ3 k j (by omega)), by rw [hfσ3 0 9 (by omega)]; exact h.2.1, MI_fr h.2.2 (fun k j q => hfσ3 k j (by omega))⟩
  refine dk_pop (pc' := 1469) hE dL_law_1468 (show (0 : Nat) ≠ 3 by decide) rfl ?_
  refine dk_aload_n (pc' := 1470) hE dL_law_1469 rfl rfl rfl ?_
  refine dk_aload_n (pc' := 1471) hE dL_law_1470 rfl rfl rfl ?_
  refine dk_iload_n (pc' := 1472) hE dL_law_1471 rfl rfl rfl ?_
  refine dk_iconst (pc' := 1473) hE dL_law_1472 (by decide) rfl ?_
  obtain ⟨v7, hv7⟩ : ∃ z : Int, z = i + 1 := ⟨_, rfl⟩
  refine dk_iadd (pc' := 1474) hE dL_law_1473 hv7.symm (by omega) rfl ?_
  refine dk_sldx (pc' := 1475) hE hX dL_law_1474 (by omega) rfl (fun v8 hiv8 hxv8 => ?_)
  have hqv8 : v8 = v2 := by rw [hxv8, hxv2, show v7 = v1 by omega]
  refine dk_cL (pc' := 1478) (as := [(0, v8)]) hE lk_L_157 (ct_X11_week l G hGd v8 (σ3 141 79)) dL_law_1475 rfl is_141 rfl (by decide) (Nat.le_of_ble_eq_true rfl) ⟨rfl, L6.2.2, rfl⟩ rfl (fun r10 σ9 hr10 _ => ?_)
  obtain ⟨v11, rfl, hfσ9, hpr10⟩ := hr10
  have hzσ90_12 := hfσ9 0 12 (by omega)
  have hzσ9141_52 := hfσ9 141 52 (by omega)
  have hzσ937_8 := hfσ9 37 8 (by omega)
  have hzσ9141_54 := hfσ9 141 54 (by omega)
  have L12 : LI σ9 := ⟨GI_fr L6.1 (fun k j q => hfσ9 k j (by omega)), by rw [hfσ9 0 9 (by omega)]; exact L6.2.1, MI_fr L6.2.2 (fun k j q => hfσ9 k j (by omega))⟩
  refine dk_pop (pc' := 1479) hE dL_law_1478 (show (0 : Nat) ≠ 3 by decide) rfl ?_
  refine dk_goto (tgt := 1624) hE dL_law_1479 (by decide) ?_
  exact K σ9 ⟨L12, by omega, by omega⟩
set_option maxHeartbeats 4000000 in
set_option maxRecDepth 20000 in
theorem lc_34 {E : dkE} {l : Launch} {G : dkG} {L : Nat} {xs : Nat → Int32} (hGd : dk_Gd G) (hE : dk_Good E cL_law RL 20 dk_Ty l G 0 4 600000 7302250) (hX : dk_Scx E L xs) (i : Int) (hi : 0 ≤ i ∧ i + 6 ≤ (L : Int) ∧ (L : Int) ≤ 3072) (σ : dkS) (h : LX σ) (K : ∀ σ1 : dkS, LX σ1 → dk_PJ E 1624 [(4, (-40)), (4, 0), (4, 141), (0, i)] [] 190 σ1) : dk_PJ E 1482 [(4, (-40)), (4, 0), (4, 141), (0, i)] [] 190 σ := by
  obtain ⟨h, hb0, hb1⟩ := h
  refine dk_aload_n (pc' := 1483) hE dL_law_1482 rfl rfl rfl ?_
  refine dk_aload_n (pc' := 1484) hE dL_law_1483 rfl rfl rfl ?_
  refine dk_iload_n (pc' := 1485) hE dL_law_1484 rfl rfl rfl ?_
  refine dk_iconst (pc' := 1486) hE dL_law_1485 (by decide) rfl ?_
  obtain ⟨v1, hv1⟩ : ∃ z : Int, z = i + 1 := ⟨_, rfl⟩
  refine dk_iadd (pc' := 1487) hE dL_law_1486 hv1.symm (by omega) rfl ?_
  refine dk_sldx (pc' := 1488) hE hX dL_law_1487 (by omega) rfl (fun v2 hiv2 hxv2 => ?_)
  refine dk_aload_n (pc' := 1489) hE dL_law_1488 rfl rfl rfl ?_
  refine dk_iload_n (pc' := 1490) hE dL_law_1489 rfl rfl rfl ?_
  refine dk_iconst (pc' := 1491) hE dL_law_1490 (by decide) rfl ?_
  obtain ⟨v3, hv3⟩ : ∃ z : Int, z = i + 2 := ⟨_, rfl⟩
  refine dk_iadd (pc' := 1492) hE dL_law_1491 hv3.symm (by omega) rfl ?_
  refine dk_sldx (pc' := 1493) hE hX dL_law_1492 (by omega) rfl (fun v4 hiv4 hxv4 => ?_)
  refine dk_cL (pc' := 1496) (as := [(0, v2), (0, v4)]) hE lk_L_158 (ct_X10_hour l G hGd v2 v4 (σ 0 9)) dL_law_1493 rfl is_0 rfl (by decide) (Nat.le_of_ble_eq_true rfl) ⟨rfl, h.1, h.2.1, rfl⟩ rfl (fun r6 σ5 hr6 _ => ?_)
  obtain ⟨v7, rfl, hfσ5, hpr6⟩ := hr6
  have hzσ50_12 := hfσ5 0 12 (by omega)
  have hzσ5141_52 := hfσ5 141 52 (by omega)
  have hzσ537_8 := hfσ5 37 8 (by omega)
  have hzσ5141_54 := hfσ5 141 54 (by omega)
  have L8 : LI σ5 := ⟨GI_fr h.1 (fun k j q => hfσ5 k j (by omega)), by rw [hfσ5 0 9 (by omega)]; exact h.2.1, MI_fr h.2.2 (fun k j q => hfσ5 k j (by omega))⟩
  refine dk_pop (pc' := 1497) hE dL_law_1496 (show (0 : Nat) ≠ 3 by decide) rfl ?_
  refine dk_aload_n (pc' := 1498) hE dL_law_1497 rfl rfl rfl ?_
  refine dk_aload_n (pc' := 1499) hE dL_law_1498 rfl rfl rfl ?_
  refine dk_iload_n (pc' := 1500) hE dL_law_1499 rfl rfl rfl ?_
  refine dk_iconst (pc' := 1501) hE dL_law_1500 (by decide) rfl ?_
  obtain ⟨v9, hv9⟩ : ∃ z : Int, z = i + 1 := ⟨_, rfl⟩
  refine dk_iadd (pc' := 1502) hE dL_law_1501 hv9.symm (by omega) rfl ?_
  refine dk_sldx (pc' := 1503) hE hX dL_law_1502 (by omega) rfl (fun v10 hiv10 hxv10 => ?_)
  have hqv10 : v10 = v2 := by rw [hxv10, hxv2, show v9 = v1 by omega]
  refine dk_aload_n (pc' := 1504) hE dL_law_1503 rfl rfl rfl ?_
  refine dk_iload_n (pc' := 1505) hE dL_law_1504 rfl rfl rfl ?_
  refine dk_iconst (pc' := 1506) hE dL_law_1505 (by decide) rfl ?_
  obtain ⟨v11, hv11⟩ : ∃ z : Int, z = i + 2 := ⟨_, rfl⟩
  refine dk_iadd (pc' := 1507) hE dL_law_1506 hv11.symm (by omega) rfl ?_
  refine dk_sldx (pc' := 1508) hE hX dL_law_1507 (by omega) rfl (fun v12 hiv12 hxv12 => ?_)
  have hqv12 : v12 = v4 := by rw [hxv12, hxv4, show v11 = v3 by omega]
  refine dk_cL (pc' := 1511) (as := [(0, v10), (0, v12)]) hE lk_L_161 (ct_X11_hour l G hGd v10 v12) dL_law_1508 rfl is_141 rfl (by decide) (Nat.le_of_ble_eq_true rfl) ⟨rfl, L8.2.2⟩ rfl (fun r14 σ13 hr14 _ => ?_)
  obtain ⟨v15, rfl, hfσ13, hpr14⟩ := hr14
  have hzσ130_12 := hfσ13 0 12 (by omega)
  have hzσ13141_52 := hfσ13 141 52 (by omega)
  have hzσ1337_8 := hfσ13 37 8 (by omega)
  have hzσ13141_54 := hfσ13 141 54 (by omega)
  have L16 : LI σ13 := ⟨GI_fr L8.1 (fun k j q => hfσ13 k j (by omega)), by rw [hfσ13 0 9 (by omega)]; exact L8.2.1, MI_fr L8.2.2 (fun k j q => hfσ13 k j (by omega))⟩
  refine dk_pop (pc' := 1512) hE dL_law_1511 (show (0 : Nat) ≠ 3 by decide) rfl ?_
  refine dk_goto (tgt := 1624) hE dL_law_1512 (by decide) ?_
  exact K σ13 ⟨L16, by omega, by omega⟩
set_option maxHeartbeats 4000000 in
set_option maxRecDepth 20000 in
theorem lc_35 {E : dkE} {l : Launch} {G : dkG} {L : Nat} {xs : Nat → Int32} (hGd : dk_Gd G) (hE : dk_Good E cL_law RL 20 dk_Ty l G 0 4 600000 7302250) (hX : dk_Scx E L xs) (i : Int) (hi : 0 ≤ i ∧ i + 6 ≤ (L : Int) ∧ (L : Int) ≤ 3072) (σ : dkS) (h : LX σ) (K : ∀ σ1 : dkS, LX σ1 → dk_PJ E 1624 [(4, (-40)), (4, 0), (4, 141), (0, i)] [] 190 σ1) : dk_PJ E 1515 [(4, (-40)), (4, 0), (4, 141), (0, i)] [] 190 σ := by
  obtain ⟨h, hb0, hb1⟩ := h
  refine dk_aload_n (pc' := 1516) hE dL_law_1515 rfl rfl rfl ?_
  refine dk_aload_n (pc' := 1517) hE dL_law_1516 rfl rfl rfl ?_
  refine dk_iload_n (pc' := 1518) hE dL_law_1517 rfl rfl rfl ?_
  refine dk_iconst (pc' := 1519) hE dL_law_1518 (by decide) rfl ?_
  obtain ⟨v1, hv1⟩ : ∃ z : Int, z = i + 1 := ⟨_, rfl⟩
  refine dk_iadd (pc' := 1520) hE dL_law_1519 hv1.symm (by omega) rfl ?_
  refine dk_sldx (pc' := 1521) hE hX dL_law_1520 (by omega) rfl (fun v2 hiv2 hxv2 => ?_)
  refine dk_aload_n (pc' := 1522) hE dL_law_1521 rfl rfl rfl ?_
  refine dk_iload_n (pc' := 1523) hE dL_law_1522 rfl rfl rfl ?_
  refine dk_iconst (pc' := 1524) hE dL_law_1523 (by decide) rfl ?_
  obtain ⟨v3, hv3⟩ : ∃ z : Int, z = i + 2 := ⟨_, rfl⟩
  refine dk_iadd (pc' := 1525) hE dL_law_1524 hv3.symm (by omega) rfl ?_
  refine dk_sldx (pc' := 1526) hE hX dL_law_1525 (by omega) rfl (fun v4 hiv4 hxv4 => ?_)
  refine dk_aload_n (pc' := 1527) hE dL_law_1526 rfl rfl rfl ?_
  refine dk_iload_n (pc' := 1528) hE dL_law_1527 rfl rfl rfl ?_
  refine dk_iconst (pc' := 1529) hE dL_law_1528 (by decide) rfl ?_
  obtain ⟨v5, hv5⟩ : ∃ z : Int, z = i + 3 := ⟨_, rfl⟩
  refine dk_iadd (pc' := 1530) hE dL_law_1529 hv5.symm (by omega) rfl ?_
  refine dk_sldx (pc' := 1531) hE hX dL_law_1530 (by omega) rfl (fun v6 hiv6 hxv6 => ?_)
  refine dk_cL (pc' := 1534) (as := [(0, v2), (0, v4), (0, v6)]) hE lk_L_162 (ct_X10_live l G hGd v2 v4 v6 (σ 0 9)) dL_law_1531 rfl is_0 rfl (by decide) (Nat.le_of_ble_eq_true rfl) ⟨rfl, h.1, h.2.1, rfl⟩ rfl (fun r8 σ7 hr8 _ => ?_)
  obtain ⟨v9, rfl, hfσ7, hpr8⟩ := hr8
  have hzσ70_12 := hfσ7 0 12 (by omega)
  have hzσ7141_52 := hfσ7 141 52 (by omega)
  have hzσ737_8 := hfσ7 37 8 (by omega)
  have hzσ7141_54 := hfσ7 141 54 (by omega)
  have L10 : LI σ7 := ⟨GI_fr h.1 (fun k j q => hfσ7 k j (by omega)), by rw [hfσ7 0 9 (by omega)]; exact h.2.1, MI_fr h.2.2 (fun k j q => hfσ7 k j (by omega))⟩
  refine dk_pop (pc' := 1535) hE dL_law_1534 (show (0 : Nat) ≠ 3 by decide) rfl ?_
  refine dk_aload_n (pc' := 1536) hE dL_law_1535 rfl rfl rfl ?_
  refine dk_aload_n (pc' := 1537) hE dL_law_1536 rfl rfl rfl ?_
  refine dk_iload_n (pc' := 1538) hE dL_law_1537 rfl rfl rfl ?_
  refine dk_iconst (pc' := 1539) hE dL_law_1538 (by decide) rfl ?_
  obtain ⟨v11, hv11⟩ : ∃ z : Int, z = i + 1 := ⟨_, rfl⟩
  refine dk_iadd (pc' := 1540) hE dL_law_1539 hv11.symm (by omega) rfl ?_
  refine dk_sldx (pc' := 1541) hE hX dL_law_1540 (by omega) rfl (fun v12 hiv12 hxv12 => ?_)
  have hqv12 : v12 = v2 := by rw [hxv12, hxv2, show v11 = v1 by omega]
  refine dk_aload_n (pc' := 1542) hE dL_law_1541 rfl rfl rfl ?_
  refine dk_iload_n (pc' := 1543) hE dL_law_1542 rfl rfl rfl ?_
  refine dk_iconst (pc' := 1544) hE dL_law_1543 (by decide) rfl ?_
  obtain ⟨v13, hv13⟩ : ∃ z : Int, z = i + 2 := ⟨_, rfl⟩
  refine dk_iadd (pc' := 1545) hE dL_law_1544 hv13.symm (by omega) rfl ?_
  refine dk_sldx (pc' := 1546) hE hX dL_law_1545 (by omega) rfl (fun v14 hiv14 hxv14 => ?_)
  have hqv14 : v14 = v4 := by rw [hxv14, hxv4, show v13 = v3 by omega]
  refine dk_aload_n (pc' := 1547) hE dL_law_1546 rfl rfl rfl ?_
  refine dk_iload_n (pc' := 1548) hE dL_law_1547 rfl rfl rfl ?_
  refine dk_iconst (pc' := 1549) hE dL_law_1548 (by decide) rfl ?_
  obtain ⟨v15, hv15⟩ : ∃ z : Int, z = i + 3 := ⟨_, rfl⟩
  refine dk_iadd (pc' := 1550) hE dL_law_1549 hv15.symm (by omega) rfl ?_
  refine dk_sldx (pc' := 1551) hE hX dL_law_1550 (by omega) rfl (fun v16 hiv16 hxv16 => ?_)
  have hqv16 : v16 = v6 := by rw [hxv16, hxv6, show v15 = v5 by omega]
  refine dk_cL (pc' := 1554) (as := [(0, v12), (0, v14), (0, v16)]) hE lk_L_165 (ct_X11_live l G hGd v12 v14 v16) dL_law_1551 rfl is_141 rfl (by decide) (Nat.le_of_ble_eq_true rfl) rfl rfl (fun r18 σ17 hr18 _ => ?_)
  obtain ⟨v19, rfl, hfσ17, hpr18⟩ := hr18
  have hsσ17 : σ7 = σ17 := (funext (fun k => funext (fun j => hfσ17 k j not_false))).symm
  subst hsσ17
  refine dk_pop (pc' := 1555) hE dL_law_1554 (show (0 : Nat) ≠ 3 by decide) rfl ?_
  refine dk_goto (tgt := 1624) hE dL_law_1555 (by decide) ?_
  exact K σ7 ⟨L10, by omega, by omega⟩
set_option maxHeartbeats 4000000 in
set_option maxRecDepth 20000 in
theorem lc_36 {E : dkE} {l : Launch} {G : dkG} {L : Nat} {xs : Nat → Int32} (hGd : dk_Gd G) (hE : dk_Good E cL_law RL 20 dk_Ty l G 0 4 600000 7302250) (hX : dk_Scx E L xs) (i : Int) (hi : 0 ≤ i ∧ i + 6 ≤ (L : Int) ∧ (L : Int) ≤ 3072) (σ : dkS) (h : LX σ) (K : ∀ σ1 : dkS, LX σ1 → dk_PJ E 1624 [(4, (-40)), (4, 0), (4, 141), (0, i)] [] 190 σ1) : dk_PJ E 1558 [(4, (-40)), (4, 0), (4, 141), (0, i)] [] 190 σ := by
  obtain ⟨h, hb0, hb1⟩ := h
  refine dk_aload_n (pc' := 1559) hE dL_law_1558 rfl rfl rfl ?_
  refine dk_aload_n (pc' := 1560) hE dL_law_1559 rfl rfl rfl ?_
  refine dk_iload_n (pc' := 1561) hE dL_law_1560 rfl rfl rfl ?_
  refine dk_iconst (pc' := 1562) hE dL_law_1561 (by decide) rfl ?_
  obtain ⟨v1, hv1⟩ : ∃ z : Int, z = i + 1 := ⟨_, rfl⟩
  refine dk_iadd (pc' := 1563) hE dL_law_1562 hv1.symm (by omega) rfl ?_
  refine dk_sldx (pc' := 1564) hE hX dL_law_1563 (by omega) rfl (fun v2 hiv2 hxv2 => ?_)
  refine dk_aload_n (pc' := 1565) hE dL_law_1564 rfl rfl rfl ?_
  refine dk_iload_n (pc' := 1566) hE dL_law_1565 rfl rfl rfl ?_
  refine dk_iconst (pc' := 1567) hE dL_law_1566 (by decide) rfl ?_
  obtain ⟨v3, hv3⟩ : ∃ z : Int, z = i + 2 := ⟨_, rfl⟩
  refine dk_iadd (pc' := 1568) hE dL_law_1567 hv3.symm (by omega) rfl ?_
  refine dk_sldx (pc' := 1569) hE hX dL_law_1568 (by omega) rfl (fun v4 hiv4 hxv4 => ?_)
  refine dk_aload_n (pc' := 1570) hE dL_law_1569 rfl rfl rfl ?_
  refine dk_iload_n (pc' := 1571) hE dL_law_1570 rfl rfl rfl ?_
  refine dk_iconst (pc' := 1572) hE dL_law_1571 (by decide) rfl ?_
  obtain ⟨v5, hv5⟩ : ∃ z : Int, z = i + 3 := ⟨_, rfl⟩
  refine dk_iadd (pc' := 1573) hE dL_law_1572 hv5.symm (by omega) rfl ?_
  refine dk_sldx (pc' := 1574) hE hX dL_law_1573 (by omega) rfl (fun v6 hiv6 hxv6 => ?_)
  refine dk_cL (pc' := 1577) (as := [(0, v2), (0, v4), (0, v6)]) hE lk_L_166 (ct_X10_note l G hGd v2 v4 v6 (σ 0 9)) dL_law_1574 rfl is_0 rfl (by decide) (Nat.le_of_ble_eq_true rfl) ⟨rfl, h.1, h.2.1, rfl⟩ rfl (fun r8 σ7 hr8 _ => ?_)
  obtain ⟨v9, rfl, hfσ7, hpr8⟩ := hr8
  have hzσ70_12 := hfσ7 0 12 (by omega)
  have hzσ7141_52 := hfσ7 141 52 (by omega)
  have hzσ737_8 := hfσ7 37 8 (by omega)
  have hzσ7141_54 := hfσ7 141 54 (by omega)
  have L10 : LI σ7 := ⟨GI_fr h.1 (fun k j q => hfσ7 k j (by omega)), by rw [hfσ7 0 9 (by omega)]; exact h.2.1, MI_fr h.2.2 (fun k j q => hfσ7 k j (by omega))⟩
  refine dk_pop (pc' := 1578) hE dL_law_1577 (show (0 : Nat) ≠ 3 by decide) rfl ?_
  refine dk_aload_n (pc' := 1579) hE dL_law_1578 rfl rfl rfl ?_
  refine dk_aload_n (pc' := 1580) hE dL_law_1579 rfl rfl rfl ?_
  refine dk_iload_n (pc' := 1581) hE dL_law_1580 rfl rfl rfl ?_
  refine dk_iconst (pc' := 1582) hE dL_law_1581 (by decide) rfl ?_
  obtain ⟨v11, hv11⟩ : ∃ z : Int, z = i + 1 := ⟨_, rfl⟩
  refine dk_iadd (pc' := 1583) hE dL_law_1582 hv11.symm (by omega) rfl ?_
  refine dk_sldx (pc' := 1584) hE hX dL_law_1583 (by omega) rfl (fun v12 hiv12 hxv12 => ?_)
  have hqv12 : v12 = v2 := by rw [hxv12, hxv2, show v11 = v1 by omega]
  refine dk_aload_n (pc' := 1585) hE dL_law_1584 rfl rfl rfl ?_
  refine dk_iload_n (pc' := 1586) hE dL_law_1585 rfl rfl rfl ?_
  refine dk_iconst (pc' := 1587) hE dL_law_1586 (by decide) rfl ?_
  obtain ⟨v13, hv13⟩ : ∃ z : Int, z = i + 2 := ⟨_, rfl⟩
  refine dk_iadd (pc' := 1588) hE dL_law_1587 hv13.symm (by omega) rfl ?_
  refine dk_sldx (pc' := 1589) hE hX dL_law_1588 (by omega) rfl (fun v14 hiv14 hxv14 => ?_)
  have hqv14 : v14 = v4 := by rw [hxv14, hxv4, show v13 = v3 by omega]
  refine dk_aload_n (pc' := 1590) hE dL_law_1589 rfl rfl rfl ?_
  refine dk_iload_n (pc' := 1591) hE dL_law_1590 rfl rfl rfl ?_
  refine dk_iconst (pc' := 1592) hE dL_law_1591 (by decide) rfl ?_
  obtain ⟨v15, hv15⟩ : ∃ z : Int, z = i + 3 := ⟨_, rfl⟩
  refine dk_iadd (pc' := 1593) hE dL_law_1592 hv15.symm (by omega) rfl ?_
  refine dk_sldx (pc' := 1594) hE hX dL_law_1593 (by omega) rfl (fun v16 hiv16 hxv16 => ?_)
  have hqv16 : v16 = v6 := by rw [hxv16, hxv6, show v15 = v5 by omega]
  refine dk_cL (pc' := 1597) (as := [(0, v12), (0, v14), (0, v16)]) hE lk_L_169 (ct_X11_note l G hGd v12 v14 v16) dL_law_1594 rfl is_141 rfl (by decide) (Nat.le_of_ble_eq_true rfl) rfl rfl (fun r18 σ17 hr18 _ => ?_)
  obtain ⟨v19, rfl, hfσ17, hpr18⟩ := hr18
  have hsσ17 : σ7 = σ17 := (funext (fun k => funext (fun j => hfσ17 k j not_false))).symm
  subst hsσ17
  refine dk_pop (pc' := 1598) hE dL_law_1597 (show (0 : Nat) ≠ 3 by decide) rfl ?_
  refine dk_goto (tgt := 1624) hE dL_law_1598 (by decide) ?_
  exact K σ7 ⟨L10, by omega, by omega⟩
set_option maxHeartbeats 4000000 in
set_option maxRecDepth 20000 in
theorem lc_37 {E : dkE} {l : Launch} {G : dkG} {L : Nat} {xs : Nat → Int32} (hGd : dk_Gd G) (hE : dk_Good E cL_law RL 20 dk_Ty l G 0 4 600000 7302250) (hX : dk_Scx E L xs) (i : Int) (hi : 0 ≤ i ∧ i + 6 ≤ (L : Int) ∧ (L : Int) ≤ 3072) (σ : dkS) (h : LX σ) (K : ∀ σ1 : dkS, LX σ1 → dk_PJ E 1624 [(4, (-40)), (4, 0), (4, 141), (0, i)] [] 190 σ1) : dk_PJ E 1601 [(4, (-40)), (4, 0), (4, 141), (0, i)] [] 190 σ := by
  obtain ⟨h, hb0, hb1⟩ := h
  refine dk_aload_n (pc' := 1602) hE dL_law_1601 rfl rfl rfl ?_
  refine dk_aload_n (pc' := 1603) hE dL_law_1602 rfl rfl rfl ?_
  refine dk_iload_n (pc' := 1604) hE dL_law_1603 rfl rfl rfl ?_
  refine dk_iconst (pc' := 1605) hE dL_law_1604 (by decide) rfl ?_
  obtain ⟨v1, hv1⟩ : ∃ z : Int, z = i + 1 := ⟨_, rfl⟩
  refine dk_iadd (pc' := 1606) hE dL_law_1605 hv1.symm (by omega) rfl ?_
  refine dk_sldx (pc' := 1607) hE hX dL_law_1606 (by omega) rfl (fun v2 hiv2 hxv2 => ?_)
  refine dk_cL (pc' := 1610) (as := [(0, v2)]) hE lk_L_170 (ct_X10_about l G hGd v2 (σ 0 9)) dL_law_1607 rfl is_0 rfl (by decide) (Nat.le_of_ble_eq_true rfl) ⟨rfl, h.1, h.2.1, rfl⟩ rfl (fun r4 σ3 hr4 _ => ?_)
  obtain ⟨v5, rfl, hfσ3, hpr4⟩ := hr4
  have hsσ3 : σ = σ3 := (funext (fun k => funext (fun j => hfσ3 k j not_false))).symm
  subst hsσ3
  refine dk_pop (pc' := 1611) hE dL_law_1610 (show (0 : Nat) ≠ 3 by decide) rfl ?_
  refine dk_aload_n (pc' := 1612) hE dL_law_1611 rfl rfl rfl ?_
  refine dk_aload_n (pc' := 1613) hE dL_law_1612 rfl rfl rfl ?_
  refine dk_iload_n (pc' := 1614) hE dL_law_1613 rfl rfl rfl ?_
  refine dk_iconst (pc' := 1615) hE dL_law_1614 (by decide) rfl ?_
  obtain ⟨v6, hv6⟩ : ∃ z : Int, z = i + 1 := ⟨_, rfl⟩
  refine dk_iadd (pc' := 1616) hE dL_law_1615 hv6.symm (by omega) rfl ?_
  refine dk_sldx (pc' := 1617) hE hX dL_law_1616 (by omega) rfl (fun v7 hiv7 hxv7 => ?_)
  have hqv7 : v7 = v2 := by rw [hxv7, hxv2, show v6 = v1 by omega]
  refine dk_cL (pc' := 1620) (as := [(0, v7)]) hE lk_L_173 (ct_X11_about l G hGd v7) dL_law_1617 rfl is_141 rfl (by decide) (Nat.le_of_ble_eq_true rfl) rfl rfl (fun r9 σ8 hr9 _ => ?_)
  obtain ⟨v10, rfl, hfσ8, hpr9⟩ := hr9
  have hsσ8 : σ = σ8 := (funext (fun k => funext (fun j => hfσ8 k j not_false))).symm
  subst hsσ8
  refine dk_pop (pc' := 1621) hE dL_law_1620 (show (0 : Nat) ≠ 3 by decide) rfl ?_
  refine dk_goto (tgt := 1624) hE dL_law_1621 (by decide) ?_
  exact K σ ⟨h, by omega, by omega⟩
