set_option maxHeartbeats 4000000 in
set_option maxRecDepth 100000 in
theorem law_triedTime (l : Launch) (hlt : l.stackTraces = false) {p : Program} {e : Env} {s : State} {m : MethodId} {below : List Frame} {meth : Method} {c : Code} {Q : State → Prop} {D : va_G} {cA : Nat → ClassId} {b L : Nat} {xs : Nat → Int32} (F9 : lwF p s m c D cA b L xs) (ad gd : Nat → Nat) (o i cells slots : Nat) (hi : i + 4 ≤ L) (hL8 : L ≤ 2048) (hc9 : cells ≤ 600000) (hs9 : slots ≤ 7000000) (kont : lwK p l e s m below meth c Q D cA ad gd o b i cells slots) (z : Nat → Int64) (ws : va_W) (H : Heap) (locs : List Loc) (ls : Array Slot) (hI9 : lwI s D cA ad gd o b i H locs ls z ws) : W p l e room_1 s m #[Value.ref b] below meth c H locs cells slots Q (F0 m 1349 ls []) := by
  obtain ⟨hx, hb, hml, hown, hts, hZ, hX, hN, hXs, hbl⟩ := F9
  have hbA : ¬ lwA s b := Nat.not_le.mpr hbl
  have hA : ∀ q : Nat, s.heap.size ≤ q → lwA s q := fun _ h => h
  obtain ⟨hl, hP, hD, hS, hV⟩ := hI9
  obtain ⟨T, Bd, E, PT, PB, PE, n, tr, le, sl, mo, la, fc, bo, nd, mk, ck, ct, hd, pq, nj, fw, jf, dl, dn, oc, s8, s9, s10, s11, s12, sf, bf, pf, jt, fin, my, fls, fod, fle, fro, th, hL, hI, hm, hM⟩ := hV
  have hL0 := hL
  obtain ⟨⟨l22, l23, l24, l25, l26, l27, l28, l29, l30, l31, l32, l33, l34⟩, -⟩ := hL
  have hL := hL0
  obtain ⟨v0, ev0⟩ : ∃ y, y = xs (i + 1) := ⟨_, rfl⟩
  have hl : lv_has ls 7 [(0, .ref b), (1, .ref (ad 0)), (2, .ref (gd 0)), (3, .ref o), (4, .int (nI (i)))] := hl
  refine lv_aload_n hx hb dL_law_1349 rfl (lv_at hl 1 rfl) ?_
  refine lv_aload_n hx hb dL_law_1350 rfl (lv_at hl 0 rfl) ?_
  refine lv_iload hx hb dL_law_1351 (lv_at hl 4 rfl) ?_
  refine lv_iconst (v := nI (1)) hx hb dL_law_1353 (by decide) ?_
  refine zo_add hx hb dL_law_1354 ?_
  refine va_sld hx hb hXs hbl hbA hS (vp_in_nI (show i + 1 < L by omega) (by omega)) dL_law_1355 ?_
  rw [nI_clamp (show i + 1 < 2 ^ 31 by omega)]
  refine zx_val (y := v0) (ev0.symm) ?_
  refine lv_aload_n hx hb dL_law_1356 rfl (lv_at hl 3 rfl) ?_
  refine zw_H_i (n := 3) (mc := 2) (ms := 12) (As := [.ref (ad 0), .int (v0), .ref o]) (rest := []) hx hb hml hts hown hZ hX hN hP hD hS hA (c_L_triedTime l D cA _ _ o z (ad 0) _ l22 _ _ _ _ (kR (ix v0 nd) hd (fun _ => some 0) (fun _ => true)) v0 (fun sz => c_X4_triedTime l hlt D cA sz ws ad T Bd E PT PB PE n tr le sl mo la fc bo nd mk ck ct hd pq nj fw jf dl dn oc s8 s9 s10 s11 s12 hL hI v0) (fun _ _ h => h.1)) gL_law_L_triedTime rfl ⟨rfl, rfl⟩ ⟨by decide +kernel, (Nat.le_of_ble_eq_true rfl), (Nat.le_of_ble_eq_true rfl)⟩ hl.1 rfl (Nat.le_of_ble_eq_true rfl) ⟨by show _ ≤ 601024; omega, by show _ ≤ 7293034; omega⟩ rfl dL_law_1357 (fun r1 u1 H locs hp1 hP hD hS hz1 => ?_)
  rcases u1 with ⟨⟨ans, f1⟩, j, t, P, w1⟩ | ux
  · obtain ⟨rfl, hf1, hpc⟩ := hp1
    obtain ⟨hjn, hv0, hht, hpq, hP16, rfl, hkp, oc9, t8, t9, t10, t11, t12, hL1⟩ := hpc
    have hjn : j < nd := hjn
    have hv0 : v0 = nI j := hv0
    have hht : hd j = some t := hht
    have hpq : pq j = nI P := hpq
    have hP16 : P ≤ 1600 := hP16
    have hf1 : f1 0 = (nI (BT (LG mk tr le bo jf j t P (wl fw (nI t) nj)) (wl fw (nI t) nj).length (np 0) 7)).toInt64 := hf1
    have hkp : zKeep ws w1 := hkp
    have hm1 := mL_keep hm hkp
    have hP : va_P D vwCl ((o, zOut cA f1) :: w1) H := hP
    have hD : va_D (lwA s) ((o, zOut cA f1) :: w1) := hD
    obtain ⟨m0_1, -⟩ := id hm1
    have hP9 := pq_le hI hjn hht hpq hP16
    refine lv_istore (lv' := [(5, .int (nI (0))), (0, .ref b), (1, .ref (ad 0)), (2, .ref (gd 0)), (3, .ref o), (4, .int (nI (i)))]) hx hb dL_law_1360 hl (by decide) rfl (fun ls hl => ?_)
    refine lv_aload_n hx hb dL_law_1362 rfl (lv_at hl 3 rfl) ?_
    refine lv_aload_n hx hb dL_law_1363 rfl (lv_at hl 1 rfl) ?_
    refine lv_iload hx hb dL_law_1364 (lv_at hl 5 rfl) ?_
    refine lv_iconst (v := nI (1)) hx hb dL_law_1366 (by decide) ?_
    refine zo_add hx hb dL_law_1367 ?_
    refine va_sld hx hb hXs hbl hbA hS (vp_in_nI (show i + 1 < L by omega) (by omega)) dL_law_1368 ?_
    rw [nI_clamp (show i + 1 < 2 ^ 31 by omega)]
    refine zx_val (y := v0) (ev0.symm) ?_
    refine zx_val (y := nI (j)) (hv0) ?_
    refine zq_V_i (n := 1) (mc := 0) (ms := 0) (As := [.int (nI (j))]) (rest := []) hx hb hml hts hown hZ hP hD hS hA (c_X5_triedTime_ok l D cA _ _ hm1 hI hM j t P hjn hht hpq hP9) gL_law_X5_triedTime rfl rfl ⟨rfl, rfl⟩ ⟨by decide +kernel, (Nat.le_of_ble_eq_true rfl), (Nat.le_of_ble_eq_true rfl)⟩ m0_1 rfl hl.1 rfl (Nat.le_of_ble_eq_true rfl) ⟨by show _ ≤ 601024; omega, by show _ ≤ 7293034; omega⟩ rfl dL_law_1369 (fun r2 u2 H locs hp2 hP hD hS hz2 => ?_)
    obtain ⟨rfl, hkp2, my9, fls9, fod9, fle9, fro9, hm2⟩ := hp2
    have hL2 := zL_keep hL1 hkp2
    obtain ⟨m0_2, -⟩ := id hm2
    have hP : va_P D vwCl ((o, zOut cA f1) :: u2) H := hP
    have hD : va_D (lwA s) ((o, zOut cA f1) :: u2) := hD
    refine lv_istore (lv' := [(6, .int (nI (BT (LG mk tr le bo jf j t P (wl fw (nI t) nj)) (wl fw (nI t) nj).length (np 0) 7))), (5, .int (nI (0))), (0, .ref b), (1, .ref (ad 0)), (2, .ref (gd 0)), (3, .ref o), (4, .int (nI (i)))]) hx hb dL_law_1372 hl (by decide) rfl (fun ls hl => ?_)
    refine lv_aload_n hx hb dL_law_1374 rfl (lv_at hl 4 rfl) ?_
    refine zk_V_i (n := 0) (As := []) (rest := []) hx hb hml hts hown hZ (zq_P hP) (c_X5_thrown l D cA _ hm2) gL_law_X5_thrown rfl rfl ⟨rfl, rfl⟩ ⟨by decide +kernel, (Nat.le_of_ble_eq_true rfl), (Nat.le_of_ble_eq_true rfl)⟩ m0_2 rfl hl.1 rfl (Nat.le_of_ble_eq_true rfl) ⟨by show _ ≤ 601024; omega, by show _ ≤ 7293034; omega⟩ rfl dL_law_1375 (fun r3 hr3 => ?_)
    obtain rfl := show r3 = nI (0) from hr3
    refine lv_iload hx hb dL_law_1378 (lv_at hl 1 rfl) ?_
    refine zc_eq (tgt := 1385) hx hb (by omega) (by omega) dL_law_1380 (by decide) (fun c_1 => ?_) (fun c_1 => absurd rfl c_1)
    refine lv_iload hx hb dL_law_1385 (lv_at hl 1 rfl) ?_
    refine zf_ne (tgt := 1402) hx hb (by omega) dL_law_1387 (by decide) (fun c_2 => False.elim (by omega)) (fun c_2 => ?_)
    refine lv_aload_n hx hb dL_law_1390 rfl (lv_at hl 5 rfl) ?_
    refine lv_iconst (v := nI (0)) hx hb dL_law_1391 (by decide) ?_
    refine va_lald hx hb hZ.1 hP 0 4 rfl rfl (vp_in_nI (show 0 < 1 by omega) (by omega)) dL_law_1392 ?_
    rw [nI_clamp (show 0 < 2 ^ 31 by omega)]
    refine zx_v (b := .long (nI (BT (LG mk tr le bo jf j t P (wl fw (nI t) nj)) (wl fw (nI t) nj).length (np 0) 7)).toInt64) (by rw [hf1]) ?_
    refine lv_iload hx hb dL_law_1393 (lv_at hl 0 rfl) ?_
    refine lv_i2l (v := (nI (BT (LG mk tr le bo jf j t P (wl fw (nI t) nj)) (wl fw (nI t) nj).length (np 0) 7)).toInt64) hx hb dL_law_1395 rfl ?_
    refine W.lcmp hx hb dL_law_1396 ?_
    refine zx_val (y := nI 0) (lg_cmp_self _) ?_
    refine zf_eq (tgt := 1402) hx hb (by omega) dL_law_1397 (by decide) (fun c_3 => ?_) (fun c_3 => False.elim (by omega))
    refine lv_goto (tgt := 1543) hx hb dL_law_1402 (by decide) ?_
    have hI2 := hI
    have hM2 := hM
    exact kont f1 u2 H locs ls _ _ (by omega) (by omega) ⟨lv_sub hl [2, 3, 4, 5, 6] rfl, hP, hD, hS, _, _, _, _, _, _, _, _, _, _, _, _, _, _, _, _, _, _, _, _, _, _, _, _, _, _, _, _, _, _, _, _, _, _, _, _, _, _, _, _, _, _, hL2, hI2, hm2, hM2⟩
  · obtain ⟨rfl, hK0, E9, hE9⟩ := hp1
    obtain ⟨hE9, hkp, oc9, t8, t9, t10, t11, t12, hL1⟩ := hE9
    have hm1 := mL_keep hm hkp
    have hK3 : (kR (ix v0 nd) hd (fun _ => some 0) (fun _ => true)) ≤ 3 := zexIS_le hE9
    have hP : va_P D vwCl ((o, zOut cA z) :: ux) H := hP
    have hD : va_D (lwA s) ((o, zOut cA z) :: ux) := hD
    obtain ⟨m0_1, -⟩ := id hm1
    refine lv_istore (lv' := [(5, .int (nI ((kR (ix v0 nd) hd (fun _ => some 0) (fun _ => true))))), (0, .ref b), (1, .ref (ad 0)), (2, .ref (gd 0)), (3, .ref o), (4, .int (nI (i)))]) hx hb dL_law_1360 hl (by decide) rfl (fun ls hl => ?_)
    refine lv_aload_n hx hb dL_law_1362 rfl (lv_at hl 3 rfl) ?_
    refine lv_aload_n hx hb dL_law_1363 rfl (lv_at hl 1 rfl) ?_
    refine lv_iload hx hb dL_law_1364 (lv_at hl 5 rfl) ?_
    refine lv_iconst (v := nI (1)) hx hb dL_law_1366 (by decide) ?_
    refine zo_add hx hb dL_law_1367 ?_
    refine va_sld hx hb hXs hbl hbA hS (vp_in_nI (show i + 1 < L by omega) (by omega)) dL_law_1368 ?_
    rw [nI_clamp (show i + 1 < 2 ^ 31 by omega)]
    refine zx_val (y := v0) (ev0.symm) ?_
    refine zq_V_i (n := 1) (mc := 0) (ms := 0) (As := [.int (v0)]) (rest := []) hx hb hml hts hown hZ hP hD hS hA (c_X5_triedTime_no l D cA _ _ hm1 hI hM v0 hK0) gL_law_X5_triedTime rfl rfl ⟨rfl, rfl⟩ ⟨by decide +kernel, (Nat.le_of_ble_eq_true rfl), (Nat.le_of_ble_eq_true rfl)⟩ m0_1 rfl hl.1 rfl (Nat.le_of_ble_eq_true rfl) ⟨by show _ ≤ 601024; omega, by show _ ≤ 7293034; omega⟩ rfl dL_law_1369 (fun r2 u2 H locs hp2 hP hD hS hz2 => ?_)
    obtain ⟨hkp2, my9, fls9, fod9, fle9, fro9, hm2⟩ := hp2
    have hL2 := zL_keep hL1 hkp2
    obtain ⟨m0_2, -⟩ := id hm2
    have hP : va_P D vwCl ((o, zOut cA z) :: u2) H := hP
    have hD : va_D (lwA s) ((o, zOut cA z) :: u2) := hD
    refine lv_istore (lv' := [(6, .int (r2)), (5, .int (nI ((kR (ix v0 nd) hd (fun _ => some 0) (fun _ => true))))), (0, .ref b), (1, .ref (ad 0)), (2, .ref (gd 0)), (3, .ref o), (4, .int (nI (i)))]) hx hb dL_law_1372 hl (by decide) rfl (fun ls hl => ?_)
    refine lv_aload_n hx hb dL_law_1374 rfl (lv_at hl 4 rfl) ?_
    refine zk_V_i (n := 0) (As := []) (rest := []) hx hb hml hts hown hZ (zq_P hP) (c_X5_thrown l D cA _ hm2) gL_law_X5_thrown rfl rfl ⟨rfl, rfl⟩ ⟨by decide +kernel, (Nat.le_of_ble_eq_true rfl), (Nat.le_of_ble_eq_true rfl)⟩ m0_2 rfl hl.1 rfl (Nat.le_of_ble_eq_true rfl) ⟨by show _ ≤ 601024; omega, by show _ ≤ 7293034; omega⟩ rfl dL_law_1375 (fun r3 hr3 => ?_)
    obtain rfl := show r3 = nI ((kR (ix v0 nd) hd (fun _ => some 0) (fun _ => true))) from hr3
    refine lv_iload hx hb dL_law_1378 (lv_at hl 1 rfl) ?_
    refine zc_eq (tgt := 1385) hx hb (by omega) (by omega) dL_law_1380 (by decide) (fun c_4 => ?_) (fun c_4 => absurd rfl c_4)
    refine lv_iload hx hb dL_law_1385 (lv_at hl 1 rfl) ?_
    refine zf_ne (tgt := 1402) hx hb (by omega) dL_law_1387 (by decide) (fun c_5 => ?_) (fun c_5 => absurd c_5 hK0)
    refine lv_goto (tgt := 1543) hx hb dL_law_1402 (by decide) ?_
    have hI2 := hI
    have hM2 := hM
    exact kont z u2 H locs ls _ _ (by omega) (by omega) ⟨lv_sub hl [2, 3, 4, 5, 6] rfl, hP, hD, hS, _, _, _, _, _, _, _, _, _, _, _, _, _, _, _, _, _, _, _, _, _, _, _, _, _, _, _, _, _, _, _, _, _, _, _, _, _, _, _, _, _, _, hL2, hI2, hm2, hM2⟩

set_option maxHeartbeats 4000000 in
set_option maxRecDepth 100000 in
theorem law_work (l : Launch) (hlt : l.stackTraces = false) {p : Program} {e : Env} {s : State} {m : MethodId} {below : List Frame} {meth : Method} {c : Code} {Q : State → Prop} {D : va_G} {cA : Nat → ClassId} {b L : Nat} {xs : Nat → Int32} (F9 : lwF p s m c D cA b L xs) (ad gd : Nat → Nat) (o i cells slots : Nat) (hi : i + 4 ≤ L) (hL8 : L ≤ 2048) (hc9 : cells ≤ 600000) (hs9 : slots ≤ 7000000) (kont : lwK p l e s m below meth c Q D cA ad gd o b i cells slots) (z : Nat → Int64) (ws : va_W) (H : Heap) (locs : List Loc) (ls : Array Slot) (hI9 : lwI s D cA ad gd o b i H locs ls z ws) : W p l e room_1 s m #[Value.ref b] below meth c H locs cells slots Q (F0 m 1405 ls []) := by
  obtain ⟨hx, hb, hml, hown, hts, hZ, hX, hN, hXs, hbl⟩ := F9
  have hbA : ¬ lwA s b := Nat.not_le.mpr hbl
  have hA : ∀ q : Nat, s.heap.size ≤ q → lwA s q := fun _ h => h
  obtain ⟨hl, hP, hD, hS, hV⟩ := hI9
  obtain ⟨T, Bd, E, PT, PB, PE, n, tr, le, sl, mo, la, fc, bo, nd, mk, ck, ct, hd, pq, nj, fw, jf, dl, dn, oc, s8, s9, s10, s11, s12, sf, bf, pf, jt, fin, my, fls, fod, fle, fro, th, hL, hI, hm, hM⟩ := hV
  have hL0 := hL
  obtain ⟨⟨l22, l23, l24, l25, l26, l27, l28, l29, l30, l31, l32, l33, l34⟩, -⟩ := hL
  have hL := hL0
  obtain ⟨v0, ev0⟩ : ∃ y, y = xs (i + 1) := ⟨_, rfl⟩
  have hl : lv_has ls 7 [(0, .ref b), (1, .ref (ad 0)), (2, .ref (gd 0)), (3, .ref o), (4, .int (nI (i)))] := hl
  refine lv_aload_n hx hb dL_law_1405 rfl (lv_at hl 1 rfl) ?_
  refine lv_aload_n hx hb dL_law_1406 rfl (lv_at hl 0 rfl) ?_
  refine lv_iload hx hb dL_law_1407 (lv_at hl 4 rfl) ?_
  refine lv_iconst (v := nI (1)) hx hb dL_law_1409 (by decide) ?_
  refine zo_add hx hb dL_law_1410 ?_
  refine va_sld hx hb hXs hbl hbA hS (vp_in_nI (show i + 1 < L by omega) (by omega)) dL_law_1411 ?_
  rw [nI_clamp (show i + 1 < 2 ^ 31 by omega)]
  refine zx_val (y := v0) (ev0.symm) ?_
  refine lv_aload_n hx hb dL_law_1412 rfl (lv_at hl 3 rfl) ?_
  refine zw_H_i (n := 3) (mc := 4) (ms := 24) (As := [.ref (ad 0), .int (v0), .ref o]) (rest := []) hx hb hml hts hown hZ hX hN hP hD hS hA (c_L_work l D cA _ _ o z (ad 0) _ l22 _ _ _ _ (kS (ix v0 nd) (fun j => (hd j).isSome && decide (ct j < 12))) v0 (fun sz => c_X4_work l hlt D cA sz ws ad T Bd E PT PB PE n tr le sl mo la fc bo nd mk ck ct hd pq nj fw jf dl dn oc s8 s9 s10 s11 s12 hL hI v0) (fun _ _ h => h.1)) gL_law_L_work rfl ⟨rfl, rfl⟩ ⟨by decide +kernel, (Nat.le_of_ble_eq_true rfl), (Nat.le_of_ble_eq_true rfl)⟩ hl.1 rfl (Nat.le_of_ble_eq_true rfl) ⟨by show _ ≤ 601024; omega, by show _ ≤ 7293034; omega⟩ rfl dL_law_1413 (fun r1 u1 H locs hp1 hP hD hS hz1 => ?_)
  rcases u1 with ⟨⟨ans, f1⟩, j, t, P, w1⟩ | ux
  · obtain ⟨rfl, hf1, hpc⟩ := hp1
    obtain ⟨hjn, hv0, hht, hpq, hP16, hct, rfl, hkp, oc9, t8, t9, t10, t11, t12, hL1⟩ := hpc
    have hjn : j < nd := hjn
    have hv0 : v0 = nI j := hv0
    have hht : hd j = some t := hht
    have hpq : pq j = nI P := hpq
    have hP16 : P ≤ 1600 := hP16
    have hct : ct j < 12 := hct
    have hf1 : f1 0 = (nI (wkL mk tr le bo jf dl j t (fun i9 => (wl fw (nI t) nj).getD ((BO (LG mk tr le bo jf j t P (wl fw (nI t) nj)) (wl fw (nI t) nj).length (np 0) 7).getD i9 0) 0) P (ck j) (min (wl fw (nI t) nj).length (12 - ct j)))).toInt64 := hf1
    have hkp : zKeep ws w1 := hkp
    have hm1 := mL_keep hm hkp
    have hP : va_P D vwCl ((o, zOut cA f1) :: w1) H := hP
    have hD : va_D (lwA s) ((o, zOut cA f1) :: w1) := hD
    obtain ⟨m0_1, -⟩ := id hm1
    have hP9 := pq_le hI hjn hht hpq hP16
    refine lv_istore (lv' := [(5, .int (nI (0))), (0, .ref b), (1, .ref (ad 0)), (2, .ref (gd 0)), (3, .ref o), (4, .int (nI (i)))]) hx hb dL_law_1416 hl (by decide) rfl (fun ls hl => ?_)
    refine lv_aload_n hx hb dL_law_1418 rfl (lv_at hl 3 rfl) ?_
    refine lv_aload_n hx hb dL_law_1419 rfl (lv_at hl 1 rfl) ?_
    refine lv_iload hx hb dL_law_1420 (lv_at hl 5 rfl) ?_
    refine lv_iconst (v := nI (1)) hx hb dL_law_1422 (by decide) ?_
    refine zo_add hx hb dL_law_1423 ?_
    refine va_sld hx hb hXs hbl hbA hS (vp_in_nI (show i + 1 < L by omega) (by omega)) dL_law_1424 ?_
    rw [nI_clamp (show i + 1 < 2 ^ 31 by omega)]
    refine zx_val (y := v0) (ev0.symm) ?_
    refine zx_val (y := nI (j)) (hv0) ?_
    refine zq_V_i (n := 1) (mc := 0) (ms := 0) (As := [.int (nI (j))]) (rest := []) hx hb hml hts hown hZ hP hD hS hA (c_X5_work_ok l D cA _ _ hm1 hI hM j t P hjn hht hpq hP9 hct) gL_law_X5_work rfl rfl ⟨rfl, rfl⟩ ⟨by decide +kernel, (Nat.le_of_ble_eq_true rfl), (Nat.le_of_ble_eq_true rfl)⟩ m0_1 rfl hl.1 rfl (Nat.le_of_ble_eq_true rfl) ⟨by show _ ≤ 601024; omega, by show _ ≤ 7293034; omega⟩ rfl dL_law_1425 (fun r2 u2 H locs hp2 hP hD hS hz2 => ?_)
    obtain ⟨rfl, hkp2, my9, fls9, fod9, fle9, fro9, hm2⟩ := hp2
    have hL2 := zL_keep hL1 hkp2
    obtain ⟨m0_2, -⟩ := id hm2
    have hP : va_P D vwCl ((o, zOut cA f1) :: u2) H := hP
    have hD : va_D (lwA s) ((o, zOut cA f1) :: u2) := hD
    refine lv_istore (lv' := [(6, .int (nI (wkL mk tr le bo jf dl j t (fun i9 => (wl fw (nI t) nj).getD ((BO (LG mk tr le bo jf j t P (wl fw (nI t) nj)) (wl fw (nI t) nj).length (np 0) 7).getD i9 0) 0) P (ck j) (min (wl fw (nI t) nj).length (12 - ct j))))), (5, .int (nI (0))), (0, .ref b), (1, .ref (ad 0)), (2, .ref (gd 0)), (3, .ref o), (4, .int (nI (i)))]) hx hb dL_law_1428 hl (by decide) rfl (fun ls hl => ?_)
    refine lv_aload_n hx hb dL_law_1430 rfl (lv_at hl 4 rfl) ?_
    refine zk_V_i (n := 0) (As := []) (rest := []) hx hb hml hts hown hZ (zq_P hP) (c_X5_thrown l D cA _ hm2) gL_law_X5_thrown rfl rfl ⟨rfl, rfl⟩ ⟨by decide +kernel, (Nat.le_of_ble_eq_true rfl), (Nat.le_of_ble_eq_true rfl)⟩ m0_2 rfl hl.1 rfl (Nat.le_of_ble_eq_true rfl) ⟨by show _ ≤ 601024; omega, by show _ ≤ 7293034; omega⟩ rfl dL_law_1431 (fun r3 hr3 => ?_)
    obtain rfl := show r3 = nI (0) from hr3
    refine lv_iload hx hb dL_law_1434 (lv_at hl 1 rfl) ?_
    refine zc_eq (tgt := 1441) hx hb (by omega) (by omega) dL_law_1436 (by decide) (fun c_1 => ?_) (fun c_1 => absurd rfl c_1)
    refine lv_iload hx hb dL_law_1441 (lv_at hl 1 rfl) ?_
    refine zf_ne (tgt := 1458) hx hb (by omega) dL_law_1443 (by decide) (fun c_2 => False.elim (by omega)) (fun c_2 => ?_)
    refine lv_aload_n hx hb dL_law_1446 rfl (lv_at hl 5 rfl) ?_
    refine lv_iconst (v := nI (0)) hx hb dL_law_1447 (by decide) ?_
    refine va_lald hx hb hZ.1 hP 0 4 rfl rfl (vp_in_nI (show 0 < 1 by omega) (by omega)) dL_law_1448 ?_
    rw [nI_clamp (show 0 < 2 ^ 31 by omega)]
    refine zx_v (b := .long (nI (wkL mk tr le bo jf dl j t (fun i9 => (wl fw (nI t) nj).getD ((BO (LG mk tr le bo jf j t P (wl fw (nI t) nj)) (wl fw (nI t) nj).length (np 0) 7).getD i9 0) 0) P (ck j) (min (wl fw (nI t) nj).length (12 - ct j)))).toInt64) (by rw [hf1]) ?_
    refine lv_iload hx hb dL_law_1449 (lv_at hl 0 rfl) ?_
    refine lv_i2l (v := (nI (wkL mk tr le bo jf dl j t (fun i9 => (wl fw (nI t) nj).getD ((BO (LG mk tr le bo jf j t P (wl fw (nI t) nj)) (wl fw (nI t) nj).length (np 0) 7).getD i9 0) 0) P (ck j) (min (wl fw (nI t) nj).length (12 - ct j)))).toInt64) hx hb dL_law_1451 rfl ?_
    refine W.lcmp hx hb dL_law_1452 ?_
    refine zx_val (y := nI 0) (lg_cmp_self _) ?_
    refine zf_eq (tgt := 1458) hx hb (by omega) dL_law_1453 (by decide) (fun c_3 => ?_) (fun c_3 => False.elim (by omega))
    refine lv_goto (tgt := 1543) hx hb dL_law_1458 (by decide) ?_
    obtain ⟨htn, -⟩ := (hI.2.2.2.2.1 j hjn).2.2.2 t hht
    have hw7 := hI.2.2.2.2.2.2.2 t htn
    have hjs : ∀ a, a < (min (wl fw (nI t) nj).length (12 - ct j)) → (fun i9 => (wl fw (nI t) nj).getD ((BO (LG mk tr le bo jf j t P (wl fw (nI t) nj)) (wl fw (nI t) nj).length (np 0) 7).getD i9 0) 0) a < nj ∧ fin ((fun i9 => (wl fw (nI t) nj).getD ((BO (LG mk tr le bo jf j t P (wl fw (nI t) nj)) (wl fw (nI t) nj).length (np 0) 7).getD i9 0) 0) a) = false := fun a ha => by
      have hm9 : (wl fw (nI t) nj).getD ((BO (LG mk tr le bo jf j t P (wl fw (nI t) nj)) (wl fw (nI t) nj).length (np 0) 7).getD a 0) 0 ∈ (wl fw (nI t) nj) := getD_mem ((BO_mem (getD_mem (by rw [BO_length, np_0, cnt_all]; omega))).1)
      obtain ⟨g1, g2⟩ := wl_mem hm9
      refine ⟨g1, ?_⟩
      have g3 := (hM.2.2.2.2.1 _ g1).1
      rw [g2] at g3
      cases g4 : fin ((wl fw (nI t) nj).getD ((BO (LG mk tr le bo jf j t P (wl fw (nI t) nj)) (wl fw (nI t) nj).length (np 0) 7).getD a 0) 0) with
      | false => rfl
      | true => rw [g4] at g3; exact absurd g3 (nI_nm1 (by have := hI.1; omega))
    obtain ⟨hI3, hM3⟩ := I_works (min (wl fw (nI t) nj).length (12 - ct j)) hI hM hjs (fun a b9 hab hb9 => js_ne a b9 hab (by omega))
    have hwp9 : wkP bo jf t (fun i9 => (wl fw (nI t) nj).getD ((BO (LG mk tr le bo jf j t P (wl fw (nI t) nj)) (wl fw (nI t) nj).length (np 0) 7).getD i9 0) 0) P (min (wl fw (nI t) nj).length (12 - ct j)) ≤ tr t * le t := by
      rcases hz9 : (min (wl fw (nI t) nj).length (12 - ct j)) with _ | i9
      · exact hP9
      · have hm9 : (wl fw (nI t) nj).getD ((BO (LG mk tr le bo jf j t P (wl fw (nI t) nj)) (wl fw (nI t) nj).length (np 0) 7).getD i9 0) 0 ∈ (wl fw (nI t) nj) := getD_mem ((BO_mem (getD_mem (by rw [BO_length, np_0, cnt_all]; omega))).1)
        obtain ⟨g1, g2⟩ := wl_mem hm9
        have g3 := hI.2.2.2.2.2.1 _ g1 t g2 htn
        have hT9 := hI.2.2.2.1 t htn
        exact Nat.le_trans (bmono _ hT9.2.2.2.2.2.2.2.2.1 (jf ((wl fw (nI t) nj).getD ((BO (LG mk tr le bo jf j t P (wl fw (nI t) nj)) (wl fw (nI t) nj).length (np 0) 7).getD i9 0) 0) + 1) (by omega)) hT9.2.2.2.2.2.2.2.2.2
    obtain ⟨hI2, hM2⟩ := I_go (c9 := wkC mk tr le bo jf j t (fun i9 => (wl fw (nI t) nj).getD ((BO (LG mk tr le bo jf j t P (wl fw (nI t) nj)) (wl fw (nI t) nj).length (np 0) 7).getD i9 0) 0) P (ck j) (min (wl fw (nI t) nj).length (12 - ct j))) (d9 := ct j + (min (wl fw (nI t) nj).length (12 - ct j))) (q9 := wkP bo jf t (fun i9 => (wl fw (nI t) nj).getD ((BO (LG mk tr le bo jf j t P (wl fw (nI t) nj)) (wl fw (nI t) nj).length (np 0) 7).getD i9 0) 0) P (min (wl fw (nI t) nj).length (12 - ct j))) hI3 hM3 hjn hht hwp9 (by have := (hI.2.2.2.2.1 j hjn).2.1; omega)
    exact kont f1 u2 H locs ls _ _ (by omega) (by omega) ⟨lv_sub hl [2, 3, 4, 5, 6] rfl, hP, hD, hS, _, _, _, _, _, _, _, _, _, _, _, _, _, _, _, _, _, _, _, _, _, _, _, _, _, _, _, _, _, _, _, _, _, _, _, _, _, _, _, _, _, _, hL2, hI2, hm2, hM2⟩
  · obtain ⟨rfl, hK0, E9, hE9⟩ := hp1
    obtain ⟨hE9, hkp, oc9, t8, t9, t10, t11, t12, hL1⟩ := hE9
    have hm1 := mL_keep hm hkp
    have hK3 : (kS (ix v0 nd) (fun j => (hd j).isSome && decide (ct j < 12))) ≤ 3 := zexIS_le hE9
    have hP : va_P D vwCl ((o, zOut cA z) :: ux) H := hP
    have hD : va_D (lwA s) ((o, zOut cA z) :: ux) := hD
    obtain ⟨m0_1, -⟩ := id hm1
    refine lv_istore (lv' := [(5, .int (nI ((kS (ix v0 nd) (fun j => (hd j).isSome && decide (ct j < 12)))))), (0, .ref b), (1, .ref (ad 0)), (2, .ref (gd 0)), (3, .ref o), (4, .int (nI (i)))]) hx hb dL_law_1416 hl (by decide) rfl (fun ls hl => ?_)
    refine lv_aload_n hx hb dL_law_1418 rfl (lv_at hl 3 rfl) ?_
    refine lv_aload_n hx hb dL_law_1419 rfl (lv_at hl 1 rfl) ?_
    refine lv_iload hx hb dL_law_1420 (lv_at hl 5 rfl) ?_
    refine lv_iconst (v := nI (1)) hx hb dL_law_1422 (by decide) ?_
    refine zo_add hx hb dL_law_1423 ?_
    refine va_sld hx hb hXs hbl hbA hS (vp_in_nI (show i + 1 < L by omega) (by omega)) dL_law_1424 ?_
    rw [nI_clamp (show i + 1 < 2 ^ 31 by omega)]
    refine zx_val (y := v0) (ev0.symm) ?_
    refine zq_V_i (n := 1) (mc := 0) (ms := 0) (As := [.int (v0)]) (rest := []) hx hb hml hts hown hZ hP hD hS hA (c_X5_work_no l D cA _ _ hm1 hI hM v0 hK0) gL_law_X5_work rfl rfl ⟨rfl, rfl⟩ ⟨by decide +kernel, (Nat.le_of_ble_eq_true rfl), (Nat.le_of_ble_eq_true rfl)⟩ m0_1 rfl hl.1 rfl (Nat.le_of_ble_eq_true rfl) ⟨by show _ ≤ 601024; omega, by show _ ≤ 7293034; omega⟩ rfl dL_law_1425 (fun r2 u2 H locs hp2 hP hD hS hz2 => ?_)
    obtain ⟨hkp2, my9, fls9, fod9, fle9, fro9, hm2⟩ := hp2
    have hL2 := zL_keep hL1 hkp2
    obtain ⟨m0_2, -⟩ := id hm2
    have hP : va_P D vwCl ((o, zOut cA z) :: u2) H := hP
    have hD : va_D (lwA s) ((o, zOut cA z) :: u2) := hD
    refine lv_istore (lv' := [(6, .int (r2)), (5, .int (nI ((kS (ix v0 nd) (fun j => (hd j).isSome && decide (ct j < 12)))))), (0, .ref b), (1, .ref (ad 0)), (2, .ref (gd 0)), (3, .ref o), (4, .int (nI (i)))]) hx hb dL_law_1428 hl (by decide) rfl (fun ls hl => ?_)
    refine lv_aload_n hx hb dL_law_1430 rfl (lv_at hl 4 rfl) ?_
    refine zk_V_i (n := 0) (As := []) (rest := []) hx hb hml hts hown hZ (zq_P hP) (c_X5_thrown l D cA _ hm2) gL_law_X5_thrown rfl rfl ⟨rfl, rfl⟩ ⟨by decide +kernel, (Nat.le_of_ble_eq_true rfl), (Nat.le_of_ble_eq_true rfl)⟩ m0_2 rfl hl.1 rfl (Nat.le_of_ble_eq_true rfl) ⟨by show _ ≤ 601024; omega, by show _ ≤ 7293034; omega⟩ rfl dL_law_1431 (fun r3 hr3 => ?_)
    obtain rfl := show r3 = nI ((kS (ix v0 nd) (fun j => (hd j).isSome && decide (ct j < 12)))) from hr3
    refine lv_iload hx hb dL_law_1434 (lv_at hl 1 rfl) ?_
    refine zc_eq (tgt := 1441) hx hb (by omega) (by omega) dL_law_1436 (by decide) (fun c_4 => ?_) (fun c_4 => absurd rfl c_4)
    refine lv_iload hx hb dL_law_1441 (lv_at hl 1 rfl) ?_
    refine zf_ne (tgt := 1458) hx hb (by omega) dL_law_1443 (by decide) (fun c_5 => ?_) (fun c_5 => absurd c_5 hK0)
    refine lv_goto (tgt := 1543) hx hb dL_law_1458 (by decide) ?_
    have hI2 := hI
    have hM2 := hM
    exact kont z u2 H locs ls _ _ (by omega) (by omega) ⟨lv_sub hl [2, 3, 4, 5, 6] rfl, hP, hD, hS, _, _, _, _, _, _, _, _, _, _, _, _, _, _, _, _, _, _, _, _, _, _, _, _, _, _, _, _, _, _, _, _, _, _, _, _, _, _, _, _, _, _, hL2, hI2, hm2, hM2⟩

set_option maxHeartbeats 4000000 in
set_option maxRecDepth 100000 in
theorem law_done (l : Launch) (hlt : l.stackTraces = false) {p : Program} {e : Env} {s : State} {m : MethodId} {below : List Frame} {meth : Method} {c : Code} {Q : State → Prop} {D : va_G} {cA : Nat → ClassId} {b L : Nat} {xs : Nat → Int32} (F9 : lwF p s m c D cA b L xs) (ad gd : Nat → Nat) (o i cells slots : Nat) (hi : i + 4 ≤ L) (hL8 : L ≤ 2048) (hc9 : cells ≤ 600000) (hs9 : slots ≤ 7000000) (kont : lwK p l e s m below meth c Q D cA ad gd o b i cells slots) (z : Nat → Int64) (ws : va_W) (H : Heap) (locs : List Loc) (ls : Array Slot) (hI9 : lwI s D cA ad gd o b i H locs ls z ws) : W p l e room_1 s m #[Value.ref b] below meth c H locs cells slots Q (F0 m 1461 ls []) := by
  obtain ⟨hx, hb, hml, hown, hts, hZ, hX, hN, hXs, hbl⟩ := F9
  have hbA : ¬ lwA s b := Nat.not_le.mpr hbl
  have hA : ∀ q : Nat, s.heap.size ≤ q → lwA s q := fun _ h => h
  obtain ⟨hl, hP, hD, hS, hV⟩ := hI9
  obtain ⟨T, Bd, E, PT, PB, PE, n, tr, le, sl, mo, la, fc, bo, nd, mk, ck, ct, hd, pq, nj, fw, jf, dl, dn, oc, s8, s9, s10, s11, s12, sf, bf, pf, jt, fin, my, fls, fod, fle, fro, th, hL, hI, hm, hM⟩ := hV
  have hL0 := hL
  obtain ⟨⟨l22, l23, l24, l25, l26, l27, l28, l29, l30, l31, l32, l33, l34⟩, -⟩ := hL
  have hL := hL0
  have hl : lv_has ls 7 [(0, .ref b), (1, .ref (ad 0)), (2, .ref (gd 0)), (3, .ref o), (4, .int (nI (i)))] := hl
  refine lv_aload_n hx hb dL_law_1461 rfl (lv_at hl 1 rfl) ?_
  refine zk_V_i (n := 0) (As := []) (rest := []) hx hb hml hts hown hZ (zq_P hP) (c_X4_done l D cA ws 22 (ad 0) (ad 1) n (ad 2) nd (ad 3) (ad 4) l22 25 nj dn (ad 5) (ad 6) (ad 7) l25) gL_law_X4_done rfl rfl ⟨rfl, rfl⟩ ⟨by decide +kernel, (Nat.le_of_ble_eq_true rfl), (Nat.le_of_ble_eq_true rfl)⟩ l22 rfl hl.1 rfl (Nat.le_of_ble_eq_true rfl) ⟨by show _ ≤ 601024; omega, by show _ ≤ 7293034; omega⟩ rfl dL_law_1462 (fun r1 hr1 => ?_)
  obtain rfl := show r1 = nI dn from hr1
  have hm1 := hm
  have hL1 := hL
  obtain ⟨m0_1, -⟩ := id hm1
  refine lv_aload_n hx hb dL_law_1465 rfl (lv_at hl 2 rfl) ?_
  refine zq_V_i (n := 0) (mc := 0) (ms := 0) (As := []) (rest := [.int (nI dn)]) hx hb hml hts hown hZ hP hD hS hA (c_X5_done l D cA _ _ hm1 hI hM) gL_law_X5_done rfl rfl ⟨rfl, rfl⟩ ⟨by decide +kernel, (Nat.le_of_ble_eq_true rfl), (Nat.le_of_ble_eq_true rfl)⟩ m0_1 rfl hl.1 rfl (Nat.le_of_ble_eq_true rfl) ⟨by show _ ≤ 601024; omega, by show _ ≤ 7293034; omega⟩ rfl dL_law_1466 (fun r2 u2 H locs hp2 hP hD hS hz2 => ?_)
  obtain ⟨rfl, hkp2, hm2⟩ := hp2
  have hL2 := zL_keep hL1 hkp2
  have hP : va_P D vwCl ((o, zOut cA z) :: u2) H := hP
  have hD : va_D (lwA s) ((o, zOut cA z) :: u2) := hD
  refine lv_icmp_eq (tgt := 1543) hx hb dL_law_1469 (by decide) (fun c_1 => ?_) (fun c_1 => absurd rfl c_1)
  have hI2 := hI
  have hM2 := hM
  exact kont z u2 H locs ls _ _ (by omega) (by omega) ⟨lv_sub hl [0, 1, 2, 3, 4] rfl, hP, hD, hS, _, _, _, _, _, _, _, _, _, _, _, _, _, _, _, _, _, _, _, _, _, _, _, _, _, _, _, _, _, _, _, _, _, _, _, _, _, _, _, _, _, _, hL2, hI2, hm2, hM2⟩

set_option maxHeartbeats 4000000 in
set_option maxRecDepth 100000 in
theorem law_lose (l : Launch) (hlt : l.stackTraces = false) {p : Program} {e : Env} {s : State} {m : MethodId} {below : List Frame} {meth : Method} {c : Code} {Q : State → Prop} {D : va_G} {cA : Nat → ClassId} {b L : Nat} {xs : Nat → Int32} (F9 : lwF p s m c D cA b L xs) (ad gd : Nat → Nat) (o i cells slots : Nat) (hi : i + 4 ≤ L) (hL8 : L ≤ 2048) (hc9 : cells ≤ 600000) (hs9 : slots ≤ 7000000) (kont : lwK p l e s m below meth c Q D cA ad gd o b i cells slots) (z : Nat → Int64) (ws : va_W) (H : Heap) (locs : List Loc) (ls : Array Slot) (hI9 : lwI s D cA ad gd o b i H locs ls z ws) : W p l e room_1 s m #[Value.ref b] below meth c H locs cells slots Q (F0 m 1474 ls []) := by
  obtain ⟨hx, hb, hml, hown, hts, hZ, hX, hN, hXs, hbl⟩ := F9
  have hbA : ¬ lwA s b := Nat.not_le.mpr hbl
  have hA : ∀ q : Nat, s.heap.size ≤ q → lwA s q := fun _ h => h
  obtain ⟨hl, hP, hD, hS, hV⟩ := hI9
  obtain ⟨T, Bd, E, PT, PB, PE, n, tr, le, sl, mo, la, fc, bo, nd, mk, ck, ct, hd, pq, nj, fw, jf, dl, dn, oc, s8, s9, s10, s11, s12, sf, bf, pf, jt, fin, my, fls, fod, fle, fro, th, hL, hI, hm, hM⟩ := hV
  have hL0 := hL
  obtain ⟨⟨l22, l23, l24, l25, l26, l27, l28, l29, l30, l31, l32, l33, l34⟩, -⟩ := hL
  have hL := hL0
  obtain ⟨v0, ev0⟩ : ∃ y, y = xs (i + 1) := ⟨_, rfl⟩
  have hl : lv_has ls 7 [(0, .ref b), (1, .ref (ad 0)), (2, .ref (gd 0)), (3, .ref o), (4, .int (nI (i)))] := hl
  refine lv_aload_n hx hb dL_law_1474 rfl (lv_at hl 1 rfl) ?_
  refine lv_aload_n hx hb dL_law_1475 rfl (lv_at hl 0 rfl) ?_
  refine lv_iload hx hb dL_law_1476 (lv_at hl 4 rfl) ?_
  refine lv_iconst (v := nI (1)) hx hb dL_law_1478 (by decide) ?_
  refine zo_add hx hb dL_law_1479 ?_
  refine va_sld hx hb hXs hbl hbA hS (vp_in_nI (show i + 1 < L by omega) (by omega)) dL_law_1480 ?_
  rw [nI_clamp (show i + 1 < 2 ^ 31 by omega)]
  refine zx_val (y := v0) (ev0.symm) ?_
  refine lv_aload_n hx hb dL_law_1481 rfl (lv_at hl 3 rfl) ?_
  refine zw_H_i (n := 3) (mc := 2) (ms := 12) (As := [.ref (ad 0), .int (v0), .ref o]) (rest := []) hx hb hml hts hown hZ hX hN hP hD hS hA (c_L_lose l D cA _ _ o z (ad 0) _ l22 _ _ _ _ (kS (ix v0 n) (fun t => !(mo t).isSome && la t)) v0 (fun sz => c_X4_lose l hlt D cA sz ws ad T Bd E PT PB PE n tr le sl mo la fc bo nd mk ck ct hd pq nj fw jf dl dn oc s8 s9 s10 s11 s12 hL hI v0) (fun _ _ h => h)) gL_law_L_lose rfl ⟨rfl, rfl⟩ ⟨by decide +kernel, (Nat.le_of_ble_eq_true rfl), (Nat.le_of_ble_eq_true rfl)⟩ hl.1 rfl (Nat.le_of_ble_eq_true rfl) ⟨by show _ ≤ 601024; omega, by show _ ≤ 7293034; omega⟩ rfl dL_law_1482 (fun r1 u1 H locs hp1 hP hD hS hz1 => ?_)
  rcases u1 with ⟨⟨ans, f1⟩, t, w1⟩ | ux
  · obtain ⟨rfl, hf1, hpc⟩ := hp1
    obtain ⟨htn, hv0, ⟨hmt, hla⟩, rfl, hkp, hL1⟩ := hpc
    have htn : t < n := htn
    have hv0 : v0 = nI t := hv0
    have hmt : mo t = none := hmt
    have hla : la t = true := hla
    have hf1 : f1 0 = (nI (cnt (fun i => !(va_up la t false) i) n)).toInt64 := hf1
    have hkp : zKeep ws w1 := hkp
    have hm1 := mL_keep hm hkp
    have hP : va_P D vwCl ((o, zOut cA f1) :: w1) H := hP
    have hD : va_D (lwA s) ((o, zOut cA f1) :: w1) := hD
    obtain ⟨m0_1, -⟩ := id hm1
    refine lv_istore (lv' := [(5, .int (nI (0))), (0, .ref b), (1, .ref (ad 0)), (2, .ref (gd 0)), (3, .ref o), (4, .int (nI (i)))]) hx hb dL_law_1485 hl (by decide) rfl (fun ls hl => ?_)
    refine lv_aload_n hx hb dL_law_1487 rfl (lv_at hl 3 rfl) ?_
    refine lv_aload_n hx hb dL_law_1488 rfl (lv_at hl 1 rfl) ?_
    refine lv_iload hx hb dL_law_1489 (lv_at hl 5 rfl) ?_
    refine lv_iconst (v := nI (1)) hx hb dL_law_1491 (by decide) ?_
    refine zo_add hx hb dL_law_1492 ?_
    refine va_sld hx hb hXs hbl hbA hS (vp_in_nI (show i + 1 < L by omega) (by omega)) dL_law_1493 ?_
    rw [nI_clamp (show i + 1 < 2 ^ 31 by omega)]
    refine zx_val (y := v0) (ev0.symm) ?_
    refine zx_val (y := nI (t)) (hv0) ?_
    refine zq_V_i (n := 1) (mc := 0) (ms := 0) (As := [.int (nI (t))]) (rest := []) hx hb hml hts hown hZ hP hD hS hA (c_X5_lose_ok l D cA _ _ hm1 hI hM t htn hmt hla) gL_law_X5_lose rfl rfl ⟨rfl, rfl⟩ ⟨by decide +kernel, (Nat.le_of_ble_eq_true rfl), (Nat.le_of_ble_eq_true rfl)⟩ m0_1 rfl hl.1 rfl (Nat.le_of_ble_eq_true rfl) ⟨by show _ ≤ 601024; omega, by show _ ≤ 7293034; omega⟩ rfl dL_law_1494 (fun r2 u2 H locs hp2 hP hD hS hz2 => ?_)
    obtain ⟨rfl, hkp2, hm2⟩ := hp2
    have hL2 := zL_keep hL1 hkp2
    obtain ⟨m0_2, -⟩ := id hm2
    have hP : va_P D vwCl ((o, zOut cA f1) :: u2) H := hP
    have hD : va_D (lwA s) ((o, zOut cA f1) :: u2) := hD
    refine lv_istore (lv' := [(6, .int (nI (cnt (fun i => !(va_up la t false) i) n))), (5, .int (nI (0))), (0, .ref b), (1, .ref (ad 0)), (2, .ref (gd 0)), (3, .ref o), (4, .int (nI (i)))]) hx hb dL_law_1497 hl (by decide) rfl (fun ls hl => ?_)
    refine lv_aload_n hx hb dL_law_1499 rfl (lv_at hl 4 rfl) ?_
    refine zk_V_i (n := 0) (As := []) (rest := []) hx hb hml hts hown hZ (zq_P hP) (c_X5_thrown l D cA _ hm2) gL_law_X5_thrown rfl rfl ⟨rfl, rfl⟩ ⟨by decide +kernel, (Nat.le_of_ble_eq_true rfl), (Nat.le_of_ble_eq_true rfl)⟩ m0_2 rfl hl.1 rfl (Nat.le_of_ble_eq_true rfl) ⟨by show _ ≤ 601024; omega, by show _ ≤ 7293034; omega⟩ rfl dL_law_1500 (fun r3 hr3 => ?_)
    obtain rfl := show r3 = nI (0) from hr3
    refine lv_iload hx hb dL_law_1503 (lv_at hl 1 rfl) ?_
    refine zc_eq (tgt := 1510) hx hb (by omega) (by omega) dL_law_1505 (by decide) (fun c_1 => ?_) (fun c_1 => absurd rfl c_1)
    refine lv_iload hx hb dL_law_1510 (lv_at hl 1 rfl) ?_
    refine zf_ne (tgt := 1527) hx hb (by omega) dL_law_1512 (by decide) (fun c_2 => False.elim (by omega)) (fun c_2 => ?_)
    refine lv_aload_n hx hb dL_law_1515 rfl (lv_at hl 5 rfl) ?_
    refine lv_iconst (v := nI (0)) hx hb dL_law_1516 (by decide) ?_
    refine va_lald hx hb hZ.1 hP 0 4 rfl rfl (vp_in_nI (show 0 < 1 by omega) (by omega)) dL_law_1517 ?_
    rw [nI_clamp (show 0 < 2 ^ 31 by omega)]
    refine zx_v (b := .long (nI (cnt (fun i => !(va_up la t false) i) n)).toInt64) (by rw [hf1]) ?_
    refine lv_iload hx hb dL_law_1518 (lv_at hl 0 rfl) ?_
    refine lv_i2l (v := (nI (cnt (fun i => !(va_up la t false) i) n)).toInt64) hx hb dL_law_1520 rfl ?_
    refine W.lcmp hx hb dL_law_1521 ?_
    refine zx_val (y := nI 0) (lg_cmp_self _) ?_
    refine zf_eq (tgt := 1527) hx hb (by omega) dL_law_1522 (by decide) (fun c_3 => ?_) (fun c_3 => False.elim (by omega))
    refine lv_goto (tgt := 1543) hx hb dL_law_1527 (by decide) ?_
    have hI2 := hI
    have hM2 := I_la (la9 := va_up la t false) hM (fun i hi => by rw [va_up_ne _ _ (by omega)]; exact (hM.1 i hi).2)
    exact kont f1 u2 H locs ls _ _ (by omega) (by omega) ⟨lv_sub hl [2, 3, 4, 5, 6] rfl, hP, hD, hS, _, _, _, _, _, _, _, _, _, _, _, _, _, _, _, _, _, _, _, _, _, _, _, _, _, _, _, _, _, _, _, _, _, _, _, _, _, _, _, _, _, _, hL2, hI2, hm2, hM2⟩
  · obtain ⟨rfl, hK0, E9, hE9⟩ := hp1
    have hm1 := hm
    have hL1 := hL
    have hK3 : (kS (ix v0 n) (fun t => !(mo t).isSome && la t)) ≤ 3 := zexIS_le hE9
    have hP : va_P D vwCl ((o, zOut cA z) :: ws) H := hP
    have hD : va_D (lwA s) ((o, zOut cA z) :: ws) := hD
    obtain ⟨m0_1, -⟩ := id hm1
    refine lv_istore (lv' := [(5, .int (nI ((kS (ix v0 n) (fun t => !(mo t).isSome && la t))))), (0, .ref b), (1, .ref (ad 0)), (2, .ref (gd 0)), (3, .ref o), (4, .int (nI (i)))]) hx hb dL_law_1485 hl (by decide) rfl (fun ls hl => ?_)
    refine lv_aload_n hx hb dL_law_1487 rfl (lv_at hl 3 rfl) ?_
    refine lv_aload_n hx hb dL_law_1488 rfl (lv_at hl 1 rfl) ?_
    refine lv_iload hx hb dL_law_1489 (lv_at hl 5 rfl) ?_
    refine lv_iconst (v := nI (1)) hx hb dL_law_1491 (by decide) ?_
    refine zo_add hx hb dL_law_1492 ?_
    refine va_sld hx hb hXs hbl hbA hS (vp_in_nI (show i + 1 < L by omega) (by omega)) dL_law_1493 ?_
    rw [nI_clamp (show i + 1 < 2 ^ 31 by omega)]
    refine zx_val (y := v0) (ev0.symm) ?_
    refine zq_V_i (n := 1) (mc := 0) (ms := 0) (As := [.int (v0)]) (rest := []) hx hb hml hts hown hZ hP hD hS hA (c_X5_lose_no l D cA _ _ hm1 hI hM v0 hK0) gL_law_X5_lose rfl rfl ⟨rfl, rfl⟩ ⟨by decide +kernel, (Nat.le_of_ble_eq_true rfl), (Nat.le_of_ble_eq_true rfl)⟩ m0_1 rfl hl.1 rfl (Nat.le_of_ble_eq_true rfl) ⟨by show _ ≤ 601024; omega, by show _ ≤ 7293034; omega⟩ rfl dL_law_1494 (fun r2 u2 H locs hp2 hP hD hS hz2 => ?_)
    obtain ⟨hkp2, hm2⟩ := hp2
    have hL2 := zL_keep hL1 hkp2
    obtain ⟨m0_2, -⟩ := id hm2
    have hP : va_P D vwCl ((o, zOut cA z) :: u2) H := hP
    have hD : va_D (lwA s) ((o, zOut cA z) :: u2) := hD
    refine lv_istore (lv' := [(6, .int (r2)), (5, .int (nI ((kS (ix v0 n) (fun t => !(mo t).isSome && la t))))), (0, .ref b), (1, .ref (ad 0)), (2, .ref (gd 0)), (3, .ref o), (4, .int (nI (i)))]) hx hb dL_law_1497 hl (by decide) rfl (fun ls hl => ?_)
    refine lv_aload_n hx hb dL_law_1499 rfl (lv_at hl 4 rfl) ?_
    refine zk_V_i (n := 0) (As := []) (rest := []) hx hb hml hts hown hZ (zq_P hP) (c_X5_thrown l D cA _ hm2) gL_law_X5_thrown rfl rfl ⟨rfl, rfl⟩ ⟨by decide +kernel, (Nat.le_of_ble_eq_true rfl), (Nat.le_of_ble_eq_true rfl)⟩ m0_2 rfl hl.1 rfl (Nat.le_of_ble_eq_true rfl) ⟨by show _ ≤ 601024; omega, by show _ ≤ 7293034; omega⟩ rfl dL_law_1500 (fun r3 hr3 => ?_)
    obtain rfl := show r3 = nI ((kS (ix v0 n) (fun t => !(mo t).isSome && la t))) from hr3
    refine lv_iload hx hb dL_law_1503 (lv_at hl 1 rfl) ?_
    refine zc_eq (tgt := 1510) hx hb (by omega) (by omega) dL_law_1505 (by decide) (fun c_4 => ?_) (fun c_4 => absurd rfl c_4)
    refine lv_iload hx hb dL_law_1510 (lv_at hl 1 rfl) ?_
    refine zf_ne (tgt := 1527) hx hb (by omega) dL_law_1512 (by decide) (fun c_5 => ?_) (fun c_5 => absurd c_5 hK0)
    refine lv_goto (tgt := 1543) hx hb dL_law_1527 (by decide) ?_
    have hI2 := hI
    have hM2 := hM
    exact kont z u2 H locs ls _ _ (by omega) (by omega) ⟨lv_sub hl [2, 3, 4, 5, 6] rfl, hP, hD, hS, _, _, _, _, _, _, _, _, _, _, _, _, _, _, _, _, _, _, _, _, _, _, _, _, _, _, _, _, _, _, _, _, _, _, _, _, _, _, _, _, _, _, hL2, hI2, hm2, hM2⟩

set_option maxHeartbeats 4000000 in
set_option maxRecDepth 100000 in
theorem law_inventory (l : Launch) (hlt : l.stackTraces = false) {p : Program} {e : Env} {s : State} {m : MethodId} {below : List Frame} {meth : Method} {c : Code} {Q : State → Prop} {D : va_G} {cA : Nat → ClassId} {b L : Nat} {xs : Nat → Int32} (F9 : lwF p s m c D cA b L xs) (ad gd : Nat → Nat) (o i cells slots : Nat) (hi : i + 4 ≤ L) (hL8 : L ≤ 2048) (hc9 : cells ≤ 600000) (hs9 : slots ≤ 7000000) (kont : lwK p l e s m below meth c Q D cA ad gd o b i cells slots) (z : Nat → Int64) (ws : va_W) (H : Heap) (locs : List Loc) (ls : Array Slot) (hI9 : lwI s D cA ad gd o b i H locs ls z ws) : W p l e room_1 s m #[Value.ref b] below meth c H locs cells slots Q (F0 m 1530 ls []) := by
  obtain ⟨hx, hb, hml, hown, hts, hZ, hX, hN, hXs, hbl⟩ := F9
  have hbA : ¬ lwA s b := Nat.not_le.mpr hbl
  have hA : ∀ q : Nat, s.heap.size ≤ q → lwA s q := fun _ h => h
  obtain ⟨hl, hP, hD, hS, hV⟩ := hI9
  obtain ⟨T, Bd, E, PT, PB, PE, n, tr, le, sl, mo, la, fc, bo, nd, mk, ck, ct, hd, pq, nj, fw, jf, dl, dn, oc, s8, s9, s10, s11, s12, sf, bf, pf, jt, fin, my, fls, fod, fle, fro, th, hL, hI, hm, hM⟩ := hV
  have hL0 := hL
  obtain ⟨⟨l22, l23, l24, l25, l26, l27, l28, l29, l30, l31, l32, l33, l34⟩, -⟩ := hL
  have hL := hL0
  have hl : lv_has ls 7 [(0, .ref b), (1, .ref (ad 0)), (2, .ref (gd 0)), (3, .ref o), (4, .int (nI (i)))] := hl
  refine lv_aload_n hx hb dL_law_1530 rfl (lv_at hl 1 rfl) ?_
  refine zq_V_i (n := 0) (mc := 0) (ms := 0) (As := []) (rest := []) hx hb hml hts hown hZ hP hD hS hA (c_X4_inventory l D cA _ ws ad T Bd E PT PB PE n tr le sl mo la fc bo nd mk ck ct hd pq nj fw jf dl dn oc s8 s9 s10 s11 s12 hL hI) gL_law_X4_inventory rfl rfl ⟨rfl, rfl⟩ ⟨by decide +kernel, (Nat.le_of_ble_eq_true rfl), (Nat.le_of_ble_eq_true rfl)⟩ l22 rfl hl.1 rfl (Nat.le_of_ble_eq_true rfl) ⟨by show _ ≤ 601024; omega, by show _ ≤ 7293034; omega⟩ rfl dL_law_1531 (fun r1 w1 H locs hp1 hP hD hS hz1 => ?_)
  obtain ⟨rfl, hkp, hL1⟩ := hp1
  have hm1 := mL_keep hm hkp
  obtain ⟨m0_1, -⟩ := id hm1
  have hP : va_P D vwCl ((o, zOut cA z) :: w1) H := hP
  have hD : va_D (lwA s) ((o, zOut cA z) :: w1) := hD
  refine lv_aload_n hx hb dL_law_1534 rfl (lv_at hl 2 rfl) ?_
  refine zq_V_i (n := 0) (mc := 0) (ms := 0) (As := []) (rest := [.int (nI (5 * cnt (fun i => !la i) n + 2 * hiS sl mo n))]) hx hb hml hts hown hZ hP hD hS hA (c_X5_inventory l D cA _ _ hm1 hI hM) gL_law_X5_inventory rfl rfl ⟨rfl, rfl⟩ ⟨by decide +kernel, (Nat.le_of_ble_eq_true rfl), (Nat.le_of_ble_eq_true rfl)⟩ m0_1 rfl hl.1 rfl (Nat.le_of_ble_eq_true rfl) ⟨by show _ ≤ 601024; omega, by show _ ≤ 7293034; omega⟩ rfl dL_law_1535 (fun r2 u2 H locs hp2 hP hD hS hz2 => ?_)
  obtain ⟨rfl, hkp2, hm2⟩ := hp2
  have hL2 := zL_keep hL1 hkp2
  have hP : va_P D vwCl ((o, zOut cA z) :: u2) H := hP
  have hD : va_D (lwA s) ((o, zOut cA z) :: u2) := hD
  refine lv_icmp_eq (tgt := 1543) hx hb dL_law_1538 (by decide) (fun c_1 => ?_) (fun c_1 => absurd rfl c_1)
  have hI2 := hI
  have hM2 := I_la (la9 := laM la n) hM (fun i hi => by unfold laM; rw [if_neg (by omega)]; exact (hM.1 i hi).2)
  exact kont z u2 H locs ls _ _ (by omega) (by omega) ⟨lv_sub hl [0, 1, 2, 3, 4] rfl, hP, hD, hS, _, _, _, _, _, _, _, _, _, _, _, _, _, _, _, _, _, _, _, _, _, _, _, _, _, _, _, _, _, _, _, _, _, _, _, _, _, _, _, _, _, _, hL2, hI2, hm2, hM2⟩
