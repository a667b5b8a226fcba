set_option maxHeartbeats 4000000 in
set_option maxRecDepth 100000 in
theorem law_along (l : Launch) (hlt : l.stackTraces = false) {p : Program} {e : Env} {s : State} {m : MethodId} {below : List Frame} {meth : Method} {c : Code} {Q : State → Prop} {D : va_G} {cA : Nat → ClassId} {b L : Nat} {xs : Nat → Int32} (F9 : lwF p s m c D cA b L xs) (ad gd : Nat → Nat) (o i cells slots : Nat) (hi : i + 4 ≤ L) (hL8 : L ≤ 2048) (hc9 : cells ≤ 600000) (hs9 : slots ≤ 7000000) (kont : lwK p l e s m below meth c Q D cA ad gd o b i cells slots) (z : Nat → Int64) (ws : va_W) (H : Heap) (locs : List Loc) (ls : Array Slot) (hI9 : lwI s D cA ad gd o b i H locs ls z ws) : W p l e room_1 s m #[Value.ref b] below meth c H locs cells slots Q (F0 m 468 ls []) := by
  obtain ⟨hx, hb, hml, hown, hts, hZ, hX, hN, hXs, hbl⟩ := F9
  have hbA : ¬ lwA s b := Nat.not_le.mpr hbl
  have hA : ∀ q : Nat, s.heap.size ≤ q → lwA s q := fun _ h => h
  obtain ⟨hl, hP, hD, hS, hV⟩ := hI9
  obtain ⟨T, Bd, E, PT, PB, PE, n, tr, le, sl, mo, la, fc, bo, nd, mk, ck, ct, hd, pq, nj, fw, jf, dl, dn, oc, s8, s9, s10, s11, s12, sf, bf, pf, jt, fin, my, fls, fod, fle, fro, th, hL, hI, hm, hM⟩ := hV
  have hL0 := hL
  obtain ⟨⟨l22, l23, l24, l25, l26, l27, l28, l29, l30, l31, l32, l33, l34⟩, -⟩ := hL
  have hL := hL0
  obtain ⟨v0, ev0⟩ : ∃ y, y = xs (i + 1) := ⟨_, rfl⟩
  obtain ⟨v1, ev1⟩ : ∃ y, y = xs (i + 2) := ⟨_, rfl⟩
  have hl : lv_has ls 7 [(0, .ref b), (1, .ref (ad 0)), (2, .ref (gd 0)), (3, .ref o), (4, .int (nI (i)))] := hl
  refine lv_aload_n hx hb dL_law_468 rfl (lv_at hl 1 rfl) ?_
  refine lv_aload_n hx hb dL_law_469 rfl (lv_at hl 0 rfl) ?_
  refine lv_iload hx hb dL_law_470 (lv_at hl 4 rfl) ?_
  refine lv_iconst (v := nI (1)) hx hb dL_law_472 (by decide) ?_
  refine zo_add hx hb dL_law_473 ?_
  refine va_sld hx hb hXs hbl hbA hS (vp_in_nI (show i + 1 < L by omega) (by omega)) dL_law_474 ?_
  rw [nI_clamp (show i + 1 < 2 ^ 31 by omega)]
  refine zx_val (y := v0) (ev0.symm) ?_
  refine lv_aload_n hx hb dL_law_475 rfl (lv_at hl 0 rfl) ?_
  refine lv_iload hx hb dL_law_476 (lv_at hl 4 rfl) ?_
  refine lv_iconst (v := nI (2)) hx hb dL_law_478 (by decide) ?_
  refine zo_add hx hb dL_law_479 ?_
  refine va_sld hx hb hXs hbl hbA hS (vp_in_nI (show i + 2 < L by omega) (by omega)) dL_law_480 ?_
  rw [nI_clamp (show i + 2 < 2 ^ 31 by omega)]
  refine zx_val (y := v1) (ev1.symm) ?_
  refine lv_aload_n hx hb dL_law_481 rfl (lv_at hl 3 rfl) ?_
  refine zw_H_i (n := 4) (mc := 2) (ms := 12) (As := [.ref (ad 0), .int (v0), .int (v1), .ref o]) (rest := []) hx hb hml hts hown hZ hX hN hP hD hS hA (c_L_along l D cA _ _ o z (ad 0) _ l22 _ _ _ _ (k1b (ix v0 n) (fun t => ix v1 (tr t * le t))) v0 v1 (fun sz => c_X4_along l hlt D cA sz ws ad T Bd E PT PB PE n tr le sl mo la fc bo nd mk ck ct hd pq nj fw jf dl dn oc s8 s9 s10 s11 s12 hL hI v0 v1) (fun _ _ h => h)) gL_law_L_along rfl ⟨rfl, rfl⟩ ⟨by decide +kernel, (Nat.le_of_ble_eq_true rfl), (Nat.le_of_ble_eq_true rfl)⟩ hl.1 rfl (Nat.le_of_ble_eq_true rfl) ⟨by show _ ≤ 601024; omega, by show _ ≤ 7293034; omega⟩ rfl dL_law_482 (fun r1 u1 H locs hp1 hP hD hS hz1 => ?_)
  rcases u1 with ⟨⟨ans, f1⟩, t, q⟩ | ux
  · obtain ⟨rfl, hf1, hpc⟩ := hp1
    obtain ⟨htn, hv0, hqn, hv1, rfl⟩ := hpc
    have htn : t < n := htn
    have hv0 : v0 = nI t := hv0
    have hqn : q < tr t * le t := hqn
    have hv1 : v1 = nI q := hv1
    have hf1 : f1 0 = (nI (alo (tr t) (le t) q)).toInt64 := hf1
    have hm1 := hm
    have hL1 := hL
    have hP : va_P D vwCl ((o, zOut cA f1) :: ws) H := hP
    have hD : va_D (lwA s) ((o, zOut cA f1) :: ws) := hD
    obtain ⟨m0_1, -⟩ := id hm1
    refine lv_istore (lv' := [(5, .int (nI (0))), (0, .ref b), (1, .ref (ad 0)), (2, .ref (gd 0)), (3, .ref o), (4, .int (nI (i)))]) hx hb dL_law_485 hl (by decide) rfl (fun ls hl => ?_)
    refine lv_aload_n hx hb dL_law_487 rfl (lv_at hl 3 rfl) ?_
    refine lv_aload_n hx hb dL_law_488 rfl (lv_at hl 1 rfl) ?_
    refine lv_iload hx hb dL_law_489 (lv_at hl 5 rfl) ?_
    refine lv_iconst (v := nI (1)) hx hb dL_law_491 (by decide) ?_
    refine zo_add hx hb dL_law_492 ?_
    refine va_sld hx hb hXs hbl hbA hS (vp_in_nI (show i + 1 < L by omega) (by omega)) dL_law_493 ?_
    rw [nI_clamp (show i + 1 < 2 ^ 31 by omega)]
    refine zx_val (y := v0) (ev0.symm) ?_
    refine zx_val (y := nI (t)) (hv0) ?_
    refine lv_aload_n hx hb dL_law_494 rfl (lv_at hl 1 rfl) ?_
    refine lv_iload hx hb dL_law_495 (lv_at hl 5 rfl) ?_
    refine lv_iconst (v := nI (2)) hx hb dL_law_497 (by decide) ?_
    refine zo_add hx hb dL_law_498 ?_
    refine va_sld hx hb hXs hbl hbA hS (vp_in_nI (show i + 2 < L by omega) (by omega)) dL_law_499 ?_
    rw [nI_clamp (show i + 2 < 2 ^ 31 by omega)]
    refine zx_val (y := v1) (ev1.symm) ?_
    refine zx_val (y := nI (q)) (hv1) ?_
    refine zq_V_i (n := 2) (mc := 0) (ms := 0) (As := [.int (nI (t)), .int (nI (q))]) (rest := []) hx hb hml hts hown hZ hP hD hS hA (c_X5_along_ok l D cA _ _ hm1 hI hM t q htn hqn) gL_law_X5_along rfl rfl ⟨rfl, rfl⟩ ⟨by decide +kernel, (Nat.le_of_ble_eq_true rfl), (Nat.le_of_ble_eq_true rfl)⟩ m0_1 rfl hl.1 rfl (Nat.le_of_ble_eq_true rfl) ⟨by show _ ≤ 601024; omega, by show _ ≤ 7293034; omega⟩ rfl dL_law_500 (fun r2 u2 H locs hp2 hP hD hS hz2 => ?_)
    obtain ⟨rfl, hkp2, hm2⟩ := hp2
    have hL2 := zL_keep hL1 hkp2
    obtain ⟨m0_2, -⟩ := id hm2
    have hP : va_P D vwCl ((o, zOut cA f1) :: u2) H := hP
    have hD : va_D (lwA s) ((o, zOut cA f1) :: u2) := hD
    refine lv_istore (lv' := [(6, .int (nI (alo (tr t) (le t) q))), (5, .int (nI (0))), (0, .ref b), (1, .ref (ad 0)), (2, .ref (gd 0)), (3, .ref o), (4, .int (nI (i)))]) hx hb dL_law_503 hl (by decide) rfl (fun ls hl => ?_)
    refine lv_aload_n hx hb dL_law_505 rfl (lv_at hl 4 rfl) ?_
    refine zk_V_i (n := 0) (As := []) (rest := []) hx hb hml hts hown hZ (zq_P hP) (c_X5_thrown l D cA _ hm2) gL_law_X5_thrown rfl rfl ⟨rfl, rfl⟩ ⟨by decide +kernel, (Nat.le_of_ble_eq_true rfl), (Nat.le_of_ble_eq_true rfl)⟩ m0_2 rfl hl.1 rfl (Nat.le_of_ble_eq_true rfl) ⟨by show _ ≤ 601024; omega, by show _ ≤ 7293034; omega⟩ rfl dL_law_506 (fun r3 hr3 => ?_)
    obtain rfl := show r3 = nI (0) from hr3
    refine lv_iload hx hb dL_law_509 (lv_at hl 1 rfl) ?_
    refine zc_eq (tgt := 516) hx hb (by omega) (by omega) dL_law_511 (by decide) (fun c_1 => ?_) (fun c_1 => absurd rfl c_1)
    refine lv_iload hx hb dL_law_516 (lv_at hl 1 rfl) ?_
    refine zf_ne (tgt := 533) hx hb (by omega) dL_law_518 (by decide) (fun c_2 => False.elim (by omega)) (fun c_2 => ?_)
    refine lv_aload_n hx hb dL_law_521 rfl (lv_at hl 5 rfl) ?_
    refine lv_iconst (v := nI (0)) hx hb dL_law_522 (by decide) ?_
    refine va_lald hx hb hZ.1 hP 0 4 rfl rfl (vp_in_nI (show 0 < 1 by omega) (by omega)) dL_law_523 ?_
    rw [nI_clamp (show 0 < 2 ^ 31 by omega)]
    refine zx_v (b := .long (nI (alo (tr t) (le t) q)).toInt64) (by rw [hf1]) ?_
    refine lv_iload hx hb dL_law_524 (lv_at hl 0 rfl) ?_
    refine lv_i2l (v := (nI (alo (tr t) (le t) q)).toInt64) hx hb dL_law_526 rfl ?_
    refine W.lcmp hx hb dL_law_527 ?_
    refine zx_val (y := nI 0) (lg_cmp_self _) ?_
    refine zf_eq (tgt := 533) hx hb (by omega) dL_law_528 (by decide) (fun c_3 => ?_) (fun c_3 => False.elim (by omega))
    refine lv_goto (tgt := 1543) hx hb dL_law_533 (by decide) ?_
    have hI2 := hI
    have hM2 := hM
    exact kont f1 u2 H locs ls _ _ (by omega) (by omega) ⟨lv_sub hl [2, 3, 4, 5, 6] rfl, hP, hD, hS, _, _, _, _, _, _, _, _, _, _, _, _, _, _, _, _, _, _, _, _, _, _, _, _, _, _, _, _, _, _, _, _, _, _, _, _, _, _, _, _, _, _, hL2, hI2, hm2, hM2⟩
  · obtain ⟨rfl, hK0, E9, hE9⟩ := hp1
    have hm1 := hm
    have hL1 := hL
    have hK3 : (k1b (ix v0 n) (fun t => ix v1 (tr t * le t))) ≤ 3 := zex1_le hE9
    have hP : va_P D vwCl ((o, zOut cA z) :: ws) H := hP
    have hD : va_D (lwA s) ((o, zOut cA z) :: ws) := hD
    obtain ⟨m0_1, -⟩ := id hm1
    refine lv_istore (lv' := [(5, .int (nI ((k1b (ix v0 n) (fun t => ix v1 (tr t * le t)))))), (0, .ref b), (1, .ref (ad 0)), (2, .ref (gd 0)), (3, .ref o), (4, .int (nI (i)))]) hx hb dL_law_485 hl (by decide) rfl (fun ls hl => ?_)
    refine lv_aload_n hx hb dL_law_487 rfl (lv_at hl 3 rfl) ?_
    refine lv_aload_n hx hb dL_law_488 rfl (lv_at hl 1 rfl) ?_
    refine lv_iload hx hb dL_law_489 (lv_at hl 5 rfl) ?_
    refine lv_iconst (v := nI (1)) hx hb dL_law_491 (by decide) ?_
    refine zo_add hx hb dL_law_492 ?_
    refine va_sld hx hb hXs hbl hbA hS (vp_in_nI (show i + 1 < L by omega) (by omega)) dL_law_493 ?_
    rw [nI_clamp (show i + 1 < 2 ^ 31 by omega)]
    refine zx_val (y := v0) (ev0.symm) ?_
    refine lv_aload_n hx hb dL_law_494 rfl (lv_at hl 1 rfl) ?_
    refine lv_iload hx hb dL_law_495 (lv_at hl 5 rfl) ?_
    refine lv_iconst (v := nI (2)) hx hb dL_law_497 (by decide) ?_
    refine zo_add hx hb dL_law_498 ?_
    refine va_sld hx hb hXs hbl hbA hS (vp_in_nI (show i + 2 < L by omega) (by omega)) dL_law_499 ?_
    rw [nI_clamp (show i + 2 < 2 ^ 31 by omega)]
    refine zx_val (y := v1) (ev1.symm) ?_
    refine zq_V_i (n := 2) (mc := 0) (ms := 0) (As := [.int (v0), .int (v1)]) (rest := []) hx hb hml hts hown hZ hP hD hS hA (c_X5_along_no l D cA _ _ hm1 hI hM v0 v1 hK0) gL_law_X5_along rfl rfl ⟨rfl, rfl⟩ ⟨by decide +kernel, (Nat.le_of_ble_eq_true rfl), (Nat.le_of_ble_eq_true rfl)⟩ m0_1 rfl hl.1 rfl (Nat.le_of_ble_eq_true rfl) ⟨by show _ ≤ 601024; omega, by show _ ≤ 7293034; omega⟩ rfl dL_law_500 (fun r2 u2 H locs hp2 hP hD hS hz2 => ?_)
    obtain ⟨hkp2, hm2⟩ := hp2
    have hL2 := zL_keep hL1 hkp2
    obtain ⟨m0_2, -⟩ := id hm2
    have hP : va_P D vwCl ((o, zOut cA z) :: u2) H := hP
    have hD : va_D (lwA s) ((o, zOut cA z) :: u2) := hD
    refine lv_istore (lv' := [(6, .int (r2)), (5, .int (nI ((k1b (ix v0 n) (fun t => ix v1 (tr t * le t)))))), (0, .ref b), (1, .ref (ad 0)), (2, .ref (gd 0)), (3, .ref o), (4, .int (nI (i)))]) hx hb dL_law_503 hl (by decide) rfl (fun ls hl => ?_)
    refine lv_aload_n hx hb dL_law_505 rfl (lv_at hl 4 rfl) ?_
    refine zk_V_i (n := 0) (As := []) (rest := []) hx hb hml hts hown hZ (zq_P hP) (c_X5_thrown l D cA _ hm2) gL_law_X5_thrown rfl rfl ⟨rfl, rfl⟩ ⟨by decide +kernel, (Nat.le_of_ble_eq_true rfl), (Nat.le_of_ble_eq_true rfl)⟩ m0_2 rfl hl.1 rfl (Nat.le_of_ble_eq_true rfl) ⟨by show _ ≤ 601024; omega, by show _ ≤ 7293034; omega⟩ rfl dL_law_506 (fun r3 hr3 => ?_)
    obtain rfl := show r3 = nI ((k1b (ix v0 n) (fun t => ix v1 (tr t * le t)))) from hr3
    refine lv_iload hx hb dL_law_509 (lv_at hl 1 rfl) ?_
    refine zc_eq (tgt := 516) hx hb (by omega) (by omega) dL_law_511 (by decide) (fun c_4 => ?_) (fun c_4 => absurd rfl c_4)
    refine lv_iload hx hb dL_law_516 (lv_at hl 1 rfl) ?_
    refine zf_ne (tgt := 533) hx hb (by omega) dL_law_518 (by decide) (fun c_5 => ?_) (fun c_5 => absurd c_5 hK0)
    refine lv_goto (tgt := 1543) hx hb dL_law_533 (by decide) ?_
    have hI2 := hI
    have hM2 := hM
    exact kont z u2 H locs ls _ _ (by omega) (by omega) ⟨lv_sub hl [2, 3, 4, 5, 6] rfl, hP, hD, hS, _, _, _, _, _, _, _, _, _, _, _, _, _, _, _, _, _, _, _, _, _, _, _, _, _, _, _, _, _, _, _, _, _, _, _, _, _, _, _, _, _, _, hL2, hI2, hm2, hM2⟩

set_option maxHeartbeats 4000000 in
set_option maxRecDepth 100000 in
theorem law_drive (l : Launch) (hlt : l.stackTraces = false) {p : Program} {e : Env} {s : State} {m : MethodId} {below : List Frame} {meth : Method} {c : Code} {Q : State → Prop} {D : va_G} {cA : Nat → ClassId} {b L : Nat} {xs : Nat → Int32} (F9 : lwF p s m c D cA b L xs) (ad gd : Nat → Nat) (o i cells slots : Nat) (hi : i + 4 ≤ L) (hL8 : L ≤ 2048) (hc9 : cells ≤ 600000) (hs9 : slots ≤ 7000000) (kont : lwK p l e s m below meth c Q D cA ad gd o b i cells slots) (z : Nat → Int64) (ws : va_W) (H : Heap) (locs : List Loc) (ls : Array Slot) (hI9 : lwI s D cA ad gd o b i H locs ls z ws) : W p l e room_1 s m #[Value.ref b] below meth c H locs cells slots Q (F0 m 536 ls []) := by
  obtain ⟨hx, hb, hml, hown, hts, hZ, hX, hN, hXs, hbl⟩ := F9
  have hbA : ¬ lwA s b := Nat.not_le.mpr hbl
  have hA : ∀ q : Nat, s.heap.size ≤ q → lwA s q := fun _ h => h
  obtain ⟨hl, hP, hD, hS, hV⟩ := hI9
  obtain ⟨T, Bd, E, PT, PB, PE, n, tr, le, sl, mo, la, fc, bo, nd, mk, ck, ct, hd, pq, nj, fw, jf, dl, dn, oc, s8, s9, s10, s11, s12, sf, bf, pf, jt, fin, my, fls, fod, fle, fro, th, hL, hI, hm, hM⟩ := hV
  have hL0 := hL
  obtain ⟨⟨l22, l23, l24, l25, l26, l27, l28, l29, l30, l31, l32, l33, l34⟩, -⟩ := hL
  have hL := hL0
  obtain ⟨v0, ev0⟩ : ∃ y, y = xs (i + 1) := ⟨_, rfl⟩
  have hl : lv_has ls 7 [(0, .ref b), (1, .ref (ad 0)), (2, .ref (gd 0)), (3, .ref o), (4, .int (nI (i)))] := hl
  refine lv_aload_n hx hb dL_law_536 rfl (lv_at hl 1 rfl) ?_
  refine lv_aload_n hx hb dL_law_537 rfl (lv_at hl 0 rfl) ?_
  refine lv_iload hx hb dL_law_538 (lv_at hl 4 rfl) ?_
  refine lv_iconst (v := nI (1)) hx hb dL_law_540 (by decide) ?_
  refine zo_add hx hb dL_law_541 ?_
  refine va_sld hx hb hXs hbl hbA hS (vp_in_nI (show i + 1 < L by omega) (by omega)) dL_law_542 ?_
  rw [nI_clamp (show i + 1 < 2 ^ 31 by omega)]
  refine zx_val (y := v0) (ev0.symm) ?_
  refine lv_aload_n hx hb dL_law_543 rfl (lv_at hl 3 rfl) ?_
  refine zw_H_i (n := 3) (mc := 1) (ms := 7) (As := [.ref (ad 0), .int (v0), .ref o]) (rest := []) hx hb hml hts hown hZ hX hN hP hD hS hA (c_L_drive l D cA _ _ o z (ad 0) _ l22 _ _ _ _ (kS (ix v0 2) (fun _ => decide (nd < 3))) v0 (fun sz => c_X4_drive l hlt D cA sz ws ad T Bd E PT PB PE n tr le sl mo la fc bo nd mk ck ct hd pq nj fw jf dl dn oc s8 s9 s10 s11 s12 hL hI v0) (fun _ _ h => h)) gL_law_L_drive rfl ⟨rfl, rfl⟩ ⟨by decide +kernel, (Nat.le_of_ble_eq_true rfl), (Nat.le_of_ble_eq_true rfl)⟩ hl.1 rfl (Nat.le_of_ble_eq_true rfl) ⟨by show _ ≤ 601024; omega, by show _ ≤ 7293034; omega⟩ rfl dL_law_544 (fun r1 u1 H locs hp1 hP hD hS hz1 => ?_)
  rcases u1 with ⟨⟨ans, f1⟩, a, w1⟩ | ux
  · obtain ⟨rfl, hf1, hpc⟩ := hp1
    obtain ⟨hn3, ha, hv0, rfl, hkp, E9, PE9, hL1⟩ := hpc
    have hn3 : nd < 3 := hn3
    have ha : a ≤ 1 := ha
    have hv0 : v0 = nI a := hv0
    have hf1 : f1 0 = (nI nd).toInt64 := hf1
    have hkp : zKeep ws w1 := hkp
    have hm1 := mL_keep hm hkp
    have hP : va_P D vwCl ((o, zOut cA f1) :: w1) H := hP
    have hD : va_D (lwA s) ((o, zOut cA f1) :: w1) := hD
    obtain ⟨m0_1, -⟩ := id hm1
    refine lv_istore (lv' := [(5, .int (nI (0))), (0, .ref b), (1, .ref (ad 0)), (2, .ref (gd 0)), (3, .ref o), (4, .int (nI (i)))]) hx hb dL_law_547 hl (by decide) rfl (fun ls hl => ?_)
    refine lv_aload_n hx hb dL_law_549 rfl (lv_at hl 3 rfl) ?_
    refine lv_aload_n hx hb dL_law_550 rfl (lv_at hl 1 rfl) ?_
    refine lv_iload hx hb dL_law_551 (lv_at hl 5 rfl) ?_
    refine lv_iconst (v := nI (1)) hx hb dL_law_553 (by decide) ?_
    refine zo_add hx hb dL_law_554 ?_
    refine va_sld hx hb hXs hbl hbA hS (vp_in_nI (show i + 1 < L by omega) (by omega)) dL_law_555 ?_
    rw [nI_clamp (show i + 1 < 2 ^ 31 by omega)]
    refine zx_val (y := v0) (ev0.symm) ?_
    refine zx_val (y := nI (a)) (hv0) ?_
    refine zq_V_i (n := 1) (mc := 0) (ms := 0) (As := [.int (nI (a))]) (rest := []) hx hb hml hts hown hZ hP hD hS hA (c_X5_drive_ok l D cA _ _ hm1 hI hM a hn3 ha) gL_law_X5_drive rfl rfl ⟨rfl, rfl⟩ ⟨by decide +kernel, (Nat.le_of_ble_eq_true rfl), (Nat.le_of_ble_eq_true rfl)⟩ m0_1 rfl hl.1 rfl (Nat.le_of_ble_eq_true rfl) ⟨by show _ ≤ 601024; omega, by show _ ≤ 7293034; omega⟩ rfl dL_law_556 (fun r2 u2 H locs hp2 hP hD hS hz2 => ?_)
    obtain ⟨rfl, hkp2, hm2⟩ := hp2
    have hL2 := zL_keep hL1 hkp2
    obtain ⟨m0_2, -⟩ := id hm2
    have hP : va_P D vwCl ((o, zOut cA f1) :: u2) H := hP
    have hD : va_D (lwA s) ((o, zOut cA f1) :: u2) := hD
    refine lv_istore (lv' := [(6, .int (nI nd)), (5, .int (nI (0))), (0, .ref b), (1, .ref (ad 0)), (2, .ref (gd 0)), (3, .ref o), (4, .int (nI (i)))]) hx hb dL_law_559 hl (by decide) rfl (fun ls hl => ?_)
    refine lv_aload_n hx hb dL_law_561 rfl (lv_at hl 4 rfl) ?_
    refine zk_V_i (n := 0) (As := []) (rest := []) hx hb hml hts hown hZ (zq_P hP) (c_X5_thrown l D cA _ hm2) gL_law_X5_thrown rfl rfl ⟨rfl, rfl⟩ ⟨by decide +kernel, (Nat.le_of_ble_eq_true rfl), (Nat.le_of_ble_eq_true rfl)⟩ m0_2 rfl hl.1 rfl (Nat.le_of_ble_eq_true rfl) ⟨by show _ ≤ 601024; omega, by show _ ≤ 7293034; omega⟩ rfl dL_law_562 (fun r3 hr3 => ?_)
    obtain rfl := show r3 = nI (0) from hr3
    refine lv_iload hx hb dL_law_565 (lv_at hl 1 rfl) ?_
    refine zc_eq (tgt := 572) hx hb (by omega) (by omega) dL_law_567 (by decide) (fun c_1 => ?_) (fun c_1 => absurd rfl c_1)
    refine lv_iload hx hb dL_law_572 (lv_at hl 1 rfl) ?_
    refine zf_ne (tgt := 589) hx hb (by omega) dL_law_574 (by decide) (fun c_2 => False.elim (by omega)) (fun c_2 => ?_)
    refine lv_aload_n hx hb dL_law_577 rfl (lv_at hl 5 rfl) ?_
    refine lv_iconst (v := nI (0)) hx hb dL_law_578 (by decide) ?_
    refine va_lald hx hb hZ.1 hP 0 4 rfl rfl (vp_in_nI (show 0 < 1 by omega) (by omega)) dL_law_579 ?_
    rw [nI_clamp (show 0 < 2 ^ 31 by omega)]
    refine zx_v (b := .long (nI nd).toInt64) (by rw [hf1]) ?_
    refine lv_iload hx hb dL_law_580 (lv_at hl 0 rfl) ?_
    refine lv_i2l (v := (nI nd).toInt64) hx hb dL_law_582 rfl ?_
    refine W.lcmp hx hb dL_law_583 ?_
    refine zx_val (y := nI 0) (lg_cmp_self _) ?_
    refine zf_eq (tgt := 589) hx hb (by omega) dL_law_584 (by decide) (fun c_3 => ?_) (fun c_3 => False.elim (by omega))
    refine lv_goto (tgt := 1543) hx hb dL_law_589 (by decide) ?_
    rw [va_up_eq (hM.2.1 nd (Nat.le_refl nd)).1, va_up_eq (hM.2.1 nd (Nat.le_refl nd)).2] at hL2
    obtain ⟨hI2, hM2⟩ := I_drive hI hM hn3 ha
    exact kont f1 u2 H locs ls _ _ (by omega) (by omega) ⟨lv_sub hl [2, 3, 4, 5, 6] rfl, hP, hD, hS, _, _, _, _, _, _, _, _, _, _, _, _, _, _, _, _, _, _, _, _, _, _, _, _, _, _, _, _, _, _, _, _, _, _, _, _, _, _, _, _, _, _, hL2, hI2, hm2, hM2⟩
  · obtain ⟨rfl, hK0, E9, hE9⟩ := hp1
    have hm1 := hm
    have hL1 := hL
    have hK3 : (kS (ix v0 2) (fun _ => decide (nd < 3))) ≤ 3 := zexAS_le hE9
    have hP : va_P D vwCl ((o, zOut cA z) :: ws) H := hP
    have hD : va_D (lwA s) ((o, zOut cA z) :: ws) := hD
    obtain ⟨m0_1, -⟩ := id hm1
    refine lv_istore (lv' := [(5, .int (nI ((kS (ix v0 2) (fun _ => decide (nd < 3)))))), (0, .ref b), (1, .ref (ad 0)), (2, .ref (gd 0)), (3, .ref o), (4, .int (nI (i)))]) hx hb dL_law_547 hl (by decide) rfl (fun ls hl => ?_)
    refine lv_aload_n hx hb dL_law_549 rfl (lv_at hl 3 rfl) ?_
    refine lv_aload_n hx hb dL_law_550 rfl (lv_at hl 1 rfl) ?_
    refine lv_iload hx hb dL_law_551 (lv_at hl 5 rfl) ?_
    refine lv_iconst (v := nI (1)) hx hb dL_law_553 (by decide) ?_
    refine zo_add hx hb dL_law_554 ?_
    refine va_sld hx hb hXs hbl hbA hS (vp_in_nI (show i + 1 < L by omega) (by omega)) dL_law_555 ?_
    rw [nI_clamp (show i + 1 < 2 ^ 31 by omega)]
    refine zx_val (y := v0) (ev0.symm) ?_
    refine zq_V_i (n := 1) (mc := 0) (ms := 0) (As := [.int (v0)]) (rest := []) hx hb hml hts hown hZ hP hD hS hA (c_X5_drive_no l D cA _ _ hm1 hI hM v0 hK0) gL_law_X5_drive rfl rfl ⟨rfl, rfl⟩ ⟨by decide +kernel, (Nat.le_of_ble_eq_true rfl), (Nat.le_of_ble_eq_true rfl)⟩ m0_1 rfl hl.1 rfl (Nat.le_of_ble_eq_true rfl) ⟨by show _ ≤ 601024; omega, by show _ ≤ 7293034; omega⟩ rfl dL_law_556 (fun r2 u2 H locs hp2 hP hD hS hz2 => ?_)
    obtain ⟨hkp2, hm2⟩ := hp2
    have hL2 := zL_keep hL1 hkp2
    obtain ⟨m0_2, -⟩ := id hm2
    have hP : va_P D vwCl ((o, zOut cA z) :: u2) H := hP
    have hD : va_D (lwA s) ((o, zOut cA z) :: u2) := hD
    refine lv_istore (lv' := [(6, .int (r2)), (5, .int (nI ((kS (ix v0 2) (fun _ => decide (nd < 3)))))), (0, .ref b), (1, .ref (ad 0)), (2, .ref (gd 0)), (3, .ref o), (4, .int (nI (i)))]) hx hb dL_law_559 hl (by decide) rfl (fun ls hl => ?_)
    refine lv_aload_n hx hb dL_law_561 rfl (lv_at hl 4 rfl) ?_
    refine zk_V_i (n := 0) (As := []) (rest := []) hx hb hml hts hown hZ (zq_P hP) (c_X5_thrown l D cA _ hm2) gL_law_X5_thrown rfl rfl ⟨rfl, rfl⟩ ⟨by decide +kernel, (Nat.le_of_ble_eq_true rfl), (Nat.le_of_ble_eq_true rfl)⟩ m0_2 rfl hl.1 rfl (Nat.le_of_ble_eq_true rfl) ⟨by show _ ≤ 601024; omega, by show _ ≤ 7293034; omega⟩ rfl dL_law_562 (fun r3 hr3 => ?_)
    obtain rfl := show r3 = nI ((kS (ix v0 2) (fun _ => decide (nd < 3)))) from hr3
    refine lv_iload hx hb dL_law_565 (lv_at hl 1 rfl) ?_
    refine zc_eq (tgt := 572) hx hb (by omega) (by omega) dL_law_567 (by decide) (fun c_4 => ?_) (fun c_4 => absurd rfl c_4)
    refine lv_iload hx hb dL_law_572 (lv_at hl 1 rfl) ?_
    refine zf_ne (tgt := 589) hx hb (by omega) dL_law_574 (by decide) (fun c_5 => ?_) (fun c_5 => absurd c_5 hK0)
    refine lv_goto (tgt := 1543) hx hb dL_law_589 (by decide) ?_
    have hI2 := hI
    have hM2 := hM
    exact kont z u2 H locs ls _ _ (by omega) (by omega) ⟨lv_sub hl [2, 3, 4, 5, 6] rfl, hP, hD, hS, _, _, _, _, _, _, _, _, _, _, _, _, _, _, _, _, _, _, _, _, _, _, _, _, _, _, _, _, _, _, _, _, _, _, _, _, _, _, _, _, _, _, hL2, hI2, hm2, hM2⟩

set_option maxHeartbeats 4000000 in
set_option maxRecDepth 100000 in
theorem law_mount (l : Launch) (hlt : l.stackTraces = false) {p : Program} {e : Env} {s : State} {m : MethodId} {below : List Frame} {meth : Method} {c : Code} {Q : State → Prop} {D : va_G} {cA : Nat → ClassId} {b L : Nat} {xs : Nat → Int32} (F9 : lwF p s m c D cA b L xs) (ad gd : Nat → Nat) (o i cells slots : Nat) (hi : i + 4 ≤ L) (hL8 : L ≤ 2048) (hc9 : cells ≤ 600000) (hs9 : slots ≤ 7000000) (kont : lwK p l e s m below meth c Q D cA ad gd o b i cells slots) (z : Nat → Int64) (ws : va_W) (H : Heap) (locs : List Loc) (ls : Array Slot) (hI9 : lwI s D cA ad gd o b i H locs ls z ws) : W p l e room_1 s m #[Value.ref b] below meth c H locs cells slots Q (F0 m 592 ls []) := by
  obtain ⟨hx, hb, hml, hown, hts, hZ, hX, hN, hXs, hbl⟩ := F9
  have hbA : ¬ lwA s b := Nat.not_le.mpr hbl
  have hA : ∀ q : Nat, s.heap.size ≤ q → lwA s q := fun _ h => h
  obtain ⟨hl, hP, hD, hS, hV⟩ := hI9
  obtain ⟨T, Bd, E, PT, PB, PE, n, tr, le, sl, mo, la, fc, bo, nd, mk, ck, ct, hd, pq, nj, fw, jf, dl, dn, oc, s8, s9, s10, s11, s12, sf, bf, pf, jt, fin, my, fls, fod, fle, fro, th, hL, hI, hm, hM⟩ := hV
  have hL0 := hL
  obtain ⟨⟨l22, l23, l24, l25, l26, l27, l28, l29, l30, l31, l32, l33, l34⟩, -⟩ := hL
  have hL := hL0
  obtain ⟨v0, ev0⟩ : ∃ y, y = xs (i + 1) := ⟨_, rfl⟩
  obtain ⟨v1, ev1⟩ : ∃ y, y = xs (i + 2) := ⟨_, rfl⟩
  have hl : lv_has ls 7 [(0, .ref b), (1, .ref (ad 0)), (2, .ref (gd 0)), (3, .ref o), (4, .int (nI (i)))] := hl
  refine lv_aload_n hx hb dL_law_592 rfl (lv_at hl 1 rfl) ?_
  refine lv_aload_n hx hb dL_law_593 rfl (lv_at hl 0 rfl) ?_
  refine lv_iload hx hb dL_law_594 (lv_at hl 4 rfl) ?_
  refine lv_iconst (v := nI (1)) hx hb dL_law_596 (by decide) ?_
  refine zo_add hx hb dL_law_597 ?_
  refine va_sld hx hb hXs hbl hbA hS (vp_in_nI (show i + 1 < L by omega) (by omega)) dL_law_598 ?_
  rw [nI_clamp (show i + 1 < 2 ^ 31 by omega)]
  refine zx_val (y := v0) (ev0.symm) ?_
  refine lv_aload_n hx hb dL_law_599 rfl (lv_at hl 0 rfl) ?_
  refine lv_iload hx hb dL_law_600 (lv_at hl 4 rfl) ?_
  refine lv_iconst (v := nI (2)) hx hb dL_law_602 (by decide) ?_
  refine zo_add hx hb dL_law_603 ?_
  refine va_sld hx hb hXs hbl hbA hS (vp_in_nI (show i + 2 < L by omega) (by omega)) dL_law_604 ?_
  rw [nI_clamp (show i + 2 < 2 ^ 31 by omega)]
  refine zx_val (y := v1) (ev1.symm) ?_
  refine lv_aload_n hx hb dL_law_605 rfl (lv_at hl 3 rfl) ?_
  refine zw_H_i (n := 4) (mc := 3) (ms := 18) (As := [.ref (ad 0), .int (v0), .int (v1), .ref o]) (rest := []) hx hb hml hts hown hZ hX hN hP hD hS hA (c_L_mount l D cA _ _ o z (ad 0) _ l22 _ _ _ _ (k2 (ix v0 nd) (ix v1 n) (fun j t => (hd j).isNone && !(mo t).isSome && la t)) v0 v1 (fun sz => c_X4_mount l hlt D cA sz ws ad T Bd E PT PB PE n tr le sl mo la fc bo nd mk ck ct hd pq nj fw jf dl dn oc s8 s9 s10 s11 s12 hL hI v0 v1) (fun _ _ h => h)) gL_law_L_mount rfl ⟨rfl, rfl⟩ ⟨by decide +kernel, (Nat.le_of_ble_eq_true rfl), (Nat.le_of_ble_eq_true rfl)⟩ hl.1 rfl (Nat.le_of_ble_eq_true rfl) ⟨by show _ ≤ 601024; omega, by show _ ≤ 7293034; omega⟩ rfl dL_law_606 (fun r1 u1 H locs hp1 hP hD hS hz1 => ?_)
  rcases u1 with ⟨⟨ans, f1⟩, j, t, w1⟩ | ux
  · obtain ⟨rfl, hf1, hpc⟩ := hp1
    obtain ⟨hjn, hv0, htn, hv1, ⟨hhj, hmt, hla⟩, rfl, hkp, hL1⟩ := hpc
    have hjn : j < nd := hjn
    have hv0 : v0 = nI j := hv0
    have htn : t < n := htn
    have hv1 : v1 = nI t := hv1
    have hhj : hd j = none := hhj
    have hmt : mo t = none := hmt
    have hla : la t = true := hla
    have hf1 : f1 0 = (nI (20 + 2 * dif (4 * j) (sl t))).toInt64 := hf1
    have hkp : zKeep ws w1 := hkp
    have hm1 := mL_keep hm hkp
    have hP : va_P D vwCl ((o, zOut cA f1) :: w1) H := hP
    have hD : va_D (lwA s) ((o, zOut cA f1) :: w1) := hD
    obtain ⟨m0_1, -⟩ := id hm1
    refine lv_istore (lv' := [(5, .int (nI (0))), (0, .ref b), (1, .ref (ad 0)), (2, .ref (gd 0)), (3, .ref o), (4, .int (nI (i)))]) hx hb dL_law_609 hl (by decide) rfl (fun ls hl => ?_)
    refine lv_aload_n hx hb dL_law_611 rfl (lv_at hl 3 rfl) ?_
    refine lv_aload_n hx hb dL_law_612 rfl (lv_at hl 1 rfl) ?_
    refine lv_iload hx hb dL_law_613 (lv_at hl 5 rfl) ?_
    refine lv_iconst (v := nI (1)) hx hb dL_law_615 (by decide) ?_
    refine zo_add hx hb dL_law_616 ?_
    refine va_sld hx hb hXs hbl hbA hS (vp_in_nI (show i + 1 < L by omega) (by omega)) dL_law_617 ?_
    rw [nI_clamp (show i + 1 < 2 ^ 31 by omega)]
    refine zx_val (y := v0) (ev0.symm) ?_
    refine zx_val (y := nI (j)) (hv0) ?_
    refine lv_aload_n hx hb dL_law_618 rfl (lv_at hl 1 rfl) ?_
    refine lv_iload hx hb dL_law_619 (lv_at hl 5 rfl) ?_
    refine lv_iconst (v := nI (2)) hx hb dL_law_621 (by decide) ?_
    refine zo_add hx hb dL_law_622 ?_
    refine va_sld hx hb hXs hbl hbA hS (vp_in_nI (show i + 2 < L by omega) (by omega)) dL_law_623 ?_
    rw [nI_clamp (show i + 2 < 2 ^ 31 by omega)]
    refine zx_val (y := v1) (ev1.symm) ?_
    refine zx_val (y := nI (t)) (hv1) ?_
    refine zq_V_i (n := 2) (mc := 0) (ms := 0) (As := [.int (nI (j)), .int (nI (t))]) (rest := []) hx hb hml hts hown hZ hP hD hS hA (c_X5_mount_ok l D cA _ _ hm1 hI hM j t hjn htn hhj hmt hla) gL_law_X5_mount rfl rfl ⟨rfl, rfl⟩ ⟨by decide +kernel, (Nat.le_of_ble_eq_true rfl), (Nat.le_of_ble_eq_true rfl)⟩ m0_1 rfl hl.1 rfl (Nat.le_of_ble_eq_true rfl) ⟨by show _ ≤ 601024; omega, by show _ ≤ 7293034; omega⟩ rfl dL_law_624 (fun r2 u2 H locs hp2 hP hD hS hz2 => ?_)
    obtain ⟨rfl, hkp2, hm2⟩ := hp2
    have hL2 := zL_keep hL1 hkp2
    obtain ⟨m0_2, -⟩ := id hm2
    have hP : va_P D vwCl ((o, zOut cA f1) :: u2) H := hP
    have hD : va_D (lwA s) ((o, zOut cA f1) :: u2) := hD
    refine lv_istore (lv' := [(6, .int (nI (20 + 2 * dif (4 * j) (sl t)))), (5, .int (nI (0))), (0, .ref b), (1, .ref (ad 0)), (2, .ref (gd 0)), (3, .ref o), (4, .int (nI (i)))]) hx hb dL_law_627 hl (by decide) rfl (fun ls hl => ?_)
    refine lv_aload_n hx hb dL_law_629 rfl (lv_at hl 4 rfl) ?_
    refine zk_V_i (n := 0) (As := []) (rest := []) hx hb hml hts hown hZ (zq_P hP) (c_X5_thrown l D cA _ hm2) gL_law_X5_thrown rfl rfl ⟨rfl, rfl⟩ ⟨by decide +kernel, (Nat.le_of_ble_eq_true rfl), (Nat.le_of_ble_eq_true rfl)⟩ m0_2 rfl hl.1 rfl (Nat.le_of_ble_eq_true rfl) ⟨by show _ ≤ 601024; omega, by show _ ≤ 7293034; omega⟩ rfl dL_law_630 (fun r3 hr3 => ?_)
    obtain rfl := show r3 = nI (0) from hr3
    refine lv_iload hx hb dL_law_633 (lv_at hl 1 rfl) ?_
    refine zc_eq (tgt := 640) hx hb (by omega) (by omega) dL_law_635 (by decide) (fun c_1 => ?_) (fun c_1 => absurd rfl c_1)
    refine lv_iload hx hb dL_law_640 (lv_at hl 1 rfl) ?_
    refine zf_ne (tgt := 657) hx hb (by omega) dL_law_642 (by decide) (fun c_2 => False.elim (by omega)) (fun c_2 => ?_)
    refine lv_aload_n hx hb dL_law_645 rfl (lv_at hl 5 rfl) ?_
    refine lv_iconst (v := nI (0)) hx hb dL_law_646 (by decide) ?_
    refine va_lald hx hb hZ.1 hP 0 4 rfl rfl (vp_in_nI (show 0 < 1 by omega) (by omega)) dL_law_647 ?_
    rw [nI_clamp (show 0 < 2 ^ 31 by omega)]
    refine zx_v (b := .long (nI (20 + 2 * dif (4 * j) (sl t))).toInt64) (by rw [hf1]) ?_
    refine lv_iload hx hb dL_law_648 (lv_at hl 0 rfl) ?_
    refine lv_i2l (v := (nI (20 + 2 * dif (4 * j) (sl t))).toInt64) hx hb dL_law_650 rfl ?_
    refine W.lcmp hx hb dL_law_651 ?_
    refine zx_val (y := nI 0) (lg_cmp_self _) ?_
    refine zf_eq (tgt := 657) hx hb (by omega) dL_law_652 (by decide) (fun c_3 => ?_) (fun c_3 => False.elim (by omega))
    refine lv_goto (tgt := 1543) hx hb dL_law_657 (by decide) ?_
    obtain ⟨hI2, hM2⟩ := I_mount (c9 := ck j + nI (20 + 2 * dif (4 * j) (sl t))) hI hM hjn htn hhj hmt
    exact kont f1 u2 H locs ls _ _ (by omega) (by omega) ⟨lv_sub hl [2, 3, 4, 5, 6] rfl, hP, hD, hS, _, _, _, _, _, _, _, _, _, _, _, _, _, _, _, _, _, _, _, _, _, _, _, _, _, _, _, _, _, _, _, _, _, _, _, _, _, _, _, _, _, _, hL2, hI2, hm2, hM2⟩
  · obtain ⟨rfl, hK0, E9, hE9⟩ := hp1
    have hm1 := hm
    have hL1 := hL
    have hK3 : (k2 (ix v0 nd) (ix v1 n) (fun j t => (hd j).isNone && !(mo t).isSome && la t)) ≤ 3 := zexIS_le hE9
    have hP : va_P D vwCl ((o, zOut cA z) :: ws) H := hP
    have hD : va_D (lwA s) ((o, zOut cA z) :: ws) := hD
    obtain ⟨m0_1, -⟩ := id hm1
    refine lv_istore (lv' := [(5, .int (nI ((k2 (ix v0 nd) (ix v1 n) (fun j t => (hd j).isNone && !(mo t).isSome && la t))))), (0, .ref b), (1, .ref (ad 0)), (2, .ref (gd 0)), (3, .ref o), (4, .int (nI (i)))]) hx hb dL_law_609 hl (by decide) rfl (fun ls hl => ?_)
    refine lv_aload_n hx hb dL_law_611 rfl (lv_at hl 3 rfl) ?_
    refine lv_aload_n hx hb dL_law_612 rfl (lv_at hl 1 rfl) ?_
    refine lv_iload hx hb dL_law_613 (lv_at hl 5 rfl) ?_
    refine lv_iconst (v := nI (1)) hx hb dL_law_615 (by decide) ?_
    refine zo_add hx hb dL_law_616 ?_
    refine va_sld hx hb hXs hbl hbA hS (vp_in_nI (show i + 1 < L by omega) (by omega)) dL_law_617 ?_
    rw [nI_clamp (show i + 1 < 2 ^ 31 by omega)]
    refine zx_val (y := v0) (ev0.symm) ?_
    refine lv_aload_n hx hb dL_law_618 rfl (lv_at hl 1 rfl) ?_
    refine lv_iload hx hb dL_law_619 (lv_at hl 5 rfl) ?_
    refine lv_iconst (v := nI (2)) hx hb dL_law_621 (by decide) ?_
    refine zo_add hx hb dL_law_622 ?_
    refine va_sld hx hb hXs hbl hbA hS (vp_in_nI (show i + 2 < L by omega) (by omega)) dL_law_623 ?_
    rw [nI_clamp (show i + 2 < 2 ^ 31 by omega)]
    refine zx_val (y := v1) (ev1.symm) ?_
    refine zq_V_i (n := 2) (mc := 0) (ms := 0) (As := [.int (v0), .int (v1)]) (rest := []) hx hb hml hts hown hZ hP hD hS hA (c_X5_mount_no l D cA _ _ hm1 hI hM v0 v1 hK0) gL_law_X5_mount rfl rfl ⟨rfl, rfl⟩ ⟨by decide +kernel, (Nat.le_of_ble_eq_true rfl), (Nat.le_of_ble_eq_true rfl)⟩ m0_1 rfl hl.1 rfl (Nat.le_of_ble_eq_true rfl) ⟨by show _ ≤ 601024; omega, by show _ ≤ 7293034; omega⟩ rfl dL_law_624 (fun r2 u2 H locs hp2 hP hD hS hz2 => ?_)
    obtain ⟨hkp2, hm2⟩ := hp2
    have hL2 := zL_keep hL1 hkp2
    obtain ⟨m0_2, -⟩ := id hm2
    have hP : va_P D vwCl ((o, zOut cA z) :: u2) H := hP
    have hD : va_D (lwA s) ((o, zOut cA z) :: u2) := hD
    refine lv_istore (lv' := [(6, .int (r2)), (5, .int (nI ((k2 (ix v0 nd) (ix v1 n) (fun j t => (hd j).isNone && !(mo t).isSome && la t))))), (0, .ref b), (1, .ref (ad 0)), (2, .ref (gd 0)), (3, .ref o), (4, .int (nI (i)))]) hx hb dL_law_627 hl (by decide) rfl (fun ls hl => ?_)
    refine lv_aload_n hx hb dL_law_629 rfl (lv_at hl 4 rfl) ?_
    refine zk_V_i (n := 0) (As := []) (rest := []) hx hb hml hts hown hZ (zq_P hP) (c_X5_thrown l D cA _ hm2) gL_law_X5_thrown rfl rfl ⟨rfl, rfl⟩ ⟨by decide +kernel, (Nat.le_of_ble_eq_true rfl), (Nat.le_of_ble_eq_true rfl)⟩ m0_2 rfl hl.1 rfl (Nat.le_of_ble_eq_true rfl) ⟨by show _ ≤ 601024; omega, by show _ ≤ 7293034; omega⟩ rfl dL_law_630 (fun r3 hr3 => ?_)
    obtain rfl := show r3 = nI ((k2 (ix v0 nd) (ix v1 n) (fun j t => (hd j).isNone && !(mo t).isSome && la t))) from hr3
    refine lv_iload hx hb dL_law_633 (lv_at hl 1 rfl) ?_
    refine zc_eq (tgt := 640) hx hb (by omega) (by omega) dL_law_635 (by decide) (fun c_4 => ?_) (fun c_4 => absurd rfl c_4)
    refine lv_iload hx hb dL_law_640 (lv_at hl 1 rfl) ?_
    refine zf_ne (tgt := 657) hx hb (by omega) dL_law_642 (by decide) (fun c_5 => ?_) (fun c_5 => absurd c_5 hK0)
    refine lv_goto (tgt := 1543) hx hb dL_law_657 (by decide) ?_
    have hI2 := hI
    have hM2 := hM
    exact kont z u2 H locs ls _ _ (by omega) (by omega) ⟨lv_sub hl [2, 3, 4, 5, 6] rfl, hP, hD, hS, _, _, _, _, _, _, _, _, _, _, _, _, _, _, _, _, _, _, _, _, _, _, _, _, _, _, _, _, _, _, _, _, _, _, _, _, _, _, _, _, _, _, hL2, hI2, hm2, hM2⟩

set_option maxHeartbeats 4000000 in
set_option maxRecDepth 100000 in
theorem law_unmount (l : Launch) (hlt : l.stackTraces = false) {p : Program} {e : Env} {s : State} {m : MethodId} {below : List Frame} {meth : Method} {c : Code} {Q : State → Prop} {D : va_G} {cA : Nat → ClassId} {b L : Nat} {xs : Nat → Int32} (F9 : lwF p s m c D cA b L xs) (ad gd : Nat → Nat) (o i cells slots : Nat) (hi : i + 4 ≤ L) (hL8 : L ≤ 2048) (hc9 : cells ≤ 600000) (hs9 : slots ≤ 7000000) (kont : lwK p l e s m below meth c Q D cA ad gd o b i cells slots) (z : Nat → Int64) (ws : va_W) (H : Heap) (locs : List Loc) (ls : Array Slot) (hI9 : lwI s D cA ad gd o b i H locs ls z ws) : W p l e room_1 s m #[Value.ref b] below meth c H locs cells slots Q (F0 m 660 ls []) := by
  obtain ⟨hx, hb, hml, hown, hts, hZ, hX, hN, hXs, hbl⟩ := F9
  have hbA : ¬ lwA s b := Nat.not_le.mpr hbl
  have hA : ∀ q : Nat, s.heap.size ≤ q → lwA s q := fun _ h => h
  obtain ⟨hl, hP, hD, hS, hV⟩ := hI9
  obtain ⟨T, Bd, E, PT, PB, PE, n, tr, le, sl, mo, la, fc, bo, nd, mk, ck, ct, hd, pq, nj, fw, jf, dl, dn, oc, s8, s9, s10, s11, s12, sf, bf, pf, jt, fin, my, fls, fod, fle, fro, th, hL, hI, hm, hM⟩ := hV
  have hL0 := hL
  obtain ⟨⟨l22, l23, l24, l25, l26, l27, l28, l29, l30, l31, l32, l33, l34⟩, -⟩ := hL
  have hL := hL0
  obtain ⟨v0, ev0⟩ : ∃ y, y = xs (i + 1) := ⟨_, rfl⟩
  have hl : lv_has ls 7 [(0, .ref b), (1, .ref (ad 0)), (2, .ref (gd 0)), (3, .ref o), (4, .int (nI (i)))] := hl
  refine lv_aload_n hx hb dL_law_660 rfl (lv_at hl 1 rfl) ?_
  refine lv_aload_n hx hb dL_law_661 rfl (lv_at hl 0 rfl) ?_
  refine lv_iload hx hb dL_law_662 (lv_at hl 4 rfl) ?_
  refine lv_iconst (v := nI (1)) hx hb dL_law_664 (by decide) ?_
  refine zo_add hx hb dL_law_665 ?_
  refine va_sld hx hb hXs hbl hbA hS (vp_in_nI (show i + 1 < L by omega) (by omega)) dL_law_666 ?_
  rw [nI_clamp (show i + 1 < 2 ^ 31 by omega)]
  refine zx_val (y := v0) (ev0.symm) ?_
  refine lv_aload_n hx hb dL_law_667 rfl (lv_at hl 3 rfl) ?_
  refine zw_H_i (n := 3) (mc := 2) (ms := 12) (As := [.ref (ad 0), .int (v0), .ref o]) (rest := []) hx hb hml hts hown hZ hX hN hP hD hS hA (c_L_unmount l D cA _ _ o z (ad 0) _ l22 _ _ _ _ (kS (ix v0 nd) (fun j => (hd j).isSome)) v0 (fun sz => c_X4_unmount l hlt D cA sz ws ad T Bd E PT PB PE n tr le sl mo la fc bo nd mk ck ct hd pq nj fw jf dl dn oc s8 s9 s10 s11 s12 hL hI v0) (fun _ _ h => h)) gL_law_L_unmount rfl ⟨rfl, rfl⟩ ⟨by decide +kernel, (Nat.le_of_ble_eq_true rfl), (Nat.le_of_ble_eq_true rfl)⟩ hl.1 rfl (Nat.le_of_ble_eq_true rfl) ⟨by show _ ≤ 601024; omega, by show _ ≤ 7293034; omega⟩ rfl dL_law_668 (fun r1 u1 H locs hp1 hP hD hS hz1 => ?_)
  rcases u1 with ⟨⟨ans, f1⟩, j, t, P, w1⟩ | ux
  · obtain ⟨rfl, hf1, hpc⟩ := hp1
    obtain ⟨hjn, hv0, hht, hpq, hP16, rfl, hkp, hL1⟩ := hpc
    have hjn : j < nd := hjn
    have hv0 : v0 = nI j := hv0
    have hht : hd j = some t := hht
    have hpq : pq j = nI P := hpq
    have hP16 : P ≤ 1600 := hP16
    have hf1 : f1 0 = (nI (wayT (zpa (mk j)) (zsp (mk j)) (tr t) (le t) P 0 + (20 + 2 * dif (4 * j) (sl t)))).toInt64 := hf1
    have hkp : zKeep ws w1 := hkp
    have hm1 := mL_keep hm hkp
    have hP : va_P D vwCl ((o, zOut cA f1) :: w1) H := hP
    have hD : va_D (lwA s) ((o, zOut cA f1) :: w1) := hD
    obtain ⟨m0_1, -⟩ := id hm1
    have hP9 := pq_le hI hjn hht hpq hP16
    refine lv_istore (lv' := [(5, .int (nI (0))), (0, .ref b), (1, .ref (ad 0)), (2, .ref (gd 0)), (3, .ref o), (4, .int (nI (i)))]) hx hb dL_law_671 hl (by decide) rfl (fun ls hl => ?_)
    refine lv_aload_n hx hb dL_law_673 rfl (lv_at hl 3 rfl) ?_
    refine lv_aload_n hx hb dL_law_674 rfl (lv_at hl 1 rfl) ?_
    refine lv_iload hx hb dL_law_675 (lv_at hl 5 rfl) ?_
    refine lv_iconst (v := nI (1)) hx hb dL_law_677 (by decide) ?_
    refine zo_add hx hb dL_law_678 ?_
    refine va_sld hx hb hXs hbl hbA hS (vp_in_nI (show i + 1 < L by omega) (by omega)) dL_law_679 ?_
    rw [nI_clamp (show i + 1 < 2 ^ 31 by omega)]
    refine zx_val (y := v0) (ev0.symm) ?_
    refine zx_val (y := nI (j)) (hv0) ?_
    refine zq_V_i (n := 1) (mc := 0) (ms := 0) (As := [.int (nI (j))]) (rest := []) hx hb hml hts hown hZ hP hD hS hA (c_X5_unmount_ok l D cA _ _ hm1 hI hM j t P hjn hht hpq hP9) gL_law_X5_unmount rfl rfl ⟨rfl, rfl⟩ ⟨by decide +kernel, (Nat.le_of_ble_eq_true rfl), (Nat.le_of_ble_eq_true rfl)⟩ m0_1 rfl hl.1 rfl (Nat.le_of_ble_eq_true rfl) ⟨by show _ ≤ 601024; omega, by show _ ≤ 7293034; omega⟩ rfl dL_law_680 (fun r2 u2 H locs hp2 hP hD hS hz2 => ?_)
    obtain ⟨rfl, hkp2, hm2⟩ := hp2
    have hL2 := zL_keep hL1 hkp2
    obtain ⟨m0_2, -⟩ := id hm2
    have hP : va_P D vwCl ((o, zOut cA f1) :: u2) H := hP
    have hD : va_D (lwA s) ((o, zOut cA f1) :: u2) := hD
    refine lv_istore (lv' := [(6, .int (nI (wayT (zpa (mk j)) (zsp (mk j)) (tr t) (le t) P 0 + (20 + 2 * dif (4 * j) (sl t))))), (5, .int (nI (0))), (0, .ref b), (1, .ref (ad 0)), (2, .ref (gd 0)), (3, .ref o), (4, .int (nI (i)))]) hx hb dL_law_683 hl (by decide) rfl (fun ls hl => ?_)
    refine lv_aload_n hx hb dL_law_685 rfl (lv_at hl 4 rfl) ?_
    refine zk_V_i (n := 0) (As := []) (rest := []) hx hb hml hts hown hZ (zq_P hP) (c_X5_thrown l D cA _ hm2) gL_law_X5_thrown rfl rfl ⟨rfl, rfl⟩ ⟨by decide +kernel, (Nat.le_of_ble_eq_true rfl), (Nat.le_of_ble_eq_true rfl)⟩ m0_2 rfl hl.1 rfl (Nat.le_of_ble_eq_true rfl) ⟨by show _ ≤ 601024; omega, by show _ ≤ 7293034; omega⟩ rfl dL_law_686 (fun r3 hr3 => ?_)
    obtain rfl := show r3 = nI (0) from hr3
    refine lv_iload hx hb dL_law_689 (lv_at hl 1 rfl) ?_
    refine zc_eq (tgt := 696) hx hb (by omega) (by omega) dL_law_691 (by decide) (fun c_1 => ?_) (fun c_1 => absurd rfl c_1)
    refine lv_iload hx hb dL_law_696 (lv_at hl 1 rfl) ?_
    refine zf_ne (tgt := 713) hx hb (by omega) dL_law_698 (by decide) (fun c_2 => False.elim (by omega)) (fun c_2 => ?_)
    refine lv_aload_n hx hb dL_law_701 rfl (lv_at hl 5 rfl) ?_
    refine lv_iconst (v := nI (0)) hx hb dL_law_702 (by decide) ?_
    refine va_lald hx hb hZ.1 hP 0 4 rfl rfl (vp_in_nI (show 0 < 1 by omega) (by omega)) dL_law_703 ?_
    rw [nI_clamp (show 0 < 2 ^ 31 by omega)]
    refine zx_v (b := .long (nI (wayT (zpa (mk j)) (zsp (mk j)) (tr t) (le t) P 0 + (20 + 2 * dif (4 * j) (sl t)))).toInt64) (by rw [hf1]) ?_
    refine lv_iload hx hb dL_law_704 (lv_at hl 0 rfl) ?_
    refine lv_i2l (v := (nI (wayT (zpa (mk j)) (zsp (mk j)) (tr t) (le t) P 0 + (20 + 2 * dif (4 * j) (sl t)))).toInt64) hx hb dL_law_706 rfl ?_
    refine W.lcmp hx hb dL_law_707 ?_
    refine zx_val (y := nI 0) (lg_cmp_self _) ?_
    refine zf_eq (tgt := 713) hx hb (by omega) dL_law_708 (by decide) (fun c_3 => ?_) (fun c_3 => False.elim (by omega))
    refine lv_goto (tgt := 1543) hx hb dL_law_713 (by decide) ?_
    obtain ⟨hI2, hM2⟩ := I_unmount (c9 := ck j + nI (wayT (zpa (mk j)) (zsp (mk j)) (tr t) (le t) P 0 + (20 + 2 * dif (4 * j) (sl t)))) hI hM hjn hht
    exact kont f1 u2 H locs ls _ _ (by omega) (by omega) ⟨lv_sub hl [2, 3, 4, 5, 6] rfl, hP, hD, hS, _, _, _, _, _, _, _, _, _, _, _, _, _, _, _, _, _, _, _, _, _, _, _, _, _, _, _, _, _, _, _, _, _, _, _, _, _, _, _, _, _, _, hL2, hI2, hm2, hM2⟩
  · obtain ⟨rfl, hK0, E9, hE9⟩ := hp1
    have hm1 := hm
    have hL1 := hL
    have hK3 : (kS (ix v0 nd) (fun j => (hd j).isSome)) ≤ 3 := zexIS_le hE9
    have hP : va_P D vwCl ((o, zOut cA z) :: ws) H := hP
    have hD : va_D (lwA s) ((o, zOut cA z) :: ws) := hD
    obtain ⟨m0_1, -⟩ := id hm1
    refine lv_istore (lv' := [(5, .int (nI ((kS (ix v0 nd) (fun j => (hd j).isSome))))), (0, .ref b), (1, .ref (ad 0)), (2, .ref (gd 0)), (3, .ref o), (4, .int (nI (i)))]) hx hb dL_law_671 hl (by decide) rfl (fun ls hl => ?_)
    refine lv_aload_n hx hb dL_law_673 rfl (lv_at hl 3 rfl) ?_
    refine lv_aload_n hx hb dL_law_674 rfl (lv_at hl 1 rfl) ?_
    refine lv_iload hx hb dL_law_675 (lv_at hl 5 rfl) ?_
    refine lv_iconst (v := nI (1)) hx hb dL_law_677 (by decide) ?_
    refine zo_add hx hb dL_law_678 ?_
    refine va_sld hx hb hXs hbl hbA hS (vp_in_nI (show i + 1 < L by omega) (by omega)) dL_law_679 ?_
    rw [nI_clamp (show i + 1 < 2 ^ 31 by omega)]
    refine zx_val (y := v0) (ev0.symm) ?_
    refine zq_V_i (n := 1) (mc := 0) (ms := 0) (As := [.int (v0)]) (rest := []) hx hb hml hts hown hZ hP hD hS hA (c_X5_unmount_no l D cA _ _ hm1 hI hM v0 hK0) gL_law_X5_unmount rfl rfl ⟨rfl, rfl⟩ ⟨by decide +kernel, (Nat.le_of_ble_eq_true rfl), (Nat.le_of_ble_eq_true rfl)⟩ m0_1 rfl hl.1 rfl (Nat.le_of_ble_eq_true rfl) ⟨by show _ ≤ 601024; omega, by show _ ≤ 7293034; omega⟩ rfl dL_law_680 (fun r2 u2 H locs hp2 hP hD hS hz2 => ?_)
    obtain ⟨hkp2, hm2⟩ := hp2
    have hL2 := zL_keep hL1 hkp2
    obtain ⟨m0_2, -⟩ := id hm2
    have hP : va_P D vwCl ((o, zOut cA z) :: u2) H := hP
    have hD : va_D (lwA s) ((o, zOut cA z) :: u2) := hD
    refine lv_istore (lv' := [(6, .int (r2)), (5, .int (nI ((kS (ix v0 nd) (fun j => (hd j).isSome))))), (0, .ref b), (1, .ref (ad 0)), (2, .ref (gd 0)), (3, .ref o), (4, .int (nI (i)))]) hx hb dL_law_683 hl (by decide) rfl (fun ls hl => ?_)
    refine lv_aload_n hx hb dL_law_685 rfl (lv_at hl 4 rfl) ?_
    refine zk_V_i (n := 0) (As := []) (rest := []) hx hb hml hts hown hZ (zq_P hP) (c_X5_thrown l D cA _ hm2) gL_law_X5_thrown rfl rfl ⟨rfl, rfl⟩ ⟨by decide +kernel, (Nat.le_of_ble_eq_true rfl), (Nat.le_of_ble_eq_true rfl)⟩ m0_2 rfl hl.1 rfl (Nat.le_of_ble_eq_true rfl) ⟨by show _ ≤ 601024; omega, by show _ ≤ 7293034; omega⟩ rfl dL_law_686 (fun r3 hr3 => ?_)
    obtain rfl := show r3 = nI ((kS (ix v0 nd) (fun j => (hd j).isSome))) from hr3
    refine lv_iload hx hb dL_law_689 (lv_at hl 1 rfl) ?_
    refine zc_eq (tgt := 696) hx hb (by omega) (by omega) dL_law_691 (by decide) (fun c_4 => ?_) (fun c_4 => absurd rfl c_4)
    refine lv_iload hx hb dL_law_696 (lv_at hl 1 rfl) ?_
    refine zf_ne (tgt := 713) hx hb (by omega) dL_law_698 (by decide) (fun c_5 => ?_) (fun c_5 => absurd c_5 hK0)
    refine lv_goto (tgt := 1543) hx hb dL_law_713 (by decide) ?_
    have hI2 := hI
    have hM2 := hM
    exact kont z u2 H locs ls _ _ (by omega) (by omega) ⟨lv_sub hl [2, 3, 4, 5, 6] rfl, hP, hD, hS, _, _, _, _, _, _, _, _, _, _, _, _, _, _, _, _, _, _, _, _, _, _, _, _, _, _, _, _, _, _, _, _, _, _, _, _, _, _, _, _, _, _, hL2, hI2, hm2, hM2⟩

set_option maxHeartbeats 4000000 in
set_option maxRecDepth 100000 in
theorem law_write (l : Launch) (hlt : l.stackTraces = false) {p : Program} {e : Env} {s : State} {m : MethodId} {below : List Frame} {meth : Method} {c : Code} {Q : State → Prop} {D : va_G} {cA : Nat → ClassId} {b L : Nat} {xs : Nat → Int32} (F9 : lwF p s m c D cA b L xs) (ad gd : Nat → Nat) (o i cells slots : Nat) (hi : i + 4 ≤ L) (hL8 : L ≤ 2048) (hc9 : cells ≤ 600000) (hs9 : slots ≤ 7000000) (kont : lwK p l e s m below meth c Q D cA ad gd o b i cells slots) (z : Nat → Int64) (ws : va_W) (H : Heap) (locs : List Loc) (ls : Array Slot) (hI9 : lwI s D cA ad gd o b i H locs ls z ws) : W p l e room_1 s m #[Value.ref b] below meth c H locs cells slots Q (F0 m 716 ls []) := by
  obtain ⟨hx, hb, hml, hown, hts, hZ, hX, hN, hXs, hbl⟩ := F9
  have hbA : ¬ lwA s b := Nat.not_le.mpr hbl
  have hA : ∀ q : Nat, s.heap.size ≤ q → lwA s q := fun _ h => h
  obtain ⟨hl, hP, hD, hS, hV⟩ := hI9
  obtain ⟨T, Bd, E, PT, PB, PE, n, tr, le, sl, mo, la, fc, bo, nd, mk, ck, ct, hd, pq, nj, fw, jf, dl, dn, oc, s8, s9, s10, s11, s12, sf, bf, pf, jt, fin, my, fls, fod, fle, fro, th, hL, hI, hm, hM⟩ := hV
  have hL0 := hL
  obtain ⟨⟨l22, l23, l24, l25, l26, l27, l28, l29, l30, l31, l32, l33, l34⟩, -⟩ := hL
  have hL := hL0
  obtain ⟨v0, ev0⟩ : ∃ y, y = xs (i + 1) := ⟨_, rfl⟩
  obtain ⟨v1, ev1⟩ : ∃ y, y = xs (i + 2) := ⟨_, rfl⟩
  have hl : lv_has ls 7 [(0, .ref b), (1, .ref (ad 0)), (2, .ref (gd 0)), (3, .ref o), (4, .int (nI (i)))] := hl
  refine lv_aload_n hx hb dL_law_716 rfl (lv_at hl 1 rfl) ?_
  refine lv_aload_n hx hb dL_law_717 rfl (lv_at hl 0 rfl) ?_
  refine lv_iload hx hb dL_law_718 (lv_at hl 4 rfl) ?_
  refine lv_iconst (v := nI (1)) hx hb dL_law_720 (by decide) ?_
  refine zo_add hx hb dL_law_721 ?_
  refine va_sld hx hb hXs hbl hbA hS (vp_in_nI (show i + 1 < L by omega) (by omega)) dL_law_722 ?_
  rw [nI_clamp (show i + 1 < 2 ^ 31 by omega)]
  refine zx_val (y := v0) (ev0.symm) ?_
  refine lv_aload_n hx hb dL_law_723 rfl (lv_at hl 0 rfl) ?_
  refine lv_iload hx hb dL_law_724 (lv_at hl 4 rfl) ?_
  refine lv_iconst (v := nI (2)) hx hb dL_law_726 (by decide) ?_
  refine zo_add hx hb dL_law_727 ?_
  refine va_sld hx hb hXs hbl hbA hS (vp_in_nI (show i + 2 < L by omega) (by omega)) dL_law_728 ?_
  rw [nI_clamp (show i + 2 < 2 ^ 31 by omega)]
  refine zx_val (y := v1) (ev1.symm) ?_
  refine lv_aload_n hx hb dL_law_729 rfl (lv_at hl 3 rfl) ?_
  refine zw_H_i (n := 4) (mc := 4) (ms := 24) (As := [.ref (ad 0), .int (v0), .int (v1), .ref o]) (rest := []) hx hb hml hts hown hZ hX hN hP hD hS hA (c_L_write l D cA _ _ o z (ad 0) _ l22 _ _ _ _ (k3 (ix v0 nd) (rg v1 1 100) (fun j b => match hd j with | none => false | some t => decide (ct j < 12) && decide (fc t < 10 ∧ bo t (fc t) + b ≤ tr t * le t))) v0 v1 (fun sz => c_X4_write l hlt D cA sz ws ad T Bd E PT PB PE n tr le sl mo la fc bo nd mk ck ct hd pq nj fw jf dl dn oc s8 s9 s10 s11 s12 hL hI v0 v1) (fun _ _ h => h)) gL_law_L_write rfl ⟨rfl, rfl⟩ ⟨by decide +kernel, (Nat.le_of_ble_eq_true rfl), (Nat.le_of_ble_eq_true rfl)⟩ hl.1 rfl (Nat.le_of_ble_eq_true rfl) ⟨by show _ ≤ 601024; omega, by show _ ≤ 7293034; omega⟩ rfl dL_law_730 (fun r1 u1 H locs hp1 hP hD hS hz1 => ?_)
  rcases u1 with ⟨⟨ans, f1⟩, j, t, P, b9, w1⟩ | ux
  · obtain ⟨rfl, hf1, hpc⟩ := hp1
    obtain ⟨hjn, hv0, hb1, hb2, hv1, hht, hpq, hP16, hct, hfc9, hfit, rfl, hkp, hL1⟩ := hpc
    have hjn : j < nd := hjn
    have hv0 : v0 = nI j := hv0
    have hb1 : 1 ≤ b9 := hb1
    have hb2 : b9 ≤ 100 := hb2
    have hv1 : v1 = nI b9 := hv1
    have hht : hd j = some t := hht
    have hpq : pq j = nI P := hpq
    have hP16 : P ≤ 1600 := hP16
    have hct : ct j < 12 := hct
    have hfc9 : fc t < 10 := hfc9
    have hfit : bo t (fc t) + b9 ≤ tr t * le t := hfit
    have hf1 : f1 0 = (nI (wayT (zpa (mk j)) (zsp (mk j)) (tr t) (le t) P (bo t (fc t)) + 3 * b9)).toInt64 := hf1
    have hkp : zKeep ws w1 := hkp
    have hm1 := mL_keep hm hkp
    have hP : va_P D vwCl ((o, zOut cA f1) :: w1) H := hP
    have hD : va_D (lwA s) ((o, zOut cA f1) :: w1) := hD
    obtain ⟨m0_1, -⟩ := id hm1
    have hP9 := pq_le hI hjn hht hpq hP16
    refine lv_istore (lv' := [(5, .int (nI (0))), (0, .ref b), (1, .ref (ad 0)), (2, .ref (gd 0)), (3, .ref o), (4, .int (nI (i)))]) hx hb dL_law_733 hl (by decide) rfl (fun ls hl => ?_)
    refine lv_aload_n hx hb dL_law_735 rfl (lv_at hl 3 rfl) ?_
    refine lv_aload_n hx hb dL_law_736 rfl (lv_at hl 1 rfl) ?_
    refine lv_iload hx hb dL_law_737 (lv_at hl 5 rfl) ?_
    refine lv_iconst (v := nI (1)) hx hb dL_law_739 (by decide) ?_
    refine zo_add hx hb dL_law_740 ?_
    refine va_sld hx hb hXs hbl hbA hS (vp_in_nI (show i + 1 < L by omega) (by omega)) dL_law_741 ?_
    rw [nI_clamp (show i + 1 < 2 ^ 31 by omega)]
    refine zx_val (y := v0) (ev0.symm) ?_
    refine zx_val (y := nI (j)) (hv0) ?_
    refine lv_aload_n hx hb dL_law_742 rfl (lv_at hl 1 rfl) ?_
    refine lv_iload hx hb dL_law_743 (lv_at hl 5 rfl) ?_
    refine lv_iconst (v := nI (2)) hx hb dL_law_745 (by decide) ?_
    refine zo_add hx hb dL_law_746 ?_
    refine va_sld hx hb hXs hbl hbA hS (vp_in_nI (show i + 2 < L by omega) (by omega)) dL_law_747 ?_
    rw [nI_clamp (show i + 2 < 2 ^ 31 by omega)]
    refine zx_val (y := v1) (ev1.symm) ?_
    refine zx_val (y := nI (b9)) (hv1) ?_
    refine zq_V_i (n := 2) (mc := 0) (ms := 0) (As := [.int (nI (j)), .int (nI (b9))]) (rest := []) hx hb hml hts hown hZ hP hD hS hA (c_X5_write_ok l D cA _ _ hm1 hI hM j t P hjn hht hpq hP9 b9 ⟨hb1, hb2⟩ hct hfc9 hfit) gL_law_X5_write rfl rfl ⟨rfl, rfl⟩ ⟨by decide +kernel, (Nat.le_of_ble_eq_true rfl), (Nat.le_of_ble_eq_true rfl)⟩ m0_1 rfl hl.1 rfl (Nat.le_of_ble_eq_true rfl) ⟨by show _ ≤ 601024; omega, by show _ ≤ 7293034; omega⟩ rfl dL_law_748 (fun r2 u2 H locs hp2 hP hD hS hz2 => ?_)
    obtain ⟨rfl, hkp2, hm2⟩ := hp2
    have hL2 := zL_keep hL1 hkp2
    obtain ⟨m0_2, -⟩ := id hm2
    have hP : va_P D vwCl ((o, zOut cA f1) :: u2) H := hP
    have hD : va_D (lwA s) ((o, zOut cA f1) :: u2) := hD
    refine lv_istore (lv' := [(6, .int (nI (wayT (zpa (mk j)) (zsp (mk j)) (tr t) (le t) P (bo t (fc t)) + 3 * b9))), (5, .int (nI (0))), (0, .ref b), (1, .ref (ad 0)), (2, .ref (gd 0)), (3, .ref o), (4, .int (nI (i)))]) hx hb dL_law_751 hl (by decide) rfl (fun ls hl => ?_)
    refine lv_aload_n hx hb dL_law_753 rfl (lv_at hl 4 rfl) ?_
    refine zk_V_i (n := 0) (As := []) (rest := []) hx hb hml hts hown hZ (zq_P hP) (c_X5_thrown l D cA _ hm2) gL_law_X5_thrown rfl rfl ⟨rfl, rfl⟩ ⟨by decide +kernel, (Nat.le_of_ble_eq_true rfl), (Nat.le_of_ble_eq_true rfl)⟩ m0_2 rfl hl.1 rfl (Nat.le_of_ble_eq_true rfl) ⟨by show _ ≤ 601024; omega, by show _ ≤ 7293034; omega⟩ rfl dL_law_754 (fun r3 hr3 => ?_)
    obtain rfl := show r3 = nI (0) from hr3
    refine lv_iload hx hb dL_law_757 (lv_at hl 1 rfl) ?_
    refine zc_eq (tgt := 764) hx hb (by omega) (by omega) dL_law_759 (by decide) (fun c_1 => ?_) (fun c_1 => absurd rfl c_1)
    refine lv_iload hx hb dL_law_764 (lv_at hl 1 rfl) ?_
    refine zf_ne (tgt := 781) hx hb (by omega) dL_law_766 (by decide) (fun c_2 => False.elim (by omega)) (fun c_2 => ?_)
    refine lv_aload_n hx hb dL_law_769 rfl (lv_at hl 5 rfl) ?_
    refine lv_iconst (v := nI (0)) hx hb dL_law_770 (by decide) ?_
    refine va_lald hx hb hZ.1 hP 0 4 rfl rfl (vp_in_nI (show 0 < 1 by omega) (by omega)) dL_law_771 ?_
    rw [nI_clamp (show 0 < 2 ^ 31 by omega)]
    refine zx_v (b := .long (nI (wayT (zpa (mk j)) (zsp (mk j)) (tr t) (le t) P (bo t (fc t)) + 3 * b9)).toInt64) (by rw [hf1]) ?_
    refine lv_iload hx hb dL_law_772 (lv_at hl 0 rfl) ?_
    refine lv_i2l (v := (nI (wayT (zpa (mk j)) (zsp (mk j)) (tr t) (le t) P (bo t (fc t)) + 3 * b9)).toInt64) hx hb dL_law_774 rfl ?_
    refine W.lcmp hx hb dL_law_775 ?_
    refine zx_val (y := nI 0) (lg_cmp_self _) ?_
    refine zf_eq (tgt := 781) hx hb (by omega) dL_law_776 (by decide) (fun c_3 => ?_) (fun c_3 => False.elim (by omega))
    refine lv_goto (tgt := 1543) hx hb dL_law_781 (by decide) ?_
    obtain ⟨hI3, hM3⟩ := I_file hI hM (((hI.2.2.2.2.1 j hjn).2.2.2 t hht).1) hfc9 hb1 hfit
    obtain ⟨hI2, hM2⟩ := I_go (c9 := ck j + nI (wayT (zpa (mk j)) (zsp (mk j)) (tr t) (le t) P (bo t (fc t)) + 3 * b9)) (d9 := ct j + 1) (q9 := bo t (fc t) + b9) hI3 hM3 hjn hht hfit (by omega)
    exact kont f1 u2 H locs ls _ _ (by omega) (by omega) ⟨lv_sub hl [2, 3, 4, 5, 6] rfl, hP, hD, hS, _, _, _, _, _, _, _, _, _, _, _, _, _, _, _, _, _, _, _, _, _, _, _, _, _, _, _, _, _, _, _, _, _, _, _, _, _, _, _, _, _, _, hL2, hI2, hm2, hM2⟩
  · obtain ⟨rfl, hK0, E9, hE9⟩ := hp1
    have hm1 := hm
    have hL1 := hL
    have hK3 : (k3 (ix v0 nd) (rg v1 1 100) (fun j b => match hd j with | none => false | some t => decide (ct j < 12) && decide (fc t < 10 ∧ bo t (fc t) + b ≤ tr t * le t))) ≤ 3 := zexIAS_le hE9
    have hP : va_P D vwCl ((o, zOut cA z) :: ws) H := hP
    have hD : va_D (lwA s) ((o, zOut cA z) :: ws) := hD
    obtain ⟨m0_1, -⟩ := id hm1
    refine lv_istore (lv' := [(5, .int (nI ((k3 (ix v0 nd) (rg v1 1 100) (fun j b => match hd j with | none => false | some t => decide (ct j < 12) && decide (fc t < 10 ∧ bo t (fc t) + b ≤ tr t * le t)))))), (0, .ref b), (1, .ref (ad 0)), (2, .ref (gd 0)), (3, .ref o), (4, .int (nI (i)))]) hx hb dL_law_733 hl (by decide) rfl (fun ls hl => ?_)
    refine lv_aload_n hx hb dL_law_735 rfl (lv_at hl 3 rfl) ?_
    refine lv_aload_n hx hb dL_law_736 rfl (lv_at hl 1 rfl) ?_
    refine lv_iload hx hb dL_law_737 (lv_at hl 5 rfl) ?_
    refine lv_iconst (v := nI (1)) hx hb dL_law_739 (by decide) ?_
    refine zo_add hx hb dL_law_740 ?_
    refine va_sld hx hb hXs hbl hbA hS (vp_in_nI (show i + 1 < L by omega) (by omega)) dL_law_741 ?_
    rw [nI_clamp (show i + 1 < 2 ^ 31 by omega)]
    refine zx_val (y := v0) (ev0.symm) ?_
    refine lv_aload_n hx hb dL_law_742 rfl (lv_at hl 1 rfl) ?_
    refine lv_iload hx hb dL_law_743 (lv_at hl 5 rfl) ?_
    refine lv_iconst (v := nI (2)) hx hb dL_law_745 (by decide) ?_
    refine zo_add hx hb dL_law_746 ?_
    refine va_sld hx hb hXs hbl hbA hS (vp_in_nI (show i + 2 < L by omega) (by omega)) dL_law_747 ?_
    rw [nI_clamp (show i + 2 < 2 ^ 31 by omega)]
    refine zx_val (y := v1) (ev1.symm) ?_
    refine zq_V_i (n := 2) (mc := 0) (ms := 0) (As := [.int (v0), .int (v1)]) (rest := []) hx hb hml hts hown hZ hP hD hS hA (c_X5_write_no l D cA _ _ hm1 hI hM v0 v1 hK0) gL_law_X5_write rfl rfl ⟨rfl, rfl⟩ ⟨by decide +kernel, (Nat.le_of_ble_eq_true rfl), (Nat.le_of_ble_eq_true rfl)⟩ m0_1 rfl hl.1 rfl (Nat.le_of_ble_eq_true rfl) ⟨by show _ ≤ 601024; omega, by show _ ≤ 7293034; omega⟩ rfl dL_law_748 (fun r2 u2 H locs hp2 hP hD hS hz2 => ?_)
    obtain ⟨hkp2, hm2⟩ := hp2
    have hL2 := zL_keep hL1 hkp2
    obtain ⟨m0_2, -⟩ := id hm2
    have hP : va_P D vwCl ((o, zOut cA z) :: u2) H := hP
    have hD : va_D (lwA s) ((o, zOut cA z) :: u2) := hD
    refine lv_istore (lv' := [(6, .int (r2)), (5, .int (nI ((k3 (ix v0 nd) (rg v1 1 100) (fun j b => match hd j with | none => false | some t => decide (ct j < 12) && decide (fc t < 10 ∧ bo t (fc t) + b ≤ tr t * le t)))))), (0, .ref b), (1, .ref (ad 0)), (2, .ref (gd 0)), (3, .ref o), (4, .int (nI (i)))]) hx hb dL_law_751 hl (by decide) rfl (fun ls hl => ?_)
    refine lv_aload_n hx hb dL_law_753 rfl (lv_at hl 4 rfl) ?_
    refine zk_V_i (n := 0) (As := []) (rest := []) hx hb hml hts hown hZ (zq_P hP) (c_X5_thrown l D cA _ hm2) gL_law_X5_thrown rfl rfl ⟨rfl, rfl⟩ ⟨by decide +kernel, (Nat.le_of_ble_eq_true rfl), (Nat.le_of_ble_eq_true rfl)⟩ m0_2 rfl hl.1 rfl (Nat.le_of_ble_eq_true rfl) ⟨by show _ ≤ 601024; omega, by show _ ≤ 7293034; omega⟩ rfl dL_law_754 (fun r3 hr3 => ?_)
    obtain rfl := show r3 = nI ((k3 (ix v0 nd) (rg v1 1 100) (fun j b => match hd j with | none => false | some t => decide (ct j < 12) && decide (fc t < 10 ∧ bo t (fc t) + b ≤ tr t * le t)))) from hr3
    refine lv_iload hx hb dL_law_757 (lv_at hl 1 rfl) ?_
    refine zc_eq (tgt := 764) hx hb (by omega) (by omega) dL_law_759 (by decide) (fun c_4 => ?_) (fun c_4 => absurd rfl c_4)
    refine lv_iload hx hb dL_law_764 (lv_at hl 1 rfl) ?_
    refine zf_ne (tgt := 781) hx hb (by omega) dL_law_766 (by decide) (fun c_5 => ?_) (fun c_5 => absurd c_5 hK0)
    refine lv_goto (tgt := 1543) hx hb dL_law_781 (by decide) ?_
    have hI2 := hI
    have hM2 := hM
    exact kont z u2 H locs ls _ _ (by omega) (by omega) ⟨lv_sub hl [2, 3, 4, 5, 6] rfl, hP, hD, hS, _, _, _, _, _, _, _, _, _, _, _, _, _, _, _, _, _, _, _, _, _, _, _, _, _, _, _, _, _, _, _, _, _, _, _, _, _, _, _, _, _, _, hL2, hI2, hm2, hM2⟩
