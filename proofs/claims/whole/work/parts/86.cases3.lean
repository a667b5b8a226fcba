set_option maxHeartbeats 4000000 in
set_option maxRecDepth 100000 in
theorem law_waiting (l : Launch) (hlt : l.stackTraces = false) {p : Program} {e : Env} {s : State} {m : MethodId} {below : List Frame} {meth : Method} {c : Code} {Q : State → Prop} {D : va_G} {cA : Nat → ClassId} {b L : Nat} {xs : Nat → Int32} (F9 : lwF p s m c D cA b L xs) (ad gd : Nat → Nat) (o i cells slots : Nat) (hi : i + 4 ≤ L) (hL8 : L ≤ 2048) (hc9 : cells ≤ 600000) (hs9 : slots ≤ 7000000) (kont : lwK p l e s m below meth c Q D cA ad gd o b i cells slots) (z : Nat → Int64) (ws : va_W) (H : Heap) (locs : List Loc) (ls : Array Slot) (hI9 : lwI s D cA ad gd o b i H locs ls z ws) : W p l e room_1 s m #[Value.ref b] below meth c H locs cells slots Q (F0 m 1100 ls []) := by
  obtain ⟨hx, hb, hml, hown, hts, hZ, hX, hN, hXs, hbl⟩ := F9
  have hbA : ¬ lwA s b := Nat.not_le.mpr hbl
  have hA : ∀ q : Nat, s.heap.size ≤ q → lwA s q := fun _ h => h
  obtain ⟨hl, hP, hD, hS, hV⟩ := hI9
  obtain ⟨T, Bd, E, PT, PB, PE, n, tr, le, sl, mo, la, fc, bo, nd, mk, ck, ct, hd, pq, nj, fw, jf, dl, dn, oc, s8, s9, s10, s11, s12, sf, bf, pf, jt, fin, my, fls, fod, fle, fro, th, hL, hI, hm, hM⟩ := hV
  have hL0 := hL
  obtain ⟨⟨l22, l23, l24, l25, l26, l27, l28, l29, l30, l31, l32, l33, l34⟩, -⟩ := hL
  have hL := hL0
  obtain ⟨v0, ev0⟩ : ∃ y, y = xs (i + 1) := ⟨_, rfl⟩
  have hl : lv_has ls 7 [(0, .ref b), (1, .ref (ad 0)), (2, .ref (gd 0)), (3, .ref o), (4, .int (nI (i)))] := hl
  refine lv_aload_n hx hb dL_law_1100 rfl (lv_at hl 1 rfl) ?_
  refine lv_aload_n hx hb dL_law_1101 rfl (lv_at hl 0 rfl) ?_
  refine lv_iload hx hb dL_law_1102 (lv_at hl 4 rfl) ?_
  refine lv_iconst (v := nI (1)) hx hb dL_law_1104 (by decide) ?_
  refine zo_add hx hb dL_law_1105 ?_
  refine va_sld hx hb hXs hbl hbA hS (vp_in_nI (show i + 1 < L by omega) (by omega)) dL_law_1106 ?_
  rw [nI_clamp (show i + 1 < 2 ^ 31 by omega)]
  refine zx_val (y := v0) (ev0.symm) ?_
  refine lv_aload_n hx hb dL_law_1107 rfl (lv_at hl 3 rfl) ?_
  refine zw_H_i (n := 3) (mc := 1) (ms := 6) (As := [.ref (ad 0), .int (v0), .ref o]) (rest := []) hx hb hml hts hown hZ hX hN hP hD hS hA (c_L_waiting l D cA _ _ o z (ad 0) _ l22 _ _ _ _ (k1 (ix v0 n)) v0 (fun sz => c_X4_waiting l hlt D cA sz ws ad T Bd E PT PB PE n tr le sl mo la fc bo nd mk ck ct hd pq nj fw jf dl dn oc s8 s9 s10 s11 s12 hL hI v0) (fun _ _ h => h)) gL_law_L_waiting rfl ⟨rfl, rfl⟩ ⟨by decide +kernel, (Nat.le_of_ble_eq_true rfl), (Nat.le_of_ble_eq_true rfl)⟩ hl.1 rfl (Nat.le_of_ble_eq_true rfl) ⟨by show _ ≤ 601024; omega, by show _ ≤ 7293034; omega⟩ rfl dL_law_1108 (fun r1 u1 H locs hp1 hP hD hS hz1 => ?_)
  rcases u1 with ⟨⟨ans, f1⟩, t⟩ | ux
  · obtain ⟨rfl, hf1, hpc⟩ := hp1
    obtain ⟨htn, hv0, rfl⟩ := hpc
    have htn : t < n := htn
    have hv0 : v0 = nI t := hv0
    have hf1 : f1 0 = (nI (wl fw (nI t) nj).length).toInt64 := hf1
    have hm1 := hm
    have hL1 := hL
    have hP : va_P D vwCl ((o, zOut cA f1) :: ws) H := hP
    have hD : va_D (lwA s) ((o, zOut cA f1) :: ws) := hD
    obtain ⟨m0_1, -⟩ := id hm1
    refine lv_istore (lv' := [(5, .int (nI (0))), (0, .ref b), (1, .ref (ad 0)), (2, .ref (gd 0)), (3, .ref o), (4, .int (nI (i)))]) hx hb dL_law_1111 hl (by decide) rfl (fun ls hl => ?_)
    refine lv_aload_n hx hb dL_law_1113 rfl (lv_at hl 3 rfl) ?_
    refine lv_aload_n hx hb dL_law_1114 rfl (lv_at hl 1 rfl) ?_
    refine lv_iload hx hb dL_law_1115 (lv_at hl 5 rfl) ?_
    refine lv_iconst (v := nI (1)) hx hb dL_law_1117 (by decide) ?_
    refine zo_add hx hb dL_law_1118 ?_
    refine va_sld hx hb hXs hbl hbA hS (vp_in_nI (show i + 1 < L by omega) (by omega)) dL_law_1119 ?_
    rw [nI_clamp (show i + 1 < 2 ^ 31 by omega)]
    refine zx_val (y := v0) (ev0.symm) ?_
    refine zx_val (y := nI (t)) (hv0) ?_
    refine zq_V_i (n := 1) (mc := 0) (ms := 0) (As := [.int (nI (t))]) (rest := []) hx hb hml hts hown hZ hP hD hS hA (c_X5_waiting_ok l D cA _ _ hm1 hI hM t htn) gL_law_X5_waiting rfl rfl ⟨rfl, rfl⟩ ⟨by decide +kernel, (Nat.le_of_ble_eq_true rfl), (Nat.le_of_ble_eq_true rfl)⟩ m0_1 rfl hl.1 rfl (Nat.le_of_ble_eq_true rfl) ⟨by show _ ≤ 601024; omega, by show _ ≤ 7293034; omega⟩ rfl dL_law_1120 (fun r2 u2 H locs hp2 hP hD hS hz2 => ?_)
    obtain ⟨rfl, hkp2, hm2⟩ := hp2
    have hL2 := zL_keep hL1 hkp2
    obtain ⟨m0_2, -⟩ := id hm2
    have hP : va_P D vwCl ((o, zOut cA f1) :: u2) H := hP
    have hD : va_D (lwA s) ((o, zOut cA f1) :: u2) := hD
    refine lv_istore (lv' := [(6, .int (nI (wl fw (nI t) nj).length)), (5, .int (nI (0))), (0, .ref b), (1, .ref (ad 0)), (2, .ref (gd 0)), (3, .ref o), (4, .int (nI (i)))]) hx hb dL_law_1123 hl (by decide) rfl (fun ls hl => ?_)
    refine lv_aload_n hx hb dL_law_1125 rfl (lv_at hl 4 rfl) ?_
    refine zk_V_i (n := 0) (As := []) (rest := []) hx hb hml hts hown hZ (zq_P hP) (c_X5_thrown l D cA _ hm2) gL_law_X5_thrown rfl rfl ⟨rfl, rfl⟩ ⟨by decide +kernel, (Nat.le_of_ble_eq_true rfl), (Nat.le_of_ble_eq_true rfl)⟩ m0_2 rfl hl.1 rfl (Nat.le_of_ble_eq_true rfl) ⟨by show _ ≤ 601024; omega, by show _ ≤ 7293034; omega⟩ rfl dL_law_1126 (fun r3 hr3 => ?_)
    obtain rfl := show r3 = nI (0) from hr3
    refine lv_iload hx hb dL_law_1129 (lv_at hl 1 rfl) ?_
    refine zc_eq (tgt := 1136) hx hb (by omega) (by omega) dL_law_1131 (by decide) (fun c_1 => ?_) (fun c_1 => absurd rfl c_1)
    refine lv_iload hx hb dL_law_1136 (lv_at hl 1 rfl) ?_
    refine zf_ne (tgt := 1153) hx hb (by omega) dL_law_1138 (by decide) (fun c_2 => False.elim (by omega)) (fun c_2 => ?_)
    refine lv_aload_n hx hb dL_law_1141 rfl (lv_at hl 5 rfl) ?_
    refine lv_iconst (v := nI (0)) hx hb dL_law_1142 (by decide) ?_
    refine va_lald hx hb hZ.1 hP 0 4 rfl rfl (vp_in_nI (show 0 < 1 by omega) (by omega)) dL_law_1143 ?_
    rw [nI_clamp (show 0 < 2 ^ 31 by omega)]
    refine zx_v (b := .long (nI (wl fw (nI t) nj).length).toInt64) (by rw [hf1]) ?_
    refine lv_iload hx hb dL_law_1144 (lv_at hl 0 rfl) ?_
    refine lv_i2l (v := (nI (wl fw (nI t) nj).length).toInt64) hx hb dL_law_1146 rfl ?_
    refine W.lcmp hx hb dL_law_1147 ?_
    refine zx_val (y := nI 0) (lg_cmp_self _) ?_
    refine zf_eq (tgt := 1153) hx hb (by omega) dL_law_1148 (by decide) (fun c_3 => ?_) (fun c_3 => False.elim (by omega))
    refine lv_goto (tgt := 1543) hx hb dL_law_1153 (by decide) ?_
    have hI2 := hI
    have hM2 := hM
    exact kont f1 u2 H locs ls _ _ (by omega) (by omega) ⟨lv_sub hl [2, 3, 4, 5, 6] rfl, hP, hD, hS, _, _, _, _, _, _, _, _, _, _, _, _, _, _, _, _, _, _, _, _, _, _, _, _, _, _, _, _, _, _, _, _, _, _, _, _, _, _, _, _, _, _, hL2, hI2, hm2, hM2⟩
  · obtain ⟨rfl, hK0, E9, hE9⟩ := hp1
    have hm1 := hm
    have hL1 := hL
    have hK3 : (k1 (ix v0 n)) ≤ 3 := zex1_le hE9
    have hP : va_P D vwCl ((o, zOut cA z) :: ws) H := hP
    have hD : va_D (lwA s) ((o, zOut cA z) :: ws) := hD
    obtain ⟨m0_1, -⟩ := id hm1
    refine lv_istore (lv' := [(5, .int (nI ((k1 (ix v0 n))))), (0, .ref b), (1, .ref (ad 0)), (2, .ref (gd 0)), (3, .ref o), (4, .int (nI (i)))]) hx hb dL_law_1111 hl (by decide) rfl (fun ls hl => ?_)
    refine lv_aload_n hx hb dL_law_1113 rfl (lv_at hl 3 rfl) ?_
    refine lv_aload_n hx hb dL_law_1114 rfl (lv_at hl 1 rfl) ?_
    refine lv_iload hx hb dL_law_1115 (lv_at hl 5 rfl) ?_
    refine lv_iconst (v := nI (1)) hx hb dL_law_1117 (by decide) ?_
    refine zo_add hx hb dL_law_1118 ?_
    refine va_sld hx hb hXs hbl hbA hS (vp_in_nI (show i + 1 < L by omega) (by omega)) dL_law_1119 ?_
    rw [nI_clamp (show i + 1 < 2 ^ 31 by omega)]
    refine zx_val (y := v0) (ev0.symm) ?_
    refine zq_V_i (n := 1) (mc := 0) (ms := 0) (As := [.int (v0)]) (rest := []) hx hb hml hts hown hZ hP hD hS hA (c_X5_waiting_no l D cA _ _ hm1 hI hM v0 hK0) gL_law_X5_waiting rfl rfl ⟨rfl, rfl⟩ ⟨by decide +kernel, (Nat.le_of_ble_eq_true rfl), (Nat.le_of_ble_eq_true rfl)⟩ m0_1 rfl hl.1 rfl (Nat.le_of_ble_eq_true rfl) ⟨by show _ ≤ 601024; omega, by show _ ≤ 7293034; omega⟩ rfl dL_law_1120 (fun r2 u2 H locs hp2 hP hD hS hz2 => ?_)
    obtain ⟨hkp2, hm2⟩ := hp2
    have hL2 := zL_keep hL1 hkp2
    obtain ⟨m0_2, -⟩ := id hm2
    have hP : va_P D vwCl ((o, zOut cA z) :: u2) H := hP
    have hD : va_D (lwA s) ((o, zOut cA z) :: u2) := hD
    refine lv_istore (lv' := [(6, .int (r2)), (5, .int (nI ((k1 (ix v0 n))))), (0, .ref b), (1, .ref (ad 0)), (2, .ref (gd 0)), (3, .ref o), (4, .int (nI (i)))]) hx hb dL_law_1123 hl (by decide) rfl (fun ls hl => ?_)
    refine lv_aload_n hx hb dL_law_1125 rfl (lv_at hl 4 rfl) ?_
    refine zk_V_i (n := 0) (As := []) (rest := []) hx hb hml hts hown hZ (zq_P hP) (c_X5_thrown l D cA _ hm2) gL_law_X5_thrown rfl rfl ⟨rfl, rfl⟩ ⟨by decide +kernel, (Nat.le_of_ble_eq_true rfl), (Nat.le_of_ble_eq_true rfl)⟩ m0_2 rfl hl.1 rfl (Nat.le_of_ble_eq_true rfl) ⟨by show _ ≤ 601024; omega, by show _ ≤ 7293034; omega⟩ rfl dL_law_1126 (fun r3 hr3 => ?_)
    obtain rfl := show r3 = nI ((k1 (ix v0 n))) from hr3
    refine lv_iload hx hb dL_law_1129 (lv_at hl 1 rfl) ?_
    refine zc_eq (tgt := 1136) hx hb (by omega) (by omega) dL_law_1131 (by decide) (fun c_4 => ?_) (fun c_4 => absurd rfl c_4)
    refine lv_iload hx hb dL_law_1136 (lv_at hl 1 rfl) ?_
    refine zf_ne (tgt := 1153) hx hb (by omega) dL_law_1138 (by decide) (fun c_5 => ?_) (fun c_5 => absurd c_5 hK0)
    refine lv_goto (tgt := 1543) hx hb dL_law_1153 (by decide) ?_
    have hI2 := hI
    have hM2 := hM
    exact kont z u2 H locs ls _ _ (by omega) (by omega) ⟨lv_sub hl [2, 3, 4, 5, 6] rfl, hP, hD, hS, _, _, _, _, _, _, _, _, _, _, _, _, _, _, _, _, _, _, _, _, _, _, _, _, _, _, _, _, _, _, _, _, _, _, _, _, _, _, _, _, _, _, hL2, hI2, hm2, hM2⟩

set_option maxHeartbeats 4000000 in
set_option maxRecDepth 100000 in
theorem law_next (l : Launch) (hlt : l.stackTraces = false) {p : Program} {e : Env} {s : State} {m : MethodId} {below : List Frame} {meth : Method} {c : Code} {Q : State → Prop} {D : va_G} {cA : Nat → ClassId} {b L : Nat} {xs : Nat → Int32} (F9 : lwF p s m c D cA b L xs) (ad gd : Nat → Nat) (o i cells slots : Nat) (hi : i + 4 ≤ L) (hL8 : L ≤ 2048) (hc9 : cells ≤ 600000) (hs9 : slots ≤ 7000000) (kont : lwK p l e s m below meth c Q D cA ad gd o b i cells slots) (z : Nat → Int64) (ws : va_W) (H : Heap) (locs : List Loc) (ls : Array Slot) (hI9 : lwI s D cA ad gd o b i H locs ls z ws) : W p l e room_1 s m #[Value.ref b] below meth c H locs cells slots Q (F0 m 1156 ls []) := by
  obtain ⟨hx, hb, hml, hown, hts, hZ, hX, hN, hXs, hbl⟩ := F9
  have hbA : ¬ lwA s b := Nat.not_le.mpr hbl
  have hA : ∀ q : Nat, s.heap.size ≤ q → lwA s q := fun _ h => h
  obtain ⟨hl, hP, hD, hS, hV⟩ := hI9
  obtain ⟨T, Bd, E, PT, PB, PE, n, tr, le, sl, mo, la, fc, bo, nd, mk, ck, ct, hd, pq, nj, fw, jf, dl, dn, oc, s8, s9, s10, s11, s12, sf, bf, pf, jt, fin, my, fls, fod, fle, fro, th, hL, hI, hm, hM⟩ := hV
  have hL0 := hL
  obtain ⟨⟨l22, l23, l24, l25, l26, l27, l28, l29, l30, l31, l32, l33, l34⟩, -⟩ := hL
  have hL := hL0
  have hl : lv_has ls 7 [(0, .ref b), (1, .ref (ad 0)), (2, .ref (gd 0)), (3, .ref o), (4, .int (nI (i)))] := hl
  refine lv_aload_n hx hb dL_law_1156 rfl (lv_at hl 1 rfl) ?_
  refine zk_V_i (n := 0) (As := []) (rest := []) hx hb hml hts hown hZ (zq_P hP) (c_X4_next l D cA ws 22 (ad 0) (ad 1) n (ad 2) nd (ad 3) (ad 4) l22 23 T l23 hI.1 PT tr le sl mo la fc Bd (fun k hk => (hL.2.1 k hk).1) 25 nj dn (ad 5) (ad 6) (ad 7) l25 27 fw l27 29 dl l29 hI.2.2.1 hI.2.2.2.2.2.2.1 (fun k j hk h => by have h1 := ((hI.2.2.2.1 k hk).2.2.2.2.2.1 j h).1; have h2 := hI.2.1; omega)) gL_law_X4_next rfl rfl ⟨rfl, rfl⟩ ⟨by decide +kernel, (Nat.le_of_ble_eq_true rfl), (Nat.le_of_ble_eq_true rfl)⟩ l22 rfl hl.1 rfl (Nat.le_of_ble_eq_true rfl) ⟨by show _ ≤ 601024; omega, by show _ ≤ 7293034; omega⟩ rfl dL_law_1157 (fun r1 hr1 => ?_)
  obtain rfl := show r1 = oI (nxt mo la (fun q9 => (wl fw (nI q9) nj).length) (fun q9 => erl fw (nI q9) dl nj) n) from hr1
  have hm1 := hm
  have hL1 := hL
  obtain ⟨m0_1, -⟩ := id hm1
  refine lv_aload_n hx hb dL_law_1160 rfl (lv_at hl 2 rfl) ?_
  refine zq_V_i (n := 0) (mc := 0) (ms := 0) (As := []) (rest := [.int (oI (nxt mo la (fun q9 => (wl fw (nI q9) nj).length) (fun q9 => erl fw (nI q9) dl nj) n))]) hx hb hml hts hown hZ hP hD hS hA (c_X5_next l D cA _ _ hm1 hI hM) gL_law_X5_next rfl rfl ⟨rfl, rfl⟩ ⟨by decide +kernel, (Nat.le_of_ble_eq_true rfl), (Nat.le_of_ble_eq_true rfl)⟩ m0_1 rfl hl.1 rfl (Nat.le_of_ble_eq_true rfl) ⟨by show _ ≤ 601024; omega, by show _ ≤ 7293034; omega⟩ rfl dL_law_1161 (fun r2 u2 H locs hp2 hP hD hS hz2 => ?_)
  obtain ⟨rfl, hkp2, hm2⟩ := hp2
  have hL2 := zL_keep hL1 hkp2
  have hP : va_P D vwCl ((o, zOut cA z) :: u2) H := hP
  have hD : va_D (lwA s) ((o, zOut cA z) :: u2) := hD
  refine lv_icmp_eq (tgt := 1543) hx hb dL_law_1164 (by decide) (fun c_1 => ?_) (fun c_1 => absurd rfl c_1)
  have hI2 := hI
  have hM2 := hM
  exact kont z u2 H locs ls _ _ (by omega) (by omega) ⟨lv_sub hl [0, 1, 2, 3, 4] rfl, hP, hD, hS, _, _, _, _, _, _, _, _, _, _, _, _, _, _, _, _, _, _, _, _, _, _, _, _, _, _, _, _, _, _, _, _, _, _, _, _, _, _, _, _, _, _, hL2, hI2, hm2, hM2⟩

set_option maxHeartbeats 4000000 in
set_option maxRecDepth 100000 in
theorem law_bestTime (l : Launch) (hlt : l.stackTraces = false) {p : Program} {e : Env} {s : State} {m : MethodId} {below : List Frame} {meth : Method} {c : Code} {Q : State → Prop} {D : va_G} {cA : Nat → ClassId} {b L : Nat} {xs : Nat → Int32} (F9 : lwF p s m c D cA b L xs) (ad gd : Nat → Nat) (o i cells slots : Nat) (hi : i + 4 ≤ L) (hL8 : L ≤ 2048) (hc9 : cells ≤ 600000) (hs9 : slots ≤ 7000000) (kont : lwK p l e s m below meth c Q D cA ad gd o b i cells slots) (z : Nat → Int64) (ws : va_W) (H : Heap) (locs : List Loc) (ls : Array Slot) (hI9 : lwI s D cA ad gd o b i H locs ls z ws) : W p l e room_1 s m #[Value.ref b] below meth c H locs cells slots Q (F0 m 1169 ls []) := by
  obtain ⟨hx, hb, hml, hown, hts, hZ, hX, hN, hXs, hbl⟩ := F9
  have hbA : ¬ lwA s b := Nat.not_le.mpr hbl
  have hA : ∀ q : Nat, s.heap.size ≤ q → lwA s q := fun _ h => h
  obtain ⟨hl, hP, hD, hS, hV⟩ := hI9
  obtain ⟨T, Bd, E, PT, PB, PE, n, tr, le, sl, mo, la, fc, bo, nd, mk, ck, ct, hd, pq, nj, fw, jf, dl, dn, oc, s8, s9, s10, s11, s12, sf, bf, pf, jt, fin, my, fls, fod, fle, fro, th, hL, hI, hm, hM⟩ := hV
  have hL0 := hL
  obtain ⟨⟨l22, l23, l24, l25, l26, l27, l28, l29, l30, l31, l32, l33, l34⟩, -⟩ := hL
  have hL := hL0
  obtain ⟨v0, ev0⟩ : ∃ y, y = xs (i + 1) := ⟨_, rfl⟩
  have hl : lv_has ls 7 [(0, .ref b), (1, .ref (ad 0)), (2, .ref (gd 0)), (3, .ref o), (4, .int (nI (i)))] := hl
  refine lv_aload_n hx hb dL_law_1169 rfl (lv_at hl 1 rfl) ?_
  refine lv_aload_n hx hb dL_law_1170 rfl (lv_at hl 0 rfl) ?_
  refine lv_iload hx hb dL_law_1171 (lv_at hl 4 rfl) ?_
  refine lv_iconst (v := nI (1)) hx hb dL_law_1173 (by decide) ?_
  refine zo_add hx hb dL_law_1174 ?_
  refine va_sld hx hb hXs hbl hbA hS (vp_in_nI (show i + 1 < L by omega) (by omega)) dL_law_1175 ?_
  rw [nI_clamp (show i + 1 < 2 ^ 31 by omega)]
  refine zx_val (y := v0) (ev0.symm) ?_
  refine lv_aload_n hx hb dL_law_1176 rfl (lv_at hl 3 rfl) ?_
  refine zw_H_i (n := 3) (mc := 2) (ms := 12) (As := [.ref (ad 0), .int (v0), .ref o]) (rest := []) hx hb hml hts hown hZ hX hN hP hD hS hA (c_L_bestTime l D cA _ _ o z (ad 0) _ l22 _ _ _ _ (kR (ix v0 nd) hd (fun _ => some 0) (fun _ => true)) v0 (fun sz => c_X4_bestTime l hlt D cA sz ws ad T Bd E PT PB PE n tr le sl mo la fc bo nd mk ck ct hd pq nj fw jf dl dn oc s8 s9 s10 s11 s12 hL hI v0) (fun _ _ h => h.1)) gL_law_L_bestTime rfl ⟨rfl, rfl⟩ ⟨by decide +kernel, (Nat.le_of_ble_eq_true rfl), (Nat.le_of_ble_eq_true rfl)⟩ hl.1 rfl (Nat.le_of_ble_eq_true rfl) ⟨by show _ ≤ 601024; omega, by show _ ≤ 7293034; omega⟩ rfl dL_law_1177 (fun r1 u1 H locs hp1 hP hD hS hz1 => ?_)
  rcases u1 with ⟨⟨ans, f1⟩, j, t, P, w1⟩ | ux
  · obtain ⟨rfl, hf1, hpc⟩ := hp1
    obtain ⟨hjn, hv0, hht, hpq, hP16, rfl, hkp, oc9, t8, t9, t10, t11, t12, hL1⟩ := hpc
    have hjn : j < nd := hjn
    have hv0 : v0 = nI j := hv0
    have hht : hd j = some t := hht
    have hpq : pq j = nI P := hpq
    have hP16 : P ≤ 1600 := hP16
    have hf1 : f1 0 = (nI (BT (LG mk tr le bo jf j t P (wl fw (nI t) nj)) (wl fw (nI t) nj).length (np 0) 7)).toInt64 := hf1
    have hkp : zKeep ws w1 := hkp
    have hm1 := mL_keep hm hkp
    have hP : va_P D vwCl ((o, zOut cA f1) :: w1) H := hP
    have hD : va_D (lwA s) ((o, zOut cA f1) :: w1) := hD
    obtain ⟨m0_1, -⟩ := id hm1
    have hP9 := pq_le hI hjn hht hpq hP16
    refine lv_istore (lv' := [(5, .int (nI (0))), (0, .ref b), (1, .ref (ad 0)), (2, .ref (gd 0)), (3, .ref o), (4, .int (nI (i)))]) hx hb dL_law_1180 hl (by decide) rfl (fun ls hl => ?_)
    refine lv_aload_n hx hb dL_law_1182 rfl (lv_at hl 3 rfl) ?_
    refine lv_aload_n hx hb dL_law_1183 rfl (lv_at hl 1 rfl) ?_
    refine lv_iload hx hb dL_law_1184 (lv_at hl 5 rfl) ?_
    refine lv_iconst (v := nI (1)) hx hb dL_law_1186 (by decide) ?_
    refine zo_add hx hb dL_law_1187 ?_
    refine va_sld hx hb hXs hbl hbA hS (vp_in_nI (show i + 1 < L by omega) (by omega)) dL_law_1188 ?_
    rw [nI_clamp (show i + 1 < 2 ^ 31 by omega)]
    refine zx_val (y := v0) (ev0.symm) ?_
    refine zx_val (y := nI (j)) (hv0) ?_
    refine zq_V_i (n := 1) (mc := 0) (ms := 0) (As := [.int (nI (j))]) (rest := []) hx hb hml hts hown hZ hP hD hS hA (c_X5_bestTime_ok l D cA _ _ hm1 hI hM j t P hjn hht hpq hP9) gL_law_X5_bestTime rfl rfl ⟨rfl, rfl⟩ ⟨by decide +kernel, (Nat.le_of_ble_eq_true rfl), (Nat.le_of_ble_eq_true rfl)⟩ m0_1 rfl hl.1 rfl (Nat.le_of_ble_eq_true rfl) ⟨by show _ ≤ 601024; omega, by show _ ≤ 7293034; omega⟩ rfl dL_law_1189 (fun r2 u2 H locs hp2 hP hD hS hz2 => ?_)
    obtain ⟨rfl, hkp2, my9, fls9, fod9, fle9, fro9, hm2⟩ := hp2
    have hL2 := zL_keep hL1 hkp2
    obtain ⟨m0_2, -⟩ := id hm2
    have hP : va_P D vwCl ((o, zOut cA f1) :: u2) H := hP
    have hD : va_D (lwA s) ((o, zOut cA f1) :: u2) := hD
    refine lv_istore (lv' := [(6, .int (nI (BT (LG mk tr le bo jf j t P (wl fw (nI t) nj)) (wl fw (nI t) nj).length (np 0) 7))), (5, .int (nI (0))), (0, .ref b), (1, .ref (ad 0)), (2, .ref (gd 0)), (3, .ref o), (4, .int (nI (i)))]) hx hb dL_law_1192 hl (by decide) rfl (fun ls hl => ?_)
    refine lv_aload_n hx hb dL_law_1194 rfl (lv_at hl 4 rfl) ?_
    refine zk_V_i (n := 0) (As := []) (rest := []) hx hb hml hts hown hZ (zq_P hP) (c_X5_thrown l D cA _ hm2) gL_law_X5_thrown rfl rfl ⟨rfl, rfl⟩ ⟨by decide +kernel, (Nat.le_of_ble_eq_true rfl), (Nat.le_of_ble_eq_true rfl)⟩ m0_2 rfl hl.1 rfl (Nat.le_of_ble_eq_true rfl) ⟨by show _ ≤ 601024; omega, by show _ ≤ 7293034; omega⟩ rfl dL_law_1195 (fun r3 hr3 => ?_)
    obtain rfl := show r3 = nI (0) from hr3
    refine lv_iload hx hb dL_law_1198 (lv_at hl 1 rfl) ?_
    refine zc_eq (tgt := 1205) hx hb (by omega) (by omega) dL_law_1200 (by decide) (fun c_1 => ?_) (fun c_1 => absurd rfl c_1)
    refine lv_iload hx hb dL_law_1205 (lv_at hl 1 rfl) ?_
    refine zf_ne (tgt := 1222) hx hb (by omega) dL_law_1207 (by decide) (fun c_2 => False.elim (by omega)) (fun c_2 => ?_)
    refine lv_aload_n hx hb dL_law_1210 rfl (lv_at hl 5 rfl) ?_
    refine lv_iconst (v := nI (0)) hx hb dL_law_1211 (by decide) ?_
    refine va_lald hx hb hZ.1 hP 0 4 rfl rfl (vp_in_nI (show 0 < 1 by omega) (by omega)) dL_law_1212 ?_
    rw [nI_clamp (show 0 < 2 ^ 31 by omega)]
    refine zx_v (b := .long (nI (BT (LG mk tr le bo jf j t P (wl fw (nI t) nj)) (wl fw (nI t) nj).length (np 0) 7)).toInt64) (by rw [hf1]) ?_
    refine lv_iload hx hb dL_law_1213 (lv_at hl 0 rfl) ?_
    refine lv_i2l (v := (nI (BT (LG mk tr le bo jf j t P (wl fw (nI t) nj)) (wl fw (nI t) nj).length (np 0) 7)).toInt64) hx hb dL_law_1215 rfl ?_
    refine W.lcmp hx hb dL_law_1216 ?_
    refine zx_val (y := nI 0) (lg_cmp_self _) ?_
    refine zf_eq (tgt := 1222) hx hb (by omega) dL_law_1217 (by decide) (fun c_3 => ?_) (fun c_3 => False.elim (by omega))
    refine lv_goto (tgt := 1543) hx hb dL_law_1222 (by decide) ?_
    have hI2 := hI
    have hM2 := hM
    exact kont f1 u2 H locs ls _ _ (by omega) (by omega) ⟨lv_sub hl [2, 3, 4, 5, 6] rfl, hP, hD, hS, _, _, _, _, _, _, _, _, _, _, _, _, _, _, _, _, _, _, _, _, _, _, _, _, _, _, _, _, _, _, _, _, _, _, _, _, _, _, _, _, _, _, hL2, hI2, hm2, hM2⟩
  · obtain ⟨rfl, hK0, E9, hE9⟩ := hp1
    obtain ⟨hE9, hkp, oc9, t8, t9, t10, t11, t12, hL1⟩ := hE9
    have hm1 := mL_keep hm hkp
    have hK3 : (kR (ix v0 nd) hd (fun _ => some 0) (fun _ => true)) ≤ 3 := zexIS_le hE9
    have hP : va_P D vwCl ((o, zOut cA z) :: ux) H := hP
    have hD : va_D (lwA s) ((o, zOut cA z) :: ux) := hD
    obtain ⟨m0_1, -⟩ := id hm1
    refine lv_istore (lv' := [(5, .int (nI ((kR (ix v0 nd) hd (fun _ => some 0) (fun _ => true))))), (0, .ref b), (1, .ref (ad 0)), (2, .ref (gd 0)), (3, .ref o), (4, .int (nI (i)))]) hx hb dL_law_1180 hl (by decide) rfl (fun ls hl => ?_)
    refine lv_aload_n hx hb dL_law_1182 rfl (lv_at hl 3 rfl) ?_
    refine lv_aload_n hx hb dL_law_1183 rfl (lv_at hl 1 rfl) ?_
    refine lv_iload hx hb dL_law_1184 (lv_at hl 5 rfl) ?_
    refine lv_iconst (v := nI (1)) hx hb dL_law_1186 (by decide) ?_
    refine zo_add hx hb dL_law_1187 ?_
    refine va_sld hx hb hXs hbl hbA hS (vp_in_nI (show i + 1 < L by omega) (by omega)) dL_law_1188 ?_
    rw [nI_clamp (show i + 1 < 2 ^ 31 by omega)]
    refine zx_val (y := v0) (ev0.symm) ?_
    refine zq_V_i (n := 1) (mc := 0) (ms := 0) (As := [.int (v0)]) (rest := []) hx hb hml hts hown hZ hP hD hS hA (c_X5_bestTime_no l D cA _ _ hm1 hI hM v0 hK0) gL_law_X5_bestTime rfl rfl ⟨rfl, rfl⟩ ⟨by decide +kernel, (Nat.le_of_ble_eq_true rfl), (Nat.le_of_ble_eq_true rfl)⟩ m0_1 rfl hl.1 rfl (Nat.le_of_ble_eq_true rfl) ⟨by show _ ≤ 601024; omega, by show _ ≤ 7293034; omega⟩ rfl dL_law_1189 (fun r2 u2 H locs hp2 hP hD hS hz2 => ?_)
    obtain ⟨hkp2, my9, fls9, fod9, fle9, fro9, hm2⟩ := hp2
    have hL2 := zL_keep hL1 hkp2
    obtain ⟨m0_2, -⟩ := id hm2
    have hP : va_P D vwCl ((o, zOut cA z) :: u2) H := hP
    have hD : va_D (lwA s) ((o, zOut cA z) :: u2) := hD
    refine lv_istore (lv' := [(6, .int (r2)), (5, .int (nI ((kR (ix v0 nd) hd (fun _ => some 0) (fun _ => true))))), (0, .ref b), (1, .ref (ad 0)), (2, .ref (gd 0)), (3, .ref o), (4, .int (nI (i)))]) hx hb dL_law_1192 hl (by decide) rfl (fun ls hl => ?_)
    refine lv_aload_n hx hb dL_law_1194 rfl (lv_at hl 4 rfl) ?_
    refine zk_V_i (n := 0) (As := []) (rest := []) hx hb hml hts hown hZ (zq_P hP) (c_X5_thrown l D cA _ hm2) gL_law_X5_thrown rfl rfl ⟨rfl, rfl⟩ ⟨by decide +kernel, (Nat.le_of_ble_eq_true rfl), (Nat.le_of_ble_eq_true rfl)⟩ m0_2 rfl hl.1 rfl (Nat.le_of_ble_eq_true rfl) ⟨by show _ ≤ 601024; omega, by show _ ≤ 7293034; omega⟩ rfl dL_law_1195 (fun r3 hr3 => ?_)
    obtain rfl := show r3 = nI ((kR (ix v0 nd) hd (fun _ => some 0) (fun _ => true))) from hr3
    refine lv_iload hx hb dL_law_1198 (lv_at hl 1 rfl) ?_
    refine zc_eq (tgt := 1205) hx hb (by omega) (by omega) dL_law_1200 (by decide) (fun c_4 => ?_) (fun c_4 => absurd rfl c_4)
    refine lv_iload hx hb dL_law_1205 (lv_at hl 1 rfl) ?_
    refine zf_ne (tgt := 1222) hx hb (by omega) dL_law_1207 (by decide) (fun c_5 => ?_) (fun c_5 => absurd c_5 hK0)
    refine lv_goto (tgt := 1543) hx hb dL_law_1222 (by decide) ?_
    have hI2 := hI
    have hM2 := hM
    exact kont z u2 H locs ls _ _ (by omega) (by omega) ⟨lv_sub hl [2, 3, 4, 5, 6] rfl, hP, hD, hS, _, _, _, _, _, _, _, _, _, _, _, _, _, _, _, _, _, _, _, _, _, _, _, _, _, _, _, _, _, _, _, _, _, _, _, _, _, _, _, _, _, _, hL2, hI2, hm2, hM2⟩

set_option maxHeartbeats 4000000 in
set_option maxRecDepth 100000 in
theorem law_bestJob (l : Launch) (hlt : l.stackTraces = false) {p : Program} {e : Env} {s : State} {m : MethodId} {below : List Frame} {meth : Method} {c : Code} {Q : State → Prop} {D : va_G} {cA : Nat → ClassId} {b L : Nat} {xs : Nat → Int32} (F9 : lwF p s m c D cA b L xs) (ad gd : Nat → Nat) (o i cells slots : Nat) (hi : i + 4 ≤ L) (hL8 : L ≤ 2048) (hc9 : cells ≤ 600000) (hs9 : slots ≤ 7000000) (kont : lwK p l e s m below meth c Q D cA ad gd o b i cells slots) (z : Nat → Int64) (ws : va_W) (H : Heap) (locs : List Loc) (ls : Array Slot) (hI9 : lwI s D cA ad gd o b i H locs ls z ws) : W p l e room_1 s m #[Value.ref b] below meth c H locs cells slots Q (F0 m 1225 ls []) := by
  obtain ⟨hx, hb, hml, hown, hts, hZ, hX, hN, hXs, hbl⟩ := F9
  have hbA : ¬ lwA s b := Nat.not_le.mpr hbl
  have hA : ∀ q : Nat, s.heap.size ≤ q → lwA s q := fun _ h => h
  obtain ⟨hl, hP, hD, hS, hV⟩ := hI9
  obtain ⟨T, Bd, E, PT, PB, PE, n, tr, le, sl, mo, la, fc, bo, nd, mk, ck, ct, hd, pq, nj, fw, jf, dl, dn, oc, s8, s9, s10, s11, s12, sf, bf, pf, jt, fin, my, fls, fod, fle, fro, th, hL, hI, hm, hM⟩ := hV
  have hL0 := hL
  obtain ⟨⟨l22, l23, l24, l25, l26, l27, l28, l29, l30, l31, l32, l33, l34⟩, -⟩ := hL
  have hL := hL0
  obtain ⟨v0, ev0⟩ : ∃ y, y = xs (i + 1) := ⟨_, rfl⟩
  obtain ⟨v1, ev1⟩ : ∃ y, y = xs (i + 2) := ⟨_, rfl⟩
  have hl : lv_has ls 7 [(0, .ref b), (1, .ref (ad 0)), (2, .ref (gd 0)), (3, .ref o), (4, .int (nI (i)))] := hl
  refine lv_aload_n hx hb dL_law_1225 rfl (lv_at hl 1 rfl) ?_
  refine lv_aload_n hx hb dL_law_1226 rfl (lv_at hl 0 rfl) ?_
  refine lv_iload hx hb dL_law_1227 (lv_at hl 4 rfl) ?_
  refine lv_iconst (v := nI (1)) hx hb dL_law_1229 (by decide) ?_
  refine zo_add hx hb dL_law_1230 ?_
  refine va_sld hx hb hXs hbl hbA hS (vp_in_nI (show i + 1 < L by omega) (by omega)) dL_law_1231 ?_
  rw [nI_clamp (show i + 1 < 2 ^ 31 by omega)]
  refine zx_val (y := v0) (ev0.symm) ?_
  refine lv_aload_n hx hb dL_law_1232 rfl (lv_at hl 0 rfl) ?_
  refine lv_iload hx hb dL_law_1233 (lv_at hl 4 rfl) ?_
  refine lv_iconst (v := nI (2)) hx hb dL_law_1235 (by decide) ?_
  refine zo_add hx hb dL_law_1236 ?_
  refine va_sld hx hb hXs hbl hbA hS (vp_in_nI (show i + 2 < L by omega) (by omega)) dL_law_1237 ?_
  rw [nI_clamp (show i + 2 < 2 ^ 31 by omega)]
  refine zx_val (y := v1) (ev1.symm) ?_
  refine lv_aload_n hx hb dL_law_1238 rfl (lv_at hl 3 rfl) ?_
  refine zw_H_i (n := 4) (mc := 3) (ms := 18) (As := [.ref (ad 0), .int (v0), .int (v1), .ref o]) (rest := []) hx hb hml hts hown hZ hX hN hP hD hS hA (c_L_bestJob l D cA _ _ o z (ad 0) _ l22 _ _ _ _ (kR (ix v0 nd) hd (fun t => ix v1 (wl fw (nI t) nj).length) (fun _ => true)) v0 v1 (fun sz => c_X4_bestJob l hlt D cA sz ws ad T Bd E PT PB PE n tr le sl mo la fc bo nd mk ck ct hd pq nj fw jf dl dn oc s8 s9 s10 s11 s12 hL hI v0 v1) (fun _ _ h => h.1)) gL_law_L_bestJob rfl ⟨rfl, rfl⟩ ⟨by decide +kernel, (Nat.le_of_ble_eq_true rfl), (Nat.le_of_ble_eq_true rfl)⟩ hl.1 rfl (Nat.le_of_ble_eq_true rfl) ⟨by show _ ≤ 601024; omega, by show _ ≤ 7293034; omega⟩ rfl dL_law_1239 (fun r1 u1 H locs hp1 hP hD hS hz1 => ?_)
  rcases u1 with ⟨⟨ans, f1⟩, j, t, P, q, w1⟩ | ux
  · obtain ⟨rfl, hf1, hpc⟩ := hp1
    obtain ⟨hjn, hv0, hht, hpq, hP16, hq9, hv1, rfl, hkp, oc9, t8, t9, t10, t11, t12, hL1⟩ := hpc
    have hjn : j < nd := hjn
    have hv0 : v0 = nI j := hv0
    have hht : hd j = some t := hht
    have hpq : pq j = nI P := hpq
    have hP16 : P ≤ 1600 := hP16
    have hq9 : q < (wl fw (nI t) nj).length := hq9
    have hv1 : v1 = nI q := hv1
    have hf1 : f1 0 = (nI ((wl fw (nI t) nj).getD ((BO (LG mk tr le bo jf j t P (wl fw (nI t) nj)) (wl fw (nI t) nj).length (np 0) 7).getD q 0) 0)).toInt64 := hf1
    have hkp : zKeep ws w1 := hkp
    have hm1 := mL_keep hm hkp
    have hP : va_P D vwCl ((o, zOut cA f1) :: w1) H := hP
    have hD : va_D (lwA s) ((o, zOut cA f1) :: w1) := hD
    obtain ⟨m0_1, -⟩ := id hm1
    have hP9 := pq_le hI hjn hht hpq hP16
    refine lv_istore (lv' := [(5, .int (nI (0))), (0, .ref b), (1, .ref (ad 0)), (2, .ref (gd 0)), (3, .ref o), (4, .int (nI (i)))]) hx hb dL_law_1242 hl (by decide) rfl (fun ls hl => ?_)
    refine lv_aload_n hx hb dL_law_1244 rfl (lv_at hl 3 rfl) ?_
    refine lv_aload_n hx hb dL_law_1245 rfl (lv_at hl 1 rfl) ?_
    refine lv_iload hx hb dL_law_1246 (lv_at hl 5 rfl) ?_
    refine lv_iconst (v := nI (1)) hx hb dL_law_1248 (by decide) ?_
    refine zo_add hx hb dL_law_1249 ?_
    refine va_sld hx hb hXs hbl hbA hS (vp_in_nI (show i + 1 < L by omega) (by omega)) dL_law_1250 ?_
    rw [nI_clamp (show i + 1 < 2 ^ 31 by omega)]
    refine zx_val (y := v0) (ev0.symm) ?_
    refine zx_val (y := nI (j)) (hv0) ?_
    refine lv_aload_n hx hb dL_law_1251 rfl (lv_at hl 1 rfl) ?_
    refine lv_iload hx hb dL_law_1252 (lv_at hl 5 rfl) ?_
    refine lv_iconst (v := nI (2)) hx hb dL_law_1254 (by decide) ?_
    refine zo_add hx hb dL_law_1255 ?_
    refine va_sld hx hb hXs hbl hbA hS (vp_in_nI (show i + 2 < L by omega) (by omega)) dL_law_1256 ?_
    rw [nI_clamp (show i + 2 < 2 ^ 31 by omega)]
    refine zx_val (y := v1) (ev1.symm) ?_
    refine zx_val (y := nI (q)) (hv1) ?_
    refine zq_V_i (n := 2) (mc := 0) (ms := 0) (As := [.int (nI (j)), .int (nI (q))]) (rest := []) hx hb hml hts hown hZ hP hD hS hA (c_X5_bestJob_ok l D cA _ _ hm1 hI hM j t P hjn hht hpq hP9 q hq9) gL_law_X5_bestJob rfl rfl ⟨rfl, rfl⟩ ⟨by decide +kernel, (Nat.le_of_ble_eq_true rfl), (Nat.le_of_ble_eq_true rfl)⟩ m0_1 rfl hl.1 rfl (Nat.le_of_ble_eq_true rfl) ⟨by show _ ≤ 601024; omega, by show _ ≤ 7293034; omega⟩ rfl dL_law_1257 (fun r2 u2 H locs hp2 hP hD hS hz2 => ?_)
    obtain ⟨rfl, hkp2, my9, fls9, fod9, fle9, fro9, hm2⟩ := hp2
    have hL2 := zL_keep hL1 hkp2
    obtain ⟨m0_2, -⟩ := id hm2
    have hP : va_P D vwCl ((o, zOut cA f1) :: u2) H := hP
    have hD : va_D (lwA s) ((o, zOut cA f1) :: u2) := hD
    refine lv_istore (lv' := [(6, .int (nI ((wl fw (nI t) nj).getD ((BO (LG mk tr le bo jf j t P (wl fw (nI t) nj)) (wl fw (nI t) nj).length (np 0) 7).getD q 0) 0))), (5, .int (nI (0))), (0, .ref b), (1, .ref (ad 0)), (2, .ref (gd 0)), (3, .ref o), (4, .int (nI (i)))]) hx hb dL_law_1260 hl (by decide) rfl (fun ls hl => ?_)
    refine lv_aload_n hx hb dL_law_1262 rfl (lv_at hl 4 rfl) ?_
    refine zk_V_i (n := 0) (As := []) (rest := []) hx hb hml hts hown hZ (zq_P hP) (c_X5_thrown l D cA _ hm2) gL_law_X5_thrown rfl rfl ⟨rfl, rfl⟩ ⟨by decide +kernel, (Nat.le_of_ble_eq_true rfl), (Nat.le_of_ble_eq_true rfl)⟩ m0_2 rfl hl.1 rfl (Nat.le_of_ble_eq_true rfl) ⟨by show _ ≤ 601024; omega, by show _ ≤ 7293034; omega⟩ rfl dL_law_1263 (fun r3 hr3 => ?_)
    obtain rfl := show r3 = nI (0) from hr3
    refine lv_iload hx hb dL_law_1266 (lv_at hl 1 rfl) ?_
    refine zc_eq (tgt := 1273) hx hb (by omega) (by omega) dL_law_1268 (by decide) (fun c_1 => ?_) (fun c_1 => absurd rfl c_1)
    refine lv_iload hx hb dL_law_1273 (lv_at hl 1 rfl) ?_
    refine zf_ne (tgt := 1290) hx hb (by omega) dL_law_1275 (by decide) (fun c_2 => False.elim (by omega)) (fun c_2 => ?_)
    refine lv_aload_n hx hb dL_law_1278 rfl (lv_at hl 5 rfl) ?_
    refine lv_iconst (v := nI (0)) hx hb dL_law_1279 (by decide) ?_
    refine va_lald hx hb hZ.1 hP 0 4 rfl rfl (vp_in_nI (show 0 < 1 by omega) (by omega)) dL_law_1280 ?_
    rw [nI_clamp (show 0 < 2 ^ 31 by omega)]
    refine zx_v (b := .long (nI ((wl fw (nI t) nj).getD ((BO (LG mk tr le bo jf j t P (wl fw (nI t) nj)) (wl fw (nI t) nj).length (np 0) 7).getD q 0) 0)).toInt64) (by rw [hf1]) ?_
    refine lv_iload hx hb dL_law_1281 (lv_at hl 0 rfl) ?_
    refine lv_i2l (v := (nI ((wl fw (nI t) nj).getD ((BO (LG mk tr le bo jf j t P (wl fw (nI t) nj)) (wl fw (nI t) nj).length (np 0) 7).getD q 0) 0)).toInt64) hx hb dL_law_1283 rfl ?_
    refine W.lcmp hx hb dL_law_1284 ?_
    refine zx_val (y := nI 0) (lg_cmp_self _) ?_
    refine zf_eq (tgt := 1290) hx hb (by omega) dL_law_1285 (by decide) (fun c_3 => ?_) (fun c_3 => False.elim (by omega))
    refine lv_goto (tgt := 1543) hx hb dL_law_1290 (by decide) ?_
    have hI2 := hI
    have hM2 := hM
    exact kont f1 u2 H locs ls _ _ (by omega) (by omega) ⟨lv_sub hl [2, 3, 4, 5, 6] rfl, hP, hD, hS, _, _, _, _, _, _, _, _, _, _, _, _, _, _, _, _, _, _, _, _, _, _, _, _, _, _, _, _, _, _, _, _, _, _, _, _, _, _, _, _, _, _, hL2, hI2, hm2, hM2⟩
  · obtain ⟨rfl, hK0, E9, hE9⟩ := hp1
    obtain ⟨hE9, hkp, oc9, t8, t9, t10, t11, t12, hL1⟩ := hE9
    have hm1 := mL_keep hm hkp
    have hK3 : (kR (ix v0 nd) hd (fun t => ix v1 (wl fw (nI t) nj).length) (fun _ => true)) ≤ 3 := zexIS_le hE9
    have hP : va_P D vwCl ((o, zOut cA z) :: ux) H := hP
    have hD : va_D (lwA s) ((o, zOut cA z) :: ux) := hD
    obtain ⟨m0_1, -⟩ := id hm1
    refine lv_istore (lv' := [(5, .int (nI ((kR (ix v0 nd) hd (fun t => ix v1 (wl fw (nI t) nj).length) (fun _ => true))))), (0, .ref b), (1, .ref (ad 0)), (2, .ref (gd 0)), (3, .ref o), (4, .int (nI (i)))]) hx hb dL_law_1242 hl (by decide) rfl (fun ls hl => ?_)
    refine lv_aload_n hx hb dL_law_1244 rfl (lv_at hl 3 rfl) ?_
    refine lv_aload_n hx hb dL_law_1245 rfl (lv_at hl 1 rfl) ?_
    refine lv_iload hx hb dL_law_1246 (lv_at hl 5 rfl) ?_
    refine lv_iconst (v := nI (1)) hx hb dL_law_1248 (by decide) ?_
    refine zo_add hx hb dL_law_1249 ?_
    refine va_sld hx hb hXs hbl hbA hS (vp_in_nI (show i + 1 < L by omega) (by omega)) dL_law_1250 ?_
    rw [nI_clamp (show i + 1 < 2 ^ 31 by omega)]
    refine zx_val (y := v0) (ev0.symm) ?_
    refine lv_aload_n hx hb dL_law_1251 rfl (lv_at hl 1 rfl) ?_
    refine lv_iload hx hb dL_law_1252 (lv_at hl 5 rfl) ?_
    refine lv_iconst (v := nI (2)) hx hb dL_law_1254 (by decide) ?_
    refine zo_add hx hb dL_law_1255 ?_
    refine va_sld hx hb hXs hbl hbA hS (vp_in_nI (show i + 2 < L by omega) (by omega)) dL_law_1256 ?_
    rw [nI_clamp (show i + 2 < 2 ^ 31 by omega)]
    refine zx_val (y := v1) (ev1.symm) ?_
    refine zq_V_i (n := 2) (mc := 0) (ms := 0) (As := [.int (v0), .int (v1)]) (rest := []) hx hb hml hts hown hZ hP hD hS hA (c_X5_bestJob_no l D cA _ _ hm1 hI hM v0 v1 hK0) gL_law_X5_bestJob rfl rfl ⟨rfl, rfl⟩ ⟨by decide +kernel, (Nat.le_of_ble_eq_true rfl), (Nat.le_of_ble_eq_true rfl)⟩ m0_1 rfl hl.1 rfl (Nat.le_of_ble_eq_true rfl) ⟨by show _ ≤ 601024; omega, by show _ ≤ 7293034; omega⟩ rfl dL_law_1257 (fun r2 u2 H locs hp2 hP hD hS hz2 => ?_)
    obtain ⟨hkp2, my9, fls9, fod9, fle9, fro9, hm2⟩ := hp2
    have hL2 := zL_keep hL1 hkp2
    obtain ⟨m0_2, -⟩ := id hm2
    have hP : va_P D vwCl ((o, zOut cA z) :: u2) H := hP
    have hD : va_D (lwA s) ((o, zOut cA z) :: u2) := hD
    refine lv_istore (lv' := [(6, .int (r2)), (5, .int (nI ((kR (ix v0 nd) hd (fun t => ix v1 (wl fw (nI t) nj).length) (fun _ => true))))), (0, .ref b), (1, .ref (ad 0)), (2, .ref (gd 0)), (3, .ref o), (4, .int (nI (i)))]) hx hb dL_law_1260 hl (by decide) rfl (fun ls hl => ?_)
    refine lv_aload_n hx hb dL_law_1262 rfl (lv_at hl 4 rfl) ?_
    refine zk_V_i (n := 0) (As := []) (rest := []) hx hb hml hts hown hZ (zq_P hP) (c_X5_thrown l D cA _ hm2) gL_law_X5_thrown rfl rfl ⟨rfl, rfl⟩ ⟨by decide +kernel, (Nat.le_of_ble_eq_true rfl), (Nat.le_of_ble_eq_true rfl)⟩ m0_2 rfl hl.1 rfl (Nat.le_of_ble_eq_true rfl) ⟨by show _ ≤ 601024; omega, by show _ ≤ 7293034; omega⟩ rfl dL_law_1263 (fun r3 hr3 => ?_)
    obtain rfl := show r3 = nI ((kR (ix v0 nd) hd (fun t => ix v1 (wl fw (nI t) nj).length) (fun _ => true))) from hr3
    refine lv_iload hx hb dL_law_1266 (lv_at hl 1 rfl) ?_
    refine zc_eq (tgt := 1273) hx hb (by omega) (by omega) dL_law_1268 (by decide) (fun c_4 => ?_) (fun c_4 => absurd rfl c_4)
    refine lv_iload hx hb dL_law_1273 (lv_at hl 1 rfl) ?_
    refine zf_ne (tgt := 1290) hx hb (by omega) dL_law_1275 (by decide) (fun c_5 => ?_) (fun c_5 => absurd c_5 hK0)
    refine lv_goto (tgt := 1543) hx hb dL_law_1290 (by decide) ?_
    have hI2 := hI
    have hM2 := hM
    exact kont z u2 H locs ls _ _ (by omega) (by omega) ⟨lv_sub hl [2, 3, 4, 5, 6] rfl, hP, hD, hS, _, _, _, _, _, _, _, _, _, _, _, _, _, _, _, _, _, _, _, _, _, _, _, _, _, _, _, _, _, _, _, _, _, _, _, _, _, _, _, _, _, _, hL2, hI2, hm2, hM2⟩

set_option maxHeartbeats 4000000 in
set_option maxRecDepth 100000 in
theorem law_insertedTime (l : Launch) (hlt : l.stackTraces = false) {p : Program} {e : Env} {s : State} {m : MethodId} {below : List Frame} {meth : Method} {c : Code} {Q : State → Prop} {D : va_G} {cA : Nat → ClassId} {b L : Nat} {xs : Nat → Int32} (F9 : lwF p s m c D cA b L xs) (ad gd : Nat → Nat) (o i cells slots : Nat) (hi : i + 4 ≤ L) (hL8 : L ≤ 2048) (hc9 : cells ≤ 600000) (hs9 : slots ≤ 7000000) (kont : lwK p l e s m below meth c Q D cA ad gd o b i cells slots) (z : Nat → Int64) (ws : va_W) (H : Heap) (locs : List Loc) (ls : Array Slot) (hI9 : lwI s D cA ad gd o b i H locs ls z ws) : W p l e room_1 s m #[Value.ref b] below meth c H locs cells slots Q (F0 m 1293 ls []) := by
  obtain ⟨hx, hb, hml, hown, hts, hZ, hX, hN, hXs, hbl⟩ := F9
  have hbA : ¬ lwA s b := Nat.not_le.mpr hbl
  have hA : ∀ q : Nat, s.heap.size ≤ q → lwA s q := fun _ h => h
  obtain ⟨hl, hP, hD, hS, hV⟩ := hI9
  obtain ⟨T, Bd, E, PT, PB, PE, n, tr, le, sl, mo, la, fc, bo, nd, mk, ck, ct, hd, pq, nj, fw, jf, dl, dn, oc, s8, s9, s10, s11, s12, sf, bf, pf, jt, fin, my, fls, fod, fle, fro, th, hL, hI, hm, hM⟩ := hV
  have hL0 := hL
  obtain ⟨⟨l22, l23, l24, l25, l26, l27, l28, l29, l30, l31, l32, l33, l34⟩, -⟩ := hL
  have hL := hL0
  obtain ⟨v0, ev0⟩ : ∃ y, y = xs (i + 1) := ⟨_, rfl⟩
  have hl : lv_has ls 7 [(0, .ref b), (1, .ref (ad 0)), (2, .ref (gd 0)), (3, .ref o), (4, .int (nI (i)))] := hl
  refine lv_aload_n hx hb dL_law_1293 rfl (lv_at hl 1 rfl) ?_
  refine lv_aload_n hx hb dL_law_1294 rfl (lv_at hl 0 rfl) ?_
  refine lv_iload hx hb dL_law_1295 (lv_at hl 4 rfl) ?_
  refine lv_iconst (v := nI (1)) hx hb dL_law_1297 (by decide) ?_
  refine zo_add hx hb dL_law_1298 ?_
  refine va_sld hx hb hXs hbl hbA hS (vp_in_nI (show i + 1 < L by omega) (by omega)) dL_law_1299 ?_
  rw [nI_clamp (show i + 1 < 2 ^ 31 by omega)]
  refine zx_val (y := v0) (ev0.symm) ?_
  refine lv_aload_n hx hb dL_law_1300 rfl (lv_at hl 3 rfl) ?_
  refine zw_H_i (n := 3) (mc := 2) (ms := 12) (As := [.ref (ad 0), .int (v0), .ref o]) (rest := []) hx hb hml hts hown hZ hX hN hP hD hS hA (c_L_insertedTime l D cA _ _ o z (ad 0) _ l22 _ _ _ _ (kR (ix v0 nd) hd (fun _ => some 0) (fun _ => true)) v0 (fun sz => c_X4_insertedTime l hlt D cA sz ws ad T Bd E PT PB PE n tr le sl mo la fc bo nd mk ck ct hd pq nj fw jf dl dn oc s8 s9 s10 s11 s12 hL hI v0) (fun _ _ h => h.1)) gL_law_L_insertedTime rfl ⟨rfl, rfl⟩ ⟨by decide +kernel, (Nat.le_of_ble_eq_true rfl), (Nat.le_of_ble_eq_true rfl)⟩ hl.1 rfl (Nat.le_of_ble_eq_true rfl) ⟨by show _ ≤ 601024; omega, by show _ ≤ 7293034; omega⟩ rfl dL_law_1301 (fun r1 u1 H locs hp1 hP hD hS hz1 => ?_)
  rcases u1 with ⟨⟨ans, f1⟩, j, t, P, w1⟩ | ux
  · obtain ⟨rfl, hf1, hpc⟩ := hp1
    obtain ⟨hjn, hv0, hht, hpq, hP16, rfl, hkp, oc9, t8, t9, t10, t11, t12, hL1⟩ := hpc
    have hjn : j < nd := hjn
    have hv0 : v0 = nI j := hv0
    have hht : hd j = some t := hht
    have hpq : pq j = nI P := hpq
    have hP16 : P ≤ 1600 := hP16
    have hf1 : f1 0 = (nI (pt (LG mk tr le bo jf j t P (wl fw (nI t) nj)) 7 (insL (LG mk tr le bo jf j t P (wl fw (nI t) nj)) (wl fw (nI t) nj).length))).toInt64 := hf1
    have hkp : zKeep ws w1 := hkp
    have hm1 := mL_keep hm hkp
    have hP : va_P D vwCl ((o, zOut cA f1) :: w1) H := hP
    have hD : va_D (lwA s) ((o, zOut cA f1) :: w1) := hD
    obtain ⟨m0_1, -⟩ := id hm1
    have hP9 := pq_le hI hjn hht hpq hP16
    refine lv_istore (lv' := [(5, .int (nI (0))), (0, .ref b), (1, .ref (ad 0)), (2, .ref (gd 0)), (3, .ref o), (4, .int (nI (i)))]) hx hb dL_law_1304 hl (by decide) rfl (fun ls hl => ?_)
    refine lv_aload_n hx hb dL_law_1306 rfl (lv_at hl 3 rfl) ?_
    refine lv_aload_n hx hb dL_law_1307 rfl (lv_at hl 1 rfl) ?_
    refine lv_iload hx hb dL_law_1308 (lv_at hl 5 rfl) ?_
    refine lv_iconst (v := nI (1)) hx hb dL_law_1310 (by decide) ?_
    refine zo_add hx hb dL_law_1311 ?_
    refine va_sld hx hb hXs hbl hbA hS (vp_in_nI (show i + 1 < L by omega) (by omega)) dL_law_1312 ?_
    rw [nI_clamp (show i + 1 < 2 ^ 31 by omega)]
    refine zx_val (y := v0) (ev0.symm) ?_
    refine zx_val (y := nI (j)) (hv0) ?_
    refine zq_V_i (n := 1) (mc := 0) (ms := 0) (As := [.int (nI (j))]) (rest := []) hx hb hml hts hown hZ hP hD hS hA (c_X5_insertedTime_ok l D cA _ _ hm1 hI hM j t P hjn hht hpq hP9) gL_law_X5_insertedTime rfl rfl ⟨rfl, rfl⟩ ⟨by decide +kernel, (Nat.le_of_ble_eq_true rfl), (Nat.le_of_ble_eq_true rfl)⟩ m0_1 rfl hl.1 rfl (Nat.le_of_ble_eq_true rfl) ⟨by show _ ≤ 601024; omega, by show _ ≤ 7293034; omega⟩ rfl dL_law_1313 (fun r2 u2 H locs hp2 hP hD hS hz2 => ?_)
    obtain ⟨rfl, hkp2, my9, fls9, fod9, fle9, fro9, hm2⟩ := hp2
    have hL2 := zL_keep hL1 hkp2
    obtain ⟨m0_2, -⟩ := id hm2
    have hP : va_P D vwCl ((o, zOut cA f1) :: u2) H := hP
    have hD : va_D (lwA s) ((o, zOut cA f1) :: u2) := hD
    refine lv_istore (lv' := [(6, .int (nI (pt (LG mk tr le bo jf j t P (wl fw (nI t) nj)) 7 (insL (LG mk tr le bo jf j t P (wl fw (nI t) nj)) (wl fw (nI t) nj).length)))), (5, .int (nI (0))), (0, .ref b), (1, .ref (ad 0)), (2, .ref (gd 0)), (3, .ref o), (4, .int (nI (i)))]) hx hb dL_law_1316 hl (by decide) rfl (fun ls hl => ?_)
    refine lv_aload_n hx hb dL_law_1318 rfl (lv_at hl 4 rfl) ?_
    refine zk_V_i (n := 0) (As := []) (rest := []) hx hb hml hts hown hZ (zq_P hP) (c_X5_thrown l D cA _ hm2) gL_law_X5_thrown rfl rfl ⟨rfl, rfl⟩ ⟨by decide +kernel, (Nat.le_of_ble_eq_true rfl), (Nat.le_of_ble_eq_true rfl)⟩ m0_2 rfl hl.1 rfl (Nat.le_of_ble_eq_true rfl) ⟨by show _ ≤ 601024; omega, by show _ ≤ 7293034; omega⟩ rfl dL_law_1319 (fun r3 hr3 => ?_)
    obtain rfl := show r3 = nI (0) from hr3
    refine lv_iload hx hb dL_law_1322 (lv_at hl 1 rfl) ?_
    refine zc_eq (tgt := 1329) hx hb (by omega) (by omega) dL_law_1324 (by decide) (fun c_1 => ?_) (fun c_1 => absurd rfl c_1)
    refine lv_iload hx hb dL_law_1329 (lv_at hl 1 rfl) ?_
    refine zf_ne (tgt := 1346) hx hb (by omega) dL_law_1331 (by decide) (fun c_2 => False.elim (by omega)) (fun c_2 => ?_)
    refine lv_aload_n hx hb dL_law_1334 rfl (lv_at hl 5 rfl) ?_
    refine lv_iconst (v := nI (0)) hx hb dL_law_1335 (by decide) ?_
    refine va_lald hx hb hZ.1 hP 0 4 rfl rfl (vp_in_nI (show 0 < 1 by omega) (by omega)) dL_law_1336 ?_
    rw [nI_clamp (show 0 < 2 ^ 31 by omega)]
    refine zx_v (b := .long (nI (pt (LG mk tr le bo jf j t P (wl fw (nI t) nj)) 7 (insL (LG mk tr le bo jf j t P (wl fw (nI t) nj)) (wl fw (nI t) nj).length))).toInt64) (by rw [hf1]) ?_
    refine lv_iload hx hb dL_law_1337 (lv_at hl 0 rfl) ?_
    refine lv_i2l (v := (nI (pt (LG mk tr le bo jf j t P (wl fw (nI t) nj)) 7 (insL (LG mk tr le bo jf j t P (wl fw (nI t) nj)) (wl fw (nI t) nj).length))).toInt64) hx hb dL_law_1339 rfl ?_
    refine W.lcmp hx hb dL_law_1340 ?_
    refine zx_val (y := nI 0) (lg_cmp_self _) ?_
    refine zf_eq (tgt := 1346) hx hb (by omega) dL_law_1341 (by decide) (fun c_3 => ?_) (fun c_3 => False.elim (by omega))
    refine lv_goto (tgt := 1543) hx hb dL_law_1346 (by decide) ?_
    have hI2 := hI
    have hM2 := hM
    exact kont f1 u2 H locs ls _ _ (by omega) (by omega) ⟨lv_sub hl [2, 3, 4, 5, 6] rfl, hP, hD, hS, _, _, _, _, _, _, _, _, _, _, _, _, _, _, _, _, _, _, _, _, _, _, _, _, _, _, _, _, _, _, _, _, _, _, _, _, _, _, _, _, _, _, hL2, hI2, hm2, hM2⟩
  · obtain ⟨rfl, hK0, E9, hE9⟩ := hp1
    obtain ⟨hE9, hkp, oc9, t8, t9, t10, t11, t12, hL1⟩ := hE9
    have hm1 := mL_keep hm hkp
    have hK3 : (kR (ix v0 nd) hd (fun _ => some 0) (fun _ => true)) ≤ 3 := zexIS_le hE9
    have hP : va_P D vwCl ((o, zOut cA z) :: ux) H := hP
    have hD : va_D (lwA s) ((o, zOut cA z) :: ux) := hD
    obtain ⟨m0_1, -⟩ := id hm1
    refine lv_istore (lv' := [(5, .int (nI ((kR (ix v0 nd) hd (fun _ => some 0) (fun _ => true))))), (0, .ref b), (1, .ref (ad 0)), (2, .ref (gd 0)), (3, .ref o), (4, .int (nI (i)))]) hx hb dL_law_1304 hl (by decide) rfl (fun ls hl => ?_)
    refine lv_aload_n hx hb dL_law_1306 rfl (lv_at hl 3 rfl) ?_
    refine lv_aload_n hx hb dL_law_1307 rfl (lv_at hl 1 rfl) ?_
    refine lv_iload hx hb dL_law_1308 (lv_at hl 5 rfl) ?_
    refine lv_iconst (v := nI (1)) hx hb dL_law_1310 (by decide) ?_
    refine zo_add hx hb dL_law_1311 ?_
    refine va_sld hx hb hXs hbl hbA hS (vp_in_nI (show i + 1 < L by omega) (by omega)) dL_law_1312 ?_
    rw [nI_clamp (show i + 1 < 2 ^ 31 by omega)]
    refine zx_val (y := v0) (ev0.symm) ?_
    refine zq_V_i (n := 1) (mc := 0) (ms := 0) (As := [.int (v0)]) (rest := []) hx hb hml hts hown hZ hP hD hS hA (c_X5_insertedTime_no l D cA _ _ hm1 hI hM v0 hK0) gL_law_X5_insertedTime rfl rfl ⟨rfl, rfl⟩ ⟨by decide +kernel, (Nat.le_of_ble_eq_true rfl), (Nat.le_of_ble_eq_true rfl)⟩ m0_1 rfl hl.1 rfl (Nat.le_of_ble_eq_true rfl) ⟨by show _ ≤ 601024; omega, by show _ ≤ 7293034; omega⟩ rfl dL_law_1313 (fun r2 u2 H locs hp2 hP hD hS hz2 => ?_)
    obtain ⟨hkp2, my9, fls9, fod9, fle9, fro9, hm2⟩ := hp2
    have hL2 := zL_keep hL1 hkp2
    obtain ⟨m0_2, -⟩ := id hm2
    have hP : va_P D vwCl ((o, zOut cA z) :: u2) H := hP
    have hD : va_D (lwA s) ((o, zOut cA z) :: u2) := hD
    refine lv_istore (lv' := [(6, .int (r2)), (5, .int (nI ((kR (ix v0 nd) hd (fun _ => some 0) (fun _ => true))))), (0, .ref b), (1, .ref (ad 0)), (2, .ref (gd 0)), (3, .ref o), (4, .int (nI (i)))]) hx hb dL_law_1316 hl (by decide) rfl (fun ls hl => ?_)
    refine lv_aload_n hx hb dL_law_1318 rfl (lv_at hl 4 rfl) ?_
    refine zk_V_i (n := 0) (As := []) (rest := []) hx hb hml hts hown hZ (zq_P hP) (c_X5_thrown l D cA _ hm2) gL_law_X5_thrown rfl rfl ⟨rfl, rfl⟩ ⟨by decide +kernel, (Nat.le_of_ble_eq_true rfl), (Nat.le_of_ble_eq_true rfl)⟩ m0_2 rfl hl.1 rfl (Nat.le_of_ble_eq_true rfl) ⟨by show _ ≤ 601024; omega, by show _ ≤ 7293034; omega⟩ rfl dL_law_1319 (fun r3 hr3 => ?_)
    obtain rfl := show r3 = nI ((kR (ix v0 nd) hd (fun _ => some 0) (fun _ => true))) from hr3
    refine lv_iload hx hb dL_law_1322 (lv_at hl 1 rfl) ?_
    refine zc_eq (tgt := 1329) hx hb (by omega) (by omega) dL_law_1324 (by decide) (fun c_4 => ?_) (fun c_4 => absurd rfl c_4)
    refine lv_iload hx hb dL_law_1329 (lv_at hl 1 rfl) ?_
    refine zf_ne (tgt := 1346) hx hb (by omega) dL_law_1331 (by decide) (fun c_5 => ?_) (fun c_5 => absurd c_5 hK0)
    refine lv_goto (tgt := 1543) hx hb dL_law_1346 (by decide) ?_
    have hI2 := hI
    have hM2 := hM
    exact kont z u2 H locs ls _ _ (by omega) (by omega) ⟨lv_sub hl [2, 3, 4, 5, 6] rfl, hP, hD, hS, _, _, _, _, _, _, _, _, _, _, _, _, _, _, _, _, _, _, _, _, _, _, _, _, _, _, _, _, _, _, _, _, _, _, _, _, _, _, _, _, _, _, hL2, hI2, hm2, hM2⟩
