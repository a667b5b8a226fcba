set_option maxHeartbeats 4000000 in
set_option maxRecDepth 100000 in
theorem law_read (l : Launch) (hlt : l.stackTraces = false) {p : Program} {e : Env} {s : State} {m : MethodId} {below : List Frame} {meth : Method} {c : Code} {Q : State → Prop} {D : va_G} {cA : Nat → ClassId} {b L : Nat} {xs : Nat → Int32} (F9 : lwF p s m c D cA b L xs) (ad gd : Nat → Nat) (o i cells slots : Nat) (hi : i + 4 ≤ L) (hL8 : L ≤ 2048) (hc9 : cells ≤ 600000) (hs9 : slots ≤ 7000000) (kont : lwK p l e s m below meth c Q D cA ad gd o b i cells slots) (z : Nat → Int64) (ws : va_W) (H : Heap) (locs : List Loc) (ls : Array Slot) (hI9 : lwI s D cA ad gd o b i H locs ls z ws) : W p l e room_1 s m #[Value.ref b] below meth c H locs cells slots Q (F0 m 784 ls []) := by
  obtain ⟨hx, hb, hml, hown, hts, hZ, hX, hN, hXs, hbl⟩ := F9
  have hbA : ¬ lwA s b := Nat.not_le.mpr hbl
  have hA : ∀ q : Nat, s.heap.size ≤ q → lwA s q := fun _ h => h
  obtain ⟨hl, hP, hD, hS, hV⟩ := hI9
  obtain ⟨T, Bd, E, PT, PB, PE, n, tr, le, sl, mo, la, fc, bo, nd, mk, ck, ct, hd, pq, nj, fw, jf, dl, dn, oc, s8, s9, s10, s11, s12, sf, bf, pf, jt, fin, my, fls, fod, fle, fro, th, hL, hI, hm, hM⟩ := hV
  have hL0 := hL
  obtain ⟨⟨l22, l23, l24, l25, l26, l27, l28, l29, l30, l31, l32, l33, l34⟩, -⟩ := hL
  have hL := hL0
  obtain ⟨v0, ev0⟩ : ∃ y, y = xs (i + 1) := ⟨_, rfl⟩
  obtain ⟨v1, ev1⟩ : ∃ y, y = xs (i + 2) := ⟨_, rfl⟩
  have hl : lv_has ls 7 [(0, .ref b), (1, .ref (ad 0)), (2, .ref (gd 0)), (3, .ref o), (4, .int (nI (i)))] := hl
  refine lv_aload_n hx hb dL_law_784 rfl (lv_at hl 1 rfl) ?_
  refine lv_aload_n hx hb dL_law_785 rfl (lv_at hl 0 rfl) ?_
  refine lv_iload hx hb dL_law_786 (lv_at hl 4 rfl) ?_
  refine lv_iconst (v := nI (1)) hx hb dL_law_788 (by decide) ?_
  refine zo_add hx hb dL_law_789 ?_
  refine va_sld hx hb hXs hbl hbA hS (vp_in_nI (show i + 1 < L by omega) (by omega)) dL_law_790 ?_
  rw [nI_clamp (show i + 1 < 2 ^ 31 by omega)]
  refine zx_val (y := v0) (ev0.symm) ?_
  refine lv_aload_n hx hb dL_law_791 rfl (lv_at hl 0 rfl) ?_
  refine lv_iload hx hb dL_law_792 (lv_at hl 4 rfl) ?_
  refine lv_iconst (v := nI (2)) hx hb dL_law_794 (by decide) ?_
  refine zo_add hx hb dL_law_795 ?_
  refine va_sld hx hb hXs hbl hbA hS (vp_in_nI (show i + 2 < L by omega) (by omega)) dL_law_796 ?_
  rw [nI_clamp (show i + 2 < 2 ^ 31 by omega)]
  refine zx_val (y := v1) (ev1.symm) ?_
  refine lv_aload_n hx hb dL_law_797 rfl (lv_at hl 3 rfl) ?_
  refine zw_H_i (n := 4) (mc := 4) (ms := 24) (As := [.ref (ad 0), .int (v0), .int (v1), .ref o]) (rest := []) hx hb hml hts hown hZ hX hN hP hD hS hA (c_L_read l D cA _ _ o z (ad 0) _ l22 _ _ _ _ (kR (ix v0 nd) hd (fun t => ix v1 (fc t)) (fun j => decide (ct j < 12))) v0 v1 (fun sz => c_X4_read l hlt D cA sz ws ad T Bd E PT PB PE n tr le sl mo la fc bo nd mk ck ct hd pq nj fw jf dl dn oc s8 s9 s10 s11 s12 hL hI v0 v1) (fun _ _ h => h)) gL_law_L_read rfl ⟨rfl, rfl⟩ ⟨by decide +kernel, (Nat.le_of_ble_eq_true rfl), (Nat.le_of_ble_eq_true rfl)⟩ hl.1 rfl (Nat.le_of_ble_eq_true rfl) ⟨by show _ ≤ 601024; omega, by show _ ≤ 7293034; omega⟩ rfl dL_law_798 (fun r1 u1 H locs hp1 hP hD hS hz1 => ?_)
  rcases u1 with ⟨⟨ans, f1⟩, j, t, P, f, w1⟩ | ux
  · obtain ⟨rfl, hf1, hpc⟩ := hp1
    obtain ⟨hjn, hv0, hht, hpq, hP16, hfn, hv1, hct, rfl, hkp, hL1⟩ := hpc
    have hjn : j < nd := hjn
    have hv0 : v0 = nI j := hv0
    have hht : hd j = some t := hht
    have hpq : pq j = nI P := hpq
    have hP16 : P ≤ 1600 := hP16
    have hfn : f < fc t := hfn
    have hv1 : v1 = nI f := hv1
    have hct : ct j < 12 := hct
    have hf1 : f1 0 = (nI (legT (zpa (mk j)) (zsp (mk j)) (tr t) (le t) (bo t) P f)).toInt64 := hf1
    have hkp : zKeep ws w1 := hkp
    have hm1 := mL_keep hm hkp
    have hP : va_P D vwCl ((o, zOut cA f1) :: w1) H := hP
    have hD : va_D (lwA s) ((o, zOut cA f1) :: w1) := hD
    obtain ⟨m0_1, -⟩ := id hm1
    have hP9 := pq_le hI hjn hht hpq hP16
    refine lv_istore (lv' := [(5, .int (nI (0))), (0, .ref b), (1, .ref (ad 0)), (2, .ref (gd 0)), (3, .ref o), (4, .int (nI (i)))]) hx hb dL_law_801 hl (by decide) rfl (fun ls hl => ?_)
    refine lv_aload_n hx hb dL_law_803 rfl (lv_at hl 3 rfl) ?_
    refine lv_aload_n hx hb dL_law_804 rfl (lv_at hl 1 rfl) ?_
    refine lv_iload hx hb dL_law_805 (lv_at hl 5 rfl) ?_
    refine lv_iconst (v := nI (1)) hx hb dL_law_807 (by decide) ?_
    refine zo_add hx hb dL_law_808 ?_
    refine va_sld hx hb hXs hbl hbA hS (vp_in_nI (show i + 1 < L by omega) (by omega)) dL_law_809 ?_
    rw [nI_clamp (show i + 1 < 2 ^ 31 by omega)]
    refine zx_val (y := v0) (ev0.symm) ?_
    refine zx_val (y := nI (j)) (hv0) ?_
    refine lv_aload_n hx hb dL_law_810 rfl (lv_at hl 1 rfl) ?_
    refine lv_iload hx hb dL_law_811 (lv_at hl 5 rfl) ?_
    refine lv_iconst (v := nI (2)) hx hb dL_law_813 (by decide) ?_
    refine zo_add hx hb dL_law_814 ?_
    refine va_sld hx hb hXs hbl hbA hS (vp_in_nI (show i + 2 < L by omega) (by omega)) dL_law_815 ?_
    rw [nI_clamp (show i + 2 < 2 ^ 31 by omega)]
    refine zx_val (y := v1) (ev1.symm) ?_
    refine zx_val (y := nI (f)) (hv1) ?_
    refine zq_V_i (n := 2) (mc := 0) (ms := 0) (As := [.int (nI (j)), .int (nI (f))]) (rest := []) hx hb hml hts hown hZ hP hD hS hA (c_X5_read_ok l D cA _ _ hm1 hI hM j t P hjn hht hpq hP9 f hfn hct) gL_law_X5_read rfl rfl ⟨rfl, rfl⟩ ⟨by decide +kernel, (Nat.le_of_ble_eq_true rfl), (Nat.le_of_ble_eq_true rfl)⟩ m0_1 rfl hl.1 rfl (Nat.le_of_ble_eq_true rfl) ⟨by show _ ≤ 601024; omega, by show _ ≤ 7293034; omega⟩ rfl dL_law_816 (fun r2 u2 H locs hp2 hP hD hS hz2 => ?_)
    obtain ⟨rfl, hkp2, hm2⟩ := hp2
    have hL2 := zL_keep hL1 hkp2
    obtain ⟨m0_2, -⟩ := id hm2
    have hP : va_P D vwCl ((o, zOut cA f1) :: u2) H := hP
    have hD : va_D (lwA s) ((o, zOut cA f1) :: u2) := hD
    refine lv_istore (lv' := [(6, .int (nI (legT (zpa (mk j)) (zsp (mk j)) (tr t) (le t) (bo t) P f))), (5, .int (nI (0))), (0, .ref b), (1, .ref (ad 0)), (2, .ref (gd 0)), (3, .ref o), (4, .int (nI (i)))]) hx hb dL_law_819 hl (by decide) rfl (fun ls hl => ?_)
    refine lv_aload_n hx hb dL_law_821 rfl (lv_at hl 4 rfl) ?_
    refine zk_V_i (n := 0) (As := []) (rest := []) hx hb hml hts hown hZ (zq_P hP) (c_X5_thrown l D cA _ hm2) gL_law_X5_thrown rfl rfl ⟨rfl, rfl⟩ ⟨by decide +kernel, (Nat.le_of_ble_eq_true rfl), (Nat.le_of_ble_eq_true rfl)⟩ m0_2 rfl hl.1 rfl (Nat.le_of_ble_eq_true rfl) ⟨by show _ ≤ 601024; omega, by show _ ≤ 7293034; omega⟩ rfl dL_law_822 (fun r3 hr3 => ?_)
    obtain rfl := show r3 = nI (0) from hr3
    refine lv_iload hx hb dL_law_825 (lv_at hl 1 rfl) ?_
    refine zc_eq (tgt := 832) hx hb (by omega) (by omega) dL_law_827 (by decide) (fun c_1 => ?_) (fun c_1 => absurd rfl c_1)
    refine lv_iload hx hb dL_law_832 (lv_at hl 1 rfl) ?_
    refine zf_ne (tgt := 849) hx hb (by omega) dL_law_834 (by decide) (fun c_2 => False.elim (by omega)) (fun c_2 => ?_)
    refine lv_aload_n hx hb dL_law_837 rfl (lv_at hl 5 rfl) ?_
    refine lv_iconst (v := nI (0)) hx hb dL_law_838 (by decide) ?_
    refine va_lald hx hb hZ.1 hP 0 4 rfl rfl (vp_in_nI (show 0 < 1 by omega) (by omega)) dL_law_839 ?_
    rw [nI_clamp (show 0 < 2 ^ 31 by omega)]
    refine zx_v (b := .long (nI (legT (zpa (mk j)) (zsp (mk j)) (tr t) (le t) (bo t) P f)).toInt64) (by rw [hf1]) ?_
    refine lv_iload hx hb dL_law_840 (lv_at hl 0 rfl) ?_
    refine lv_i2l (v := (nI (legT (zpa (mk j)) (zsp (mk j)) (tr t) (le t) (bo t) P f)).toInt64) hx hb dL_law_842 rfl ?_
    refine W.lcmp hx hb dL_law_843 ?_
    refine zx_val (y := nI 0) (lg_cmp_self _) ?_
    refine zf_eq (tgt := 849) hx hb (by omega) dL_law_844 (by decide) (fun c_3 => ?_) (fun c_3 => False.elim (by omega))
    refine lv_goto (tgt := 1543) hx hb dL_law_849 (by decide) ?_
    have hT9 := hI.2.2.2.1 t (((hI.2.2.2.2.1 j hjn).2.2.2 t hht).1)
    have hq9 : bo t (f + 1) ≤ tr t * le t := Nat.le_trans (bmono _ hT9.2.2.2.2.2.2.2.2.1 (f + 1) (by omega)) hT9.2.2.2.2.2.2.2.2.2
    obtain ⟨hI2, hM2⟩ := I_go (c9 := ck j + nI (legT (zpa (mk j)) (zsp (mk j)) (tr t) (le t) (bo t) P f)) (d9 := ct j + 1) hI hM hjn hht hq9 (by omega)
    exact kont f1 u2 H locs ls _ _ (by omega) (by omega) ⟨lv_sub hl [2, 3, 4, 5, 6] rfl, hP, hD, hS, _, _, _, _, _, _, _, _, _, _, _, _, _, _, _, _, _, _, _, _, _, _, _, _, _, _, _, _, _, _, _, _, _, _, _, _, _, _, _, _, _, _, hL2, hI2, hm2, hM2⟩
  · obtain ⟨rfl, hK0, E9, hE9⟩ := hp1
    have hm1 := hm
    have hL1 := hL
    have hK3 : (kR (ix v0 nd) hd (fun t => ix v1 (fc t)) (fun j => decide (ct j < 12))) ≤ 3 := zexIS_le hE9
    have hP : va_P D vwCl ((o, zOut cA z) :: ws) H := hP
    have hD : va_D (lwA s) ((o, zOut cA z) :: ws) := hD
    obtain ⟨m0_1, -⟩ := id hm1
    refine lv_istore (lv' := [(5, .int (nI ((kR (ix v0 nd) hd (fun t => ix v1 (fc t)) (fun j => decide (ct j < 12)))))), (0, .ref b), (1, .ref (ad 0)), (2, .ref (gd 0)), (3, .ref o), (4, .int (nI (i)))]) hx hb dL_law_801 hl (by decide) rfl (fun ls hl => ?_)
    refine lv_aload_n hx hb dL_law_803 rfl (lv_at hl 3 rfl) ?_
    refine lv_aload_n hx hb dL_law_804 rfl (lv_at hl 1 rfl) ?_
    refine lv_iload hx hb dL_law_805 (lv_at hl 5 rfl) ?_
    refine lv_iconst (v := nI (1)) hx hb dL_law_807 (by decide) ?_
    refine zo_add hx hb dL_law_808 ?_
    refine va_sld hx hb hXs hbl hbA hS (vp_in_nI (show i + 1 < L by omega) (by omega)) dL_law_809 ?_
    rw [nI_clamp (show i + 1 < 2 ^ 31 by omega)]
    refine zx_val (y := v0) (ev0.symm) ?_
    refine lv_aload_n hx hb dL_law_810 rfl (lv_at hl 1 rfl) ?_
    refine lv_iload hx hb dL_law_811 (lv_at hl 5 rfl) ?_
    refine lv_iconst (v := nI (2)) hx hb dL_law_813 (by decide) ?_
    refine zo_add hx hb dL_law_814 ?_
    refine va_sld hx hb hXs hbl hbA hS (vp_in_nI (show i + 2 < L by omega) (by omega)) dL_law_815 ?_
    rw [nI_clamp (show i + 2 < 2 ^ 31 by omega)]
    refine zx_val (y := v1) (ev1.symm) ?_
    refine zq_V_i (n := 2) (mc := 0) (ms := 0) (As := [.int (v0), .int (v1)]) (rest := []) hx hb hml hts hown hZ hP hD hS hA (c_X5_read_no l D cA _ _ hm1 hI hM v0 v1 hK0) gL_law_X5_read rfl rfl ⟨rfl, rfl⟩ ⟨by decide +kernel, (Nat.le_of_ble_eq_true rfl), (Nat.le_of_ble_eq_true rfl)⟩ m0_1 rfl hl.1 rfl (Nat.le_of_ble_eq_true rfl) ⟨by show _ ≤ 601024; omega, by show _ ≤ 7293034; omega⟩ rfl dL_law_816 (fun r2 u2 H locs hp2 hP hD hS hz2 => ?_)
    obtain ⟨hkp2, hm2⟩ := hp2
    have hL2 := zL_keep hL1 hkp2
    obtain ⟨m0_2, -⟩ := id hm2
    have hP : va_P D vwCl ((o, zOut cA z) :: u2) H := hP
    have hD : va_D (lwA s) ((o, zOut cA z) :: u2) := hD
    refine lv_istore (lv' := [(6, .int (r2)), (5, .int (nI ((kR (ix v0 nd) hd (fun t => ix v1 (fc t)) (fun j => decide (ct j < 12)))))), (0, .ref b), (1, .ref (ad 0)), (2, .ref (gd 0)), (3, .ref o), (4, .int (nI (i)))]) hx hb dL_law_819 hl (by decide) rfl (fun ls hl => ?_)
    refine lv_aload_n hx hb dL_law_821 rfl (lv_at hl 4 rfl) ?_
    refine zk_V_i (n := 0) (As := []) (rest := []) hx hb hml hts hown hZ (zq_P hP) (c_X5_thrown l D cA _ hm2) gL_law_X5_thrown rfl rfl ⟨rfl, rfl⟩ ⟨by decide +kernel, (Nat.le_of_ble_eq_true rfl), (Nat.le_of_ble_eq_true rfl)⟩ m0_2 rfl hl.1 rfl (Nat.le_of_ble_eq_true rfl) ⟨by show _ ≤ 601024; omega, by show _ ≤ 7293034; omega⟩ rfl dL_law_822 (fun r3 hr3 => ?_)
    obtain rfl := show r3 = nI ((kR (ix v0 nd) hd (fun t => ix v1 (fc t)) (fun j => decide (ct j < 12)))) from hr3
    refine lv_iload hx hb dL_law_825 (lv_at hl 1 rfl) ?_
    refine zc_eq (tgt := 832) hx hb (by omega) (by omega) dL_law_827 (by decide) (fun c_4 => ?_) (fun c_4 => absurd rfl c_4)
    refine lv_iload hx hb dL_law_832 (lv_at hl 1 rfl) ?_
    refine zf_ne (tgt := 849) hx hb (by omega) dL_law_834 (by decide) (fun c_5 => ?_) (fun c_5 => absurd c_5 hK0)
    refine lv_goto (tgt := 1543) hx hb dL_law_849 (by decide) ?_
    have hI2 := hI
    have hM2 := hM
    exact kont z u2 H locs ls _ _ (by omega) (by omega) ⟨lv_sub hl [2, 3, 4, 5, 6] rfl, hP, hD, hS, _, _, _, _, _, _, _, _, _, _, _, _, _, _, _, _, _, _, _, _, _, _, _, _, _, _, _, _, _, _, _, _, _, _, _, _, _, _, _, _, _, _, hL2, hI2, hm2, hM2⟩

set_option maxHeartbeats 4000000 in
set_option maxRecDepth 100000 in
theorem law_clean (l : Launch) (hlt : l.stackTraces = false) {p : Program} {e : Env} {s : State} {m : MethodId} {below : List Frame} {meth : Method} {c : Code} {Q : State → Prop} {D : va_G} {cA : Nat → ClassId} {b L : Nat} {xs : Nat → Int32} (F9 : lwF p s m c D cA b L xs) (ad gd : Nat → Nat) (o i cells slots : Nat) (hi : i + 4 ≤ L) (hL8 : L ≤ 2048) (hc9 : cells ≤ 600000) (hs9 : slots ≤ 7000000) (kont : lwK p l e s m below meth c Q D cA ad gd o b i cells slots) (z : Nat → Int64) (ws : va_W) (H : Heap) (locs : List Loc) (ls : Array Slot) (hI9 : lwI s D cA ad gd o b i H locs ls z ws) : W p l e room_1 s m #[Value.ref b] below meth c H locs cells slots Q (F0 m 852 ls []) := by
  obtain ⟨hx, hb, hml, hown, hts, hZ, hX, hN, hXs, hbl⟩ := F9
  have hbA : ¬ lwA s b := Nat.not_le.mpr hbl
  have hA : ∀ q : Nat, s.heap.size ≤ q → lwA s q := fun _ h => h
  obtain ⟨hl, hP, hD, hS, hV⟩ := hI9
  obtain ⟨T, Bd, E, PT, PB, PE, n, tr, le, sl, mo, la, fc, bo, nd, mk, ck, ct, hd, pq, nj, fw, jf, dl, dn, oc, s8, s9, s10, s11, s12, sf, bf, pf, jt, fin, my, fls, fod, fle, fro, th, hL, hI, hm, hM⟩ := hV
  have hL0 := hL
  obtain ⟨⟨l22, l23, l24, l25, l26, l27, l28, l29, l30, l31, l32, l33, l34⟩, -⟩ := hL
  have hL := hL0
  obtain ⟨v0, ev0⟩ : ∃ y, y = xs (i + 1) := ⟨_, rfl⟩
  have hl : lv_has ls 7 [(0, .ref b), (1, .ref (ad 0)), (2, .ref (gd 0)), (3, .ref o), (4, .int (nI (i)))] := hl
  refine lv_aload_n hx hb dL_law_852 rfl (lv_at hl 1 rfl) ?_
  refine lv_aload_n hx hb dL_law_853 rfl (lv_at hl 0 rfl) ?_
  refine lv_iload hx hb dL_law_854 (lv_at hl 4 rfl) ?_
  refine lv_iconst (v := nI (1)) hx hb dL_law_856 (by decide) ?_
  refine zo_add hx hb dL_law_857 ?_
  refine va_sld hx hb hXs hbl hbA hS (vp_in_nI (show i + 1 < L by omega) (by omega)) dL_law_858 ?_
  rw [nI_clamp (show i + 1 < 2 ^ 31 by omega)]
  refine zx_val (y := v0) (ev0.symm) ?_
  refine lv_aload_n hx hb dL_law_859 rfl (lv_at hl 3 rfl) ?_
  refine zw_H_i (n := 3) (mc := 2) (ms := 12) (As := [.ref (ad 0), .int (v0), .ref o]) (rest := []) hx hb hml hts hown hZ hX hN hP hD hS hA (c_L_clean l D cA _ _ o z (ad 0) _ l22 _ _ _ _ (kS (ix v0 nd) (fun j => (hd j).isNone)) v0 (fun sz => c_X4_clean l hlt D cA sz ws ad T Bd E PT PB PE n tr le sl mo la fc bo nd mk ck ct hd pq nj fw jf dl dn oc s8 s9 s10 s11 s12 hL hI v0) (fun _ _ h => h)) gL_law_L_clean rfl ⟨rfl, rfl⟩ ⟨by decide +kernel, (Nat.le_of_ble_eq_true rfl), (Nat.le_of_ble_eq_true rfl)⟩ hl.1 rfl (Nat.le_of_ble_eq_true rfl) ⟨by show _ ≤ 601024; omega, by show _ ≤ 7293034; omega⟩ rfl dL_law_860 (fun r1 u1 H locs hp1 hP hD hS hz1 => ?_)
  rcases u1 with ⟨⟨ans, f1⟩, j, w1⟩ | ux
  · obtain ⟨rfl, hf1, hpc⟩ := hp1
    obtain ⟨hjn, hv0, hhj, rfl, hkp, hL1⟩ := hpc
    have hjn : j < nd := hjn
    have hv0 : v0 = nI j := hv0
    have hhj : hd j = none := hhj
    have hf1 : f1 0 = (nI (ct j)).toInt64 := hf1
    have hkp : zKeep ws w1 := hkp
    have hm1 := mL_keep hm hkp
    have hP : va_P D vwCl ((o, zOut cA f1) :: w1) H := hP
    have hD : va_D (lwA s) ((o, zOut cA f1) :: w1) := hD
    obtain ⟨m0_1, -⟩ := id hm1
    refine lv_istore (lv' := [(5, .int (nI (0))), (0, .ref b), (1, .ref (ad 0)), (2, .ref (gd 0)), (3, .ref o), (4, .int (nI (i)))]) hx hb dL_law_863 hl (by decide) rfl (fun ls hl => ?_)
    refine lv_aload_n hx hb dL_law_865 rfl (lv_at hl 3 rfl) ?_
    refine lv_aload_n hx hb dL_law_866 rfl (lv_at hl 1 rfl) ?_
    refine lv_iload hx hb dL_law_867 (lv_at hl 5 rfl) ?_
    refine lv_iconst (v := nI (1)) hx hb dL_law_869 (by decide) ?_
    refine zo_add hx hb dL_law_870 ?_
    refine va_sld hx hb hXs hbl hbA hS (vp_in_nI (show i + 1 < L by omega) (by omega)) dL_law_871 ?_
    rw [nI_clamp (show i + 1 < 2 ^ 31 by omega)]
    refine zx_val (y := v0) (ev0.symm) ?_
    refine zx_val (y := nI (j)) (hv0) ?_
    refine zq_V_i (n := 1) (mc := 0) (ms := 0) (As := [.int (nI (j))]) (rest := []) hx hb hml hts hown hZ hP hD hS hA (c_X5_clean_ok l D cA _ _ hm1 hI hM j hjn hhj) gL_law_X5_clean rfl rfl ⟨rfl, rfl⟩ ⟨by decide +kernel, (Nat.le_of_ble_eq_true rfl), (Nat.le_of_ble_eq_true rfl)⟩ m0_1 rfl hl.1 rfl (Nat.le_of_ble_eq_true rfl) ⟨by show _ ≤ 601024; omega, by show _ ≤ 7293034; omega⟩ rfl dL_law_872 (fun r2 u2 H locs hp2 hP hD hS hz2 => ?_)
    obtain ⟨rfl, hkp2, hm2⟩ := hp2
    have hL2 := zL_keep hL1 hkp2
    obtain ⟨m0_2, -⟩ := id hm2
    have hP : va_P D vwCl ((o, zOut cA f1) :: u2) H := hP
    have hD : va_D (lwA s) ((o, zOut cA f1) :: u2) := hD
    refine lv_istore (lv' := [(6, .int (nI (ct j))), (5, .int (nI (0))), (0, .ref b), (1, .ref (ad 0)), (2, .ref (gd 0)), (3, .ref o), (4, .int (nI (i)))]) hx hb dL_law_875 hl (by decide) rfl (fun ls hl => ?_)
    refine lv_aload_n hx hb dL_law_877 rfl (lv_at hl 4 rfl) ?_
    refine zk_V_i (n := 0) (As := []) (rest := []) hx hb hml hts hown hZ (zq_P hP) (c_X5_thrown l D cA _ hm2) gL_law_X5_thrown rfl rfl ⟨rfl, rfl⟩ ⟨by decide +kernel, (Nat.le_of_ble_eq_true rfl), (Nat.le_of_ble_eq_true rfl)⟩ m0_2 rfl hl.1 rfl (Nat.le_of_ble_eq_true rfl) ⟨by show _ ≤ 601024; omega, by show _ ≤ 7293034; omega⟩ rfl dL_law_878 (fun r3 hr3 => ?_)
    obtain rfl := show r3 = nI (0) from hr3
    refine lv_iload hx hb dL_law_881 (lv_at hl 1 rfl) ?_
    refine zc_eq (tgt := 888) hx hb (by omega) (by omega) dL_law_883 (by decide) (fun c_1 => ?_) (fun c_1 => absurd rfl c_1)
    refine lv_iload hx hb dL_law_888 (lv_at hl 1 rfl) ?_
    refine zf_ne (tgt := 905) hx hb (by omega) dL_law_890 (by decide) (fun c_2 => False.elim (by omega)) (fun c_2 => ?_)
    refine lv_aload_n hx hb dL_law_893 rfl (lv_at hl 5 rfl) ?_
    refine lv_iconst (v := nI (0)) hx hb dL_law_894 (by decide) ?_
    refine va_lald hx hb hZ.1 hP 0 4 rfl rfl (vp_in_nI (show 0 < 1 by omega) (by omega)) dL_law_895 ?_
    rw [nI_clamp (show 0 < 2 ^ 31 by omega)]
    refine zx_v (b := .long (nI (ct j)).toInt64) (by rw [hf1]) ?_
    refine lv_iload hx hb dL_law_896 (lv_at hl 0 rfl) ?_
    refine lv_i2l (v := (nI (ct j)).toInt64) hx hb dL_law_898 rfl ?_
    refine W.lcmp hx hb dL_law_899 ?_
    refine zx_val (y := nI 0) (lg_cmp_self _) ?_
    refine zf_eq (tgt := 905) hx hb (by omega) dL_law_900 (by decide) (fun c_3 => ?_) (fun c_3 => False.elim (by omega))
    refine lv_goto (tgt := 1543) hx hb dL_law_905 (by decide) ?_
    obtain ⟨hI2, hM2⟩ := I_clean (c9 := ck j + nI 50) hI hM hjn
    exact kont f1 u2 H locs ls _ _ (by omega) (by omega) ⟨lv_sub hl [2, 3, 4, 5, 6] rfl, hP, hD, hS, _, _, _, _, _, _, _, _, _, _, _, _, _, _, _, _, _, _, _, _, _, _, _, _, _, _, _, _, _, _, _, _, _, _, _, _, _, _, _, _, _, _, hL2, hI2, hm2, hM2⟩
  · obtain ⟨rfl, hK0, E9, hE9⟩ := hp1
    have hm1 := hm
    have hL1 := hL
    have hK3 : (kS (ix v0 nd) (fun j => (hd j).isNone)) ≤ 3 := zexIS_le hE9
    have hP : va_P D vwCl ((o, zOut cA z) :: ws) H := hP
    have hD : va_D (lwA s) ((o, zOut cA z) :: ws) := hD
    obtain ⟨m0_1, -⟩ := id hm1
    refine lv_istore (lv' := [(5, .int (nI ((kS (ix v0 nd) (fun j => (hd j).isNone))))), (0, .ref b), (1, .ref (ad 0)), (2, .ref (gd 0)), (3, .ref o), (4, .int (nI (i)))]) hx hb dL_law_863 hl (by decide) rfl (fun ls hl => ?_)
    refine lv_aload_n hx hb dL_law_865 rfl (lv_at hl 3 rfl) ?_
    refine lv_aload_n hx hb dL_law_866 rfl (lv_at hl 1 rfl) ?_
    refine lv_iload hx hb dL_law_867 (lv_at hl 5 rfl) ?_
    refine lv_iconst (v := nI (1)) hx hb dL_law_869 (by decide) ?_
    refine zo_add hx hb dL_law_870 ?_
    refine va_sld hx hb hXs hbl hbA hS (vp_in_nI (show i + 1 < L by omega) (by omega)) dL_law_871 ?_
    rw [nI_clamp (show i + 1 < 2 ^ 31 by omega)]
    refine zx_val (y := v0) (ev0.symm) ?_
    refine zq_V_i (n := 1) (mc := 0) (ms := 0) (As := [.int (v0)]) (rest := []) hx hb hml hts hown hZ hP hD hS hA (c_X5_clean_no l D cA _ _ hm1 hI hM v0 hK0) gL_law_X5_clean rfl rfl ⟨rfl, rfl⟩ ⟨by decide +kernel, (Nat.le_of_ble_eq_true rfl), (Nat.le_of_ble_eq_true rfl)⟩ m0_1 rfl hl.1 rfl (Nat.le_of_ble_eq_true rfl) ⟨by show _ ≤ 601024; omega, by show _ ≤ 7293034; omega⟩ rfl dL_law_872 (fun r2 u2 H locs hp2 hP hD hS hz2 => ?_)
    obtain ⟨hkp2, hm2⟩ := hp2
    have hL2 := zL_keep hL1 hkp2
    obtain ⟨m0_2, -⟩ := id hm2
    have hP : va_P D vwCl ((o, zOut cA z) :: u2) H := hP
    have hD : va_D (lwA s) ((o, zOut cA z) :: u2) := hD
    refine lv_istore (lv' := [(6, .int (r2)), (5, .int (nI ((kS (ix v0 nd) (fun j => (hd j).isNone))))), (0, .ref b), (1, .ref (ad 0)), (2, .ref (gd 0)), (3, .ref o), (4, .int (nI (i)))]) hx hb dL_law_875 hl (by decide) rfl (fun ls hl => ?_)
    refine lv_aload_n hx hb dL_law_877 rfl (lv_at hl 4 rfl) ?_
    refine zk_V_i (n := 0) (As := []) (rest := []) hx hb hml hts hown hZ (zq_P hP) (c_X5_thrown l D cA _ hm2) gL_law_X5_thrown rfl rfl ⟨rfl, rfl⟩ ⟨by decide +kernel, (Nat.le_of_ble_eq_true rfl), (Nat.le_of_ble_eq_true rfl)⟩ m0_2 rfl hl.1 rfl (Nat.le_of_ble_eq_true rfl) ⟨by show _ ≤ 601024; omega, by show _ ≤ 7293034; omega⟩ rfl dL_law_878 (fun r3 hr3 => ?_)
    obtain rfl := show r3 = nI ((kS (ix v0 nd) (fun j => (hd j).isNone))) from hr3
    refine lv_iload hx hb dL_law_881 (lv_at hl 1 rfl) ?_
    refine zc_eq (tgt := 888) hx hb (by omega) (by omega) dL_law_883 (by decide) (fun c_4 => ?_) (fun c_4 => absurd rfl c_4)
    refine lv_iload hx hb dL_law_888 (lv_at hl 1 rfl) ?_
    refine zf_ne (tgt := 905) hx hb (by omega) dL_law_890 (by decide) (fun c_5 => ?_) (fun c_5 => absurd c_5 hK0)
    refine lv_goto (tgt := 1543) hx hb dL_law_905 (by decide) ?_
    have hI2 := hI
    have hM2 := hM
    exact kont z u2 H locs ls _ _ (by omega) (by omega) ⟨lv_sub hl [2, 3, 4, 5, 6] rfl, hP, hD, hS, _, _, _, _, _, _, _, _, _, _, _, _, _, _, _, _, _, _, _, _, _, _, _, _, _, _, _, _, _, _, _, _, _, _, _, _, _, _, _, _, _, _, hL2, hI2, hm2, hM2⟩

set_option maxHeartbeats 4000000 in
set_option maxRecDepth 100000 in
theorem law_clock (l : Launch) (hlt : l.stackTraces = false) {p : Program} {e : Env} {s : State} {m : MethodId} {below : List Frame} {meth : Method} {c : Code} {Q : State → Prop} {D : va_G} {cA : Nat → ClassId} {b L : Nat} {xs : Nat → Int32} (F9 : lwF p s m c D cA b L xs) (ad gd : Nat → Nat) (o i cells slots : Nat) (hi : i + 4 ≤ L) (hL8 : L ≤ 2048) (hc9 : cells ≤ 600000) (hs9 : slots ≤ 7000000) (kont : lwK p l e s m below meth c Q D cA ad gd o b i cells slots) (z : Nat → Int64) (ws : va_W) (H : Heap) (locs : List Loc) (ls : Array Slot) (hI9 : lwI s D cA ad gd o b i H locs ls z ws) : W p l e room_1 s m #[Value.ref b] below meth c H locs cells slots Q (F0 m 908 ls []) := by
  obtain ⟨hx, hb, hml, hown, hts, hZ, hX, hN, hXs, hbl⟩ := F9
  have hbA : ¬ lwA s b := Nat.not_le.mpr hbl
  have hA : ∀ q : Nat, s.heap.size ≤ q → lwA s q := fun _ h => h
  obtain ⟨hl, hP, hD, hS, hV⟩ := hI9
  obtain ⟨T, Bd, E, PT, PB, PE, n, tr, le, sl, mo, la, fc, bo, nd, mk, ck, ct, hd, pq, nj, fw, jf, dl, dn, oc, s8, s9, s10, s11, s12, sf, bf, pf, jt, fin, my, fls, fod, fle, fro, th, hL, hI, hm, hM⟩ := hV
  have hL0 := hL
  obtain ⟨⟨l22, l23, l24, l25, l26, l27, l28, l29, l30, l31, l32, l33, l34⟩, -⟩ := hL
  have hL := hL0
  obtain ⟨v0, ev0⟩ : ∃ y, y = xs (i + 1) := ⟨_, rfl⟩
  have hl : lv_has ls 7 [(0, .ref b), (1, .ref (ad 0)), (2, .ref (gd 0)), (3, .ref o), (4, .int (nI (i)))] := hl
  refine lv_aload_n hx hb dL_law_908 rfl (lv_at hl 1 rfl) ?_
  refine lv_aload_n hx hb dL_law_909 rfl (lv_at hl 0 rfl) ?_
  refine lv_iload hx hb dL_law_910 (lv_at hl 4 rfl) ?_
  refine lv_iconst (v := nI (1)) hx hb dL_law_912 (by decide) ?_
  refine zo_add hx hb dL_law_913 ?_
  refine va_sld hx hb hXs hbl hbA hS (vp_in_nI (show i + 1 < L by omega) (by omega)) dL_law_914 ?_
  rw [nI_clamp (show i + 1 < 2 ^ 31 by omega)]
  refine zx_val (y := v0) (ev0.symm) ?_
  refine lv_aload_n hx hb dL_law_915 rfl (lv_at hl 3 rfl) ?_
  refine zw_H_i (n := 3) (mc := 1) (ms := 6) (As := [.ref (ad 0), .int (v0), .ref o]) (rest := []) hx hb hml hts hown hZ hX hN hP hD hS hA (c_L_clock l D cA _ _ o z (ad 0) _ l22 _ _ _ _ (k1 (ix v0 nd)) v0 (fun sz => c_X4_clock l hlt D cA sz ws ad T Bd E PT PB PE n tr le sl mo la fc bo nd mk ck ct hd pq nj fw jf dl dn oc s8 s9 s10 s11 s12 hL hI v0) (fun _ _ h => h)) gL_law_L_clock rfl ⟨rfl, rfl⟩ ⟨by decide +kernel, (Nat.le_of_ble_eq_true rfl), (Nat.le_of_ble_eq_true rfl)⟩ hl.1 rfl (Nat.le_of_ble_eq_true rfl) ⟨by show _ ≤ 601024; omega, by show _ ≤ 7293034; omega⟩ rfl dL_law_916 (fun r1 u1 H locs hp1 hP hD hS hz1 => ?_)
  rcases u1 with ⟨⟨ans, f1⟩, j⟩ | ux
  · obtain ⟨rfl, hf1, hpc⟩ := hp1
    obtain ⟨hjn, hv0, rfl⟩ := hpc
    have hjn : j < nd := hjn
    have hv0 : v0 = nI j := hv0
    have hf1 : f1 0 = (ck j).toInt64 := hf1
    have hm1 := hm
    have hL1 := hL
    have hP : va_P D vwCl ((o, zOut cA f1) :: ws) H := hP
    have hD : va_D (lwA s) ((o, zOut cA f1) :: ws) := hD
    obtain ⟨m0_1, -⟩ := id hm1
    refine lv_istore (lv' := [(5, .int (nI (0))), (0, .ref b), (1, .ref (ad 0)), (2, .ref (gd 0)), (3, .ref o), (4, .int (nI (i)))]) hx hb dL_law_919 hl (by decide) rfl (fun ls hl => ?_)
    refine lv_aload_n hx hb dL_law_921 rfl (lv_at hl 3 rfl) ?_
    refine lv_aload_n hx hb dL_law_922 rfl (lv_at hl 1 rfl) ?_
    refine lv_iload hx hb dL_law_923 (lv_at hl 5 rfl) ?_
    refine lv_iconst (v := nI (1)) hx hb dL_law_925 (by decide) ?_
    refine zo_add hx hb dL_law_926 ?_
    refine va_sld hx hb hXs hbl hbA hS (vp_in_nI (show i + 1 < L by omega) (by omega)) dL_law_927 ?_
    rw [nI_clamp (show i + 1 < 2 ^ 31 by omega)]
    refine zx_val (y := v0) (ev0.symm) ?_
    refine zx_val (y := nI (j)) (hv0) ?_
    refine zq_V_i (n := 1) (mc := 0) (ms := 0) (As := [.int (nI (j))]) (rest := []) hx hb hml hts hown hZ hP hD hS hA (c_X5_clock_ok l D cA _ _ hm1 hI hM j hjn) gL_law_X5_clock rfl rfl ⟨rfl, rfl⟩ ⟨by decide +kernel, (Nat.le_of_ble_eq_true rfl), (Nat.le_of_ble_eq_true rfl)⟩ m0_1 rfl hl.1 rfl (Nat.le_of_ble_eq_true rfl) ⟨by show _ ≤ 601024; omega, by show _ ≤ 7293034; omega⟩ rfl dL_law_928 (fun r2 u2 H locs hp2 hP hD hS hz2 => ?_)
    obtain ⟨rfl, hkp2, hm2⟩ := hp2
    have hL2 := zL_keep hL1 hkp2
    obtain ⟨m0_2, -⟩ := id hm2
    have hP : va_P D vwCl ((o, zOut cA f1) :: u2) H := hP
    have hD : va_D (lwA s) ((o, zOut cA f1) :: u2) := hD
    refine lv_istore (lv' := [(6, .int (ck j)), (5, .int (nI (0))), (0, .ref b), (1, .ref (ad 0)), (2, .ref (gd 0)), (3, .ref o), (4, .int (nI (i)))]) hx hb dL_law_931 hl (by decide) rfl (fun ls hl => ?_)
    refine lv_aload_n hx hb dL_law_933 rfl (lv_at hl 4 rfl) ?_
    refine zk_V_i (n := 0) (As := []) (rest := []) hx hb hml hts hown hZ (zq_P hP) (c_X5_thrown l D cA _ hm2) gL_law_X5_thrown rfl rfl ⟨rfl, rfl⟩ ⟨by decide +kernel, (Nat.le_of_ble_eq_true rfl), (Nat.le_of_ble_eq_true rfl)⟩ m0_2 rfl hl.1 rfl (Nat.le_of_ble_eq_true rfl) ⟨by show _ ≤ 601024; omega, by show _ ≤ 7293034; omega⟩ rfl dL_law_934 (fun r3 hr3 => ?_)
    obtain rfl := show r3 = nI (0) from hr3
    refine lv_iload hx hb dL_law_937 (lv_at hl 1 rfl) ?_
    refine zc_eq (tgt := 944) hx hb (by omega) (by omega) dL_law_939 (by decide) (fun c_1 => ?_) (fun c_1 => absurd rfl c_1)
    refine lv_iload hx hb dL_law_944 (lv_at hl 1 rfl) ?_
    refine zf_ne (tgt := 961) hx hb (by omega) dL_law_946 (by decide) (fun c_2 => False.elim (by omega)) (fun c_2 => ?_)
    refine lv_aload_n hx hb dL_law_949 rfl (lv_at hl 5 rfl) ?_
    refine lv_iconst (v := nI (0)) hx hb dL_law_950 (by decide) ?_
    refine va_lald hx hb hZ.1 hP 0 4 rfl rfl (vp_in_nI (show 0 < 1 by omega) (by omega)) dL_law_951 ?_
    rw [nI_clamp (show 0 < 2 ^ 31 by omega)]
    refine zx_v (b := .long (ck j).toInt64) (by rw [hf1]) ?_
    refine lv_iload hx hb dL_law_952 (lv_at hl 0 rfl) ?_
    refine lv_i2l (v := (ck j).toInt64) hx hb dL_law_954 rfl ?_
    refine W.lcmp hx hb dL_law_955 ?_
    refine zx_val (y := nI 0) (lg_cmp_self _) ?_
    refine zf_eq (tgt := 961) hx hb (by omega) dL_law_956 (by decide) (fun c_3 => ?_) (fun c_3 => False.elim (by omega))
    refine lv_goto (tgt := 1543) hx hb dL_law_961 (by decide) ?_
    have hI2 := hI
    have hM2 := hM
    exact kont f1 u2 H locs ls _ _ (by omega) (by omega) ⟨lv_sub hl [2, 3, 4, 5, 6] rfl, hP, hD, hS, _, _, _, _, _, _, _, _, _, _, _, _, _, _, _, _, _, _, _, _, _, _, _, _, _, _, _, _, _, _, _, _, _, _, _, _, _, _, _, _, _, _, hL2, hI2, hm2, hM2⟩
  · obtain ⟨rfl, hK0, E9, hE9⟩ := hp1
    have hm1 := hm
    have hL1 := hL
    have hK3 : (k1 (ix v0 nd)) ≤ 3 := zex1_le hE9
    have hP : va_P D vwCl ((o, zOut cA z) :: ws) H := hP
    have hD : va_D (lwA s) ((o, zOut cA z) :: ws) := hD
    obtain ⟨m0_1, -⟩ := id hm1
    refine lv_istore (lv' := [(5, .int (nI ((k1 (ix v0 nd))))), (0, .ref b), (1, .ref (ad 0)), (2, .ref (gd 0)), (3, .ref o), (4, .int (nI (i)))]) hx hb dL_law_919 hl (by decide) rfl (fun ls hl => ?_)
    refine lv_aload_n hx hb dL_law_921 rfl (lv_at hl 3 rfl) ?_
    refine lv_aload_n hx hb dL_law_922 rfl (lv_at hl 1 rfl) ?_
    refine lv_iload hx hb dL_law_923 (lv_at hl 5 rfl) ?_
    refine lv_iconst (v := nI (1)) hx hb dL_law_925 (by decide) ?_
    refine zo_add hx hb dL_law_926 ?_
    refine va_sld hx hb hXs hbl hbA hS (vp_in_nI (show i + 1 < L by omega) (by omega)) dL_law_927 ?_
    rw [nI_clamp (show i + 1 < 2 ^ 31 by omega)]
    refine zx_val (y := v0) (ev0.symm) ?_
    refine zq_V_i (n := 1) (mc := 0) (ms := 0) (As := [.int (v0)]) (rest := []) hx hb hml hts hown hZ hP hD hS hA (c_X5_clock_no l D cA _ _ hm1 hI hM v0 hK0) gL_law_X5_clock rfl rfl ⟨rfl, rfl⟩ ⟨by decide +kernel, (Nat.le_of_ble_eq_true rfl), (Nat.le_of_ble_eq_true rfl)⟩ m0_1 rfl hl.1 rfl (Nat.le_of_ble_eq_true rfl) ⟨by show _ ≤ 601024; omega, by show _ ≤ 7293034; omega⟩ rfl dL_law_928 (fun r2 u2 H locs hp2 hP hD hS hz2 => ?_)
    obtain ⟨hkp2, hm2⟩ := hp2
    have hL2 := zL_keep hL1 hkp2
    obtain ⟨m0_2, -⟩ := id hm2
    have hP : va_P D vwCl ((o, zOut cA z) :: u2) H := hP
    have hD : va_D (lwA s) ((o, zOut cA z) :: u2) := hD
    refine lv_istore (lv' := [(6, .int (r2)), (5, .int (nI ((k1 (ix v0 nd))))), (0, .ref b), (1, .ref (ad 0)), (2, .ref (gd 0)), (3, .ref o), (4, .int (nI (i)))]) hx hb dL_law_931 hl (by decide) rfl (fun ls hl => ?_)
    refine lv_aload_n hx hb dL_law_933 rfl (lv_at hl 4 rfl) ?_
    refine zk_V_i (n := 0) (As := []) (rest := []) hx hb hml hts hown hZ (zq_P hP) (c_X5_thrown l D cA _ hm2) gL_law_X5_thrown rfl rfl ⟨rfl, rfl⟩ ⟨by decide +kernel, (Nat.le_of_ble_eq_true rfl), (Nat.le_of_ble_eq_true rfl)⟩ m0_2 rfl hl.1 rfl (Nat.le_of_ble_eq_true rfl) ⟨by show _ ≤ 601024; omega, by show _ ≤ 7293034; omega⟩ rfl dL_law_934 (fun r3 hr3 => ?_)
    obtain rfl := show r3 = nI ((k1 (ix v0 nd))) from hr3
    refine lv_iload hx hb dL_law_937 (lv_at hl 1 rfl) ?_
    refine zc_eq (tgt := 944) hx hb (by omega) (by omega) dL_law_939 (by decide) (fun c_4 => ?_) (fun c_4 => absurd rfl c_4)
    refine lv_iload hx hb dL_law_944 (lv_at hl 1 rfl) ?_
    refine zf_ne (tgt := 961) hx hb (by omega) dL_law_946 (by decide) (fun c_5 => ?_) (fun c_5 => absurd c_5 hK0)
    refine lv_goto (tgt := 1543) hx hb dL_law_961 (by decide) ?_
    have hI2 := hI
    have hM2 := hM
    exact kont z u2 H locs ls _ _ (by omega) (by omega) ⟨lv_sub hl [2, 3, 4, 5, 6] rfl, hP, hD, hS, _, _, _, _, _, _, _, _, _, _, _, _, _, _, _, _, _, _, _, _, _, _, _, _, _, _, _, _, _, _, _, _, _, _, _, _, _, _, _, _, _, _, hL2, hI2, hm2, hM2⟩

set_option maxHeartbeats 4000000 in
set_option maxRecDepth 100000 in
theorem law_stands (l : Launch) (hlt : l.stackTraces = false) {p : Program} {e : Env} {s : State} {m : MethodId} {below : List Frame} {meth : Method} {c : Code} {Q : State → Prop} {D : va_G} {cA : Nat → ClassId} {b L : Nat} {xs : Nat → Int32} (F9 : lwF p s m c D cA b L xs) (ad gd : Nat → Nat) (o i cells slots : Nat) (hi : i + 4 ≤ L) (hL8 : L ≤ 2048) (hc9 : cells ≤ 600000) (hs9 : slots ≤ 7000000) (kont : lwK p l e s m below meth c Q D cA ad gd o b i cells slots) (z : Nat → Int64) (ws : va_W) (H : Heap) (locs : List Loc) (ls : Array Slot) (hI9 : lwI s D cA ad gd o b i H locs ls z ws) : W p l e room_1 s m #[Value.ref b] below meth c H locs cells slots Q (F0 m 964 ls []) := by
  obtain ⟨hx, hb, hml, hown, hts, hZ, hX, hN, hXs, hbl⟩ := F9
  have hbA : ¬ lwA s b := Nat.not_le.mpr hbl
  have hA : ∀ q : Nat, s.heap.size ≤ q → lwA s q := fun _ h => h
  obtain ⟨hl, hP, hD, hS, hV⟩ := hI9
  obtain ⟨T, Bd, E, PT, PB, PE, n, tr, le, sl, mo, la, fc, bo, nd, mk, ck, ct, hd, pq, nj, fw, jf, dl, dn, oc, s8, s9, s10, s11, s12, sf, bf, pf, jt, fin, my, fls, fod, fle, fro, th, hL, hI, hm, hM⟩ := hV
  have hL0 := hL
  obtain ⟨⟨l22, l23, l24, l25, l26, l27, l28, l29, l30, l31, l32, l33, l34⟩, -⟩ := hL
  have hL := hL0
  obtain ⟨v0, ev0⟩ : ∃ y, y = xs (i + 1) := ⟨_, rfl⟩
  have hl : lv_has ls 7 [(0, .ref b), (1, .ref (ad 0)), (2, .ref (gd 0)), (3, .ref o), (4, .int (nI (i)))] := hl
  refine lv_aload_n hx hb dL_law_964 rfl (lv_at hl 1 rfl) ?_
  refine lv_aload_n hx hb dL_law_965 rfl (lv_at hl 0 rfl) ?_
  refine lv_iload hx hb dL_law_966 (lv_at hl 4 rfl) ?_
  refine lv_iconst (v := nI (1)) hx hb dL_law_968 (by decide) ?_
  refine zo_add hx hb dL_law_969 ?_
  refine va_sld hx hb hXs hbl hbA hS (vp_in_nI (show i + 1 < L by omega) (by omega)) dL_law_970 ?_
  rw [nI_clamp (show i + 1 < 2 ^ 31 by omega)]
  refine zx_val (y := v0) (ev0.symm) ?_
  refine lv_aload_n hx hb dL_law_971 rfl (lv_at hl 3 rfl) ?_
  refine zw_H_i (n := 3) (mc := 1) (ms := 6) (As := [.ref (ad 0), .int (v0), .ref o]) (rest := []) hx hb hml hts hown hZ hX hN hP hD hS hA (c_L_stands l D cA _ _ o z (ad 0) _ l22 _ _ _ _ (k1 (ix v0 nd)) v0 (fun sz => c_X4_stands l hlt D cA sz ws ad T Bd E PT PB PE n tr le sl mo la fc bo nd mk ck ct hd pq nj fw jf dl dn oc s8 s9 s10 s11 s12 hL hI v0) (fun _ _ h => h)) gL_law_L_stands rfl ⟨rfl, rfl⟩ ⟨by decide +kernel, (Nat.le_of_ble_eq_true rfl), (Nat.le_of_ble_eq_true rfl)⟩ hl.1 rfl (Nat.le_of_ble_eq_true rfl) ⟨by show _ ≤ 601024; omega, by show _ ≤ 7293034; omega⟩ rfl dL_law_972 (fun r1 u1 H locs hp1 hP hD hS hz1 => ?_)
  rcases u1 with ⟨⟨ans, f1⟩, j⟩ | ux
  · obtain ⟨rfl, hf1, hpc⟩ := hp1
    obtain ⟨hjn, hv0, rfl⟩ := hpc
    have hjn : j < nd := hjn
    have hv0 : v0 = nI j := hv0
    have hf1 : f1 0 = (pq j).toInt64 := hf1
    have hm1 := hm
    have hL1 := hL
    have hP : va_P D vwCl ((o, zOut cA f1) :: ws) H := hP
    have hD : va_D (lwA s) ((o, zOut cA f1) :: ws) := hD
    obtain ⟨m0_1, -⟩ := id hm1
    refine lv_istore (lv' := [(5, .int (nI (0))), (0, .ref b), (1, .ref (ad 0)), (2, .ref (gd 0)), (3, .ref o), (4, .int (nI (i)))]) hx hb dL_law_975 hl (by decide) rfl (fun ls hl => ?_)
    refine lv_aload_n hx hb dL_law_977 rfl (lv_at hl 3 rfl) ?_
    refine lv_aload_n hx hb dL_law_978 rfl (lv_at hl 1 rfl) ?_
    refine lv_iload hx hb dL_law_979 (lv_at hl 5 rfl) ?_
    refine lv_iconst (v := nI (1)) hx hb dL_law_981 (by decide) ?_
    refine zo_add hx hb dL_law_982 ?_
    refine va_sld hx hb hXs hbl hbA hS (vp_in_nI (show i + 1 < L by omega) (by omega)) dL_law_983 ?_
    rw [nI_clamp (show i + 1 < 2 ^ 31 by omega)]
    refine zx_val (y := v0) (ev0.symm) ?_
    refine zx_val (y := nI (j)) (hv0) ?_
    refine zq_V_i (n := 1) (mc := 0) (ms := 0) (As := [.int (nI (j))]) (rest := []) hx hb hml hts hown hZ hP hD hS hA (c_X5_stands_ok l D cA _ _ hm1 hI hM j hjn) gL_law_X5_stands rfl rfl ⟨rfl, rfl⟩ ⟨by decide +kernel, (Nat.le_of_ble_eq_true rfl), (Nat.le_of_ble_eq_true rfl)⟩ m0_1 rfl hl.1 rfl (Nat.le_of_ble_eq_true rfl) ⟨by show _ ≤ 601024; omega, by show _ ≤ 7293034; omega⟩ rfl dL_law_984 (fun r2 u2 H locs hp2 hP hD hS hz2 => ?_)
    obtain ⟨rfl, hkp2, hm2⟩ := hp2
    have hL2 := zL_keep hL1 hkp2
    obtain ⟨m0_2, -⟩ := id hm2
    have hP : va_P D vwCl ((o, zOut cA f1) :: u2) H := hP
    have hD : va_D (lwA s) ((o, zOut cA f1) :: u2) := hD
    refine lv_istore (lv' := [(6, .int (pq j)), (5, .int (nI (0))), (0, .ref b), (1, .ref (ad 0)), (2, .ref (gd 0)), (3, .ref o), (4, .int (nI (i)))]) hx hb dL_law_987 hl (by decide) rfl (fun ls hl => ?_)
    refine lv_aload_n hx hb dL_law_989 rfl (lv_at hl 4 rfl) ?_
    refine zk_V_i (n := 0) (As := []) (rest := []) hx hb hml hts hown hZ (zq_P hP) (c_X5_thrown l D cA _ hm2) gL_law_X5_thrown rfl rfl ⟨rfl, rfl⟩ ⟨by decide +kernel, (Nat.le_of_ble_eq_true rfl), (Nat.le_of_ble_eq_true rfl)⟩ m0_2 rfl hl.1 rfl (Nat.le_of_ble_eq_true rfl) ⟨by show _ ≤ 601024; omega, by show _ ≤ 7293034; omega⟩ rfl dL_law_990 (fun r3 hr3 => ?_)
    obtain rfl := show r3 = nI (0) from hr3
    refine lv_iload hx hb dL_law_993 (lv_at hl 1 rfl) ?_
    refine zc_eq (tgt := 1000) hx hb (by omega) (by omega) dL_law_995 (by decide) (fun c_1 => ?_) (fun c_1 => absurd rfl c_1)
    refine lv_iload hx hb dL_law_1000 (lv_at hl 1 rfl) ?_
    refine zf_ne (tgt := 1017) hx hb (by omega) dL_law_1002 (by decide) (fun c_2 => False.elim (by omega)) (fun c_2 => ?_)
    refine lv_aload_n hx hb dL_law_1005 rfl (lv_at hl 5 rfl) ?_
    refine lv_iconst (v := nI (0)) hx hb dL_law_1006 (by decide) ?_
    refine va_lald hx hb hZ.1 hP 0 4 rfl rfl (vp_in_nI (show 0 < 1 by omega) (by omega)) dL_law_1007 ?_
    rw [nI_clamp (show 0 < 2 ^ 31 by omega)]
    refine zx_v (b := .long (pq j).toInt64) (by rw [hf1]) ?_
    refine lv_iload hx hb dL_law_1008 (lv_at hl 0 rfl) ?_
    refine lv_i2l (v := (pq j).toInt64) hx hb dL_law_1010 rfl ?_
    refine W.lcmp hx hb dL_law_1011 ?_
    refine zx_val (y := nI 0) (lg_cmp_self _) ?_
    refine zf_eq (tgt := 1017) hx hb (by omega) dL_law_1012 (by decide) (fun c_3 => ?_) (fun c_3 => False.elim (by omega))
    refine lv_goto (tgt := 1543) hx hb dL_law_1017 (by decide) ?_
    have hI2 := hI
    have hM2 := hM
    exact kont f1 u2 H locs ls _ _ (by omega) (by omega) ⟨lv_sub hl [2, 3, 4, 5, 6] rfl, hP, hD, hS, _, _, _, _, _, _, _, _, _, _, _, _, _, _, _, _, _, _, _, _, _, _, _, _, _, _, _, _, _, _, _, _, _, _, _, _, _, _, _, _, _, _, hL2, hI2, hm2, hM2⟩
  · obtain ⟨rfl, hK0, E9, hE9⟩ := hp1
    have hm1 := hm
    have hL1 := hL
    have hK3 : (k1 (ix v0 nd)) ≤ 3 := zex1_le hE9
    have hP : va_P D vwCl ((o, zOut cA z) :: ws) H := hP
    have hD : va_D (lwA s) ((o, zOut cA z) :: ws) := hD
    obtain ⟨m0_1, -⟩ := id hm1
    refine lv_istore (lv' := [(5, .int (nI ((k1 (ix v0 nd))))), (0, .ref b), (1, .ref (ad 0)), (2, .ref (gd 0)), (3, .ref o), (4, .int (nI (i)))]) hx hb dL_law_975 hl (by decide) rfl (fun ls hl => ?_)
    refine lv_aload_n hx hb dL_law_977 rfl (lv_at hl 3 rfl) ?_
    refine lv_aload_n hx hb dL_law_978 rfl (lv_at hl 1 rfl) ?_
    refine lv_iload hx hb dL_law_979 (lv_at hl 5 rfl) ?_
    refine lv_iconst (v := nI (1)) hx hb dL_law_981 (by decide) ?_
    refine zo_add hx hb dL_law_982 ?_
    refine va_sld hx hb hXs hbl hbA hS (vp_in_nI (show i + 1 < L by omega) (by omega)) dL_law_983 ?_
    rw [nI_clamp (show i + 1 < 2 ^ 31 by omega)]
    refine zx_val (y := v0) (ev0.symm) ?_
    refine zq_V_i (n := 1) (mc := 0) (ms := 0) (As := [.int (v0)]) (rest := []) hx hb hml hts hown hZ hP hD hS hA (c_X5_stands_no l D cA _ _ hm1 hI hM v0 hK0) gL_law_X5_stands rfl rfl ⟨rfl, rfl⟩ ⟨by decide +kernel, (Nat.le_of_ble_eq_true rfl), (Nat.le_of_ble_eq_true rfl)⟩ m0_1 rfl hl.1 rfl (Nat.le_of_ble_eq_true rfl) ⟨by show _ ≤ 601024; omega, by show _ ≤ 7293034; omega⟩ rfl dL_law_984 (fun r2 u2 H locs hp2 hP hD hS hz2 => ?_)
    obtain ⟨hkp2, hm2⟩ := hp2
    have hL2 := zL_keep hL1 hkp2
    obtain ⟨m0_2, -⟩ := id hm2
    have hP : va_P D vwCl ((o, zOut cA z) :: u2) H := hP
    have hD : va_D (lwA s) ((o, zOut cA z) :: u2) := hD
    refine lv_istore (lv' := [(6, .int (r2)), (5, .int (nI ((k1 (ix v0 nd))))), (0, .ref b), (1, .ref (ad 0)), (2, .ref (gd 0)), (3, .ref o), (4, .int (nI (i)))]) hx hb dL_law_987 hl (by decide) rfl (fun ls hl => ?_)
    refine lv_aload_n hx hb dL_law_989 rfl (lv_at hl 4 rfl) ?_
    refine zk_V_i (n := 0) (As := []) (rest := []) hx hb hml hts hown hZ (zq_P hP) (c_X5_thrown l D cA _ hm2) gL_law_X5_thrown rfl rfl ⟨rfl, rfl⟩ ⟨by decide +kernel, (Nat.le_of_ble_eq_true rfl), (Nat.le_of_ble_eq_true rfl)⟩ m0_2 rfl hl.1 rfl (Nat.le_of_ble_eq_true rfl) ⟨by show _ ≤ 601024; omega, by show _ ≤ 7293034; omega⟩ rfl dL_law_990 (fun r3 hr3 => ?_)
    obtain rfl := show r3 = nI ((k1 (ix v0 nd))) from hr3
    refine lv_iload hx hb dL_law_993 (lv_at hl 1 rfl) ?_
    refine zc_eq (tgt := 1000) hx hb (by omega) (by omega) dL_law_995 (by decide) (fun c_4 => ?_) (fun c_4 => absurd rfl c_4)
    refine lv_iload hx hb dL_law_1000 (lv_at hl 1 rfl) ?_
    refine zf_ne (tgt := 1017) hx hb (by omega) dL_law_1002 (by decide) (fun c_5 => ?_) (fun c_5 => absurd c_5 hK0)
    refine lv_goto (tgt := 1543) hx hb dL_law_1017 (by decide) ?_
    have hI2 := hI
    have hM2 := hM
    exact kont z u2 H locs ls _ _ (by omega) (by omega) ⟨lv_sub hl [2, 3, 4, 5, 6] rfl, hP, hD, hS, _, _, _, _, _, _, _, _, _, _, _, _, _, _, _, _, _, _, _, _, _, _, _, _, _, _, _, _, _, _, _, _, _, _, _, _, _, _, _, _, _, _, hL2, hI2, hm2, hM2⟩

set_option maxHeartbeats 4000000 in
set_option maxRecDepth 100000 in
theorem law_job (l : Launch) (hlt : l.stackTraces = false) {p : Program} {e : Env} {s : State} {m : MethodId} {below : List Frame} {meth : Method} {c : Code} {Q : State → Prop} {D : va_G} {cA : Nat → ClassId} {b L : Nat} {xs : Nat → Int32} (F9 : lwF p s m c D cA b L xs) (ad gd : Nat → Nat) (o i cells slots : Nat) (hi : i + 4 ≤ L) (hL8 : L ≤ 2048) (hc9 : cells ≤ 600000) (hs9 : slots ≤ 7000000) (kont : lwK p l e s m below meth c Q D cA ad gd o b i cells slots) (z : Nat → Int64) (ws : va_W) (H : Heap) (locs : List Loc) (ls : Array Slot) (hI9 : lwI s D cA ad gd o b i H locs ls z ws) : W p l e room_1 s m #[Value.ref b] below meth c H locs cells slots Q (F0 m 1020 ls []) := by
  obtain ⟨hx, hb, hml, hown, hts, hZ, hX, hN, hXs, hbl⟩ := F9
  have hbA : ¬ lwA s b := Nat.not_le.mpr hbl
  have hA : ∀ q : Nat, s.heap.size ≤ q → lwA s q := fun _ h => h
  obtain ⟨hl, hP, hD, hS, hV⟩ := hI9
  obtain ⟨T, Bd, E, PT, PB, PE, n, tr, le, sl, mo, la, fc, bo, nd, mk, ck, ct, hd, pq, nj, fw, jf, dl, dn, oc, s8, s9, s10, s11, s12, sf, bf, pf, jt, fin, my, fls, fod, fle, fro, th, hL, hI, hm, hM⟩ := hV
  have hL0 := hL
  obtain ⟨⟨l22, l23, l24, l25, l26, l27, l28, l29, l30, l31, l32, l33, l34⟩, -⟩ := hL
  have hL := hL0
  obtain ⟨v0, ev0⟩ : ∃ y, y = xs (i + 1) := ⟨_, rfl⟩
  obtain ⟨v1, ev1⟩ : ∃ y, y = xs (i + 2) := ⟨_, rfl⟩
  obtain ⟨v2, ev2⟩ : ∃ y, y = xs (i + 3) := ⟨_, rfl⟩
  have hl : lv_has ls 7 [(0, .ref b), (1, .ref (ad 0)), (2, .ref (gd 0)), (3, .ref o), (4, .int (nI (i)))] := hl
  refine lv_aload_n hx hb dL_law_1020 rfl (lv_at hl 1 rfl) ?_
  refine lv_aload_n hx hb dL_law_1021 rfl (lv_at hl 0 rfl) ?_
  refine lv_iload hx hb dL_law_1022 (lv_at hl 4 rfl) ?_
  refine lv_iconst (v := nI (1)) hx hb dL_law_1024 (by decide) ?_
  refine zo_add hx hb dL_law_1025 ?_
  refine va_sld hx hb hXs hbl hbA hS (vp_in_nI (show i + 1 < L by omega) (by omega)) dL_law_1026 ?_
  rw [nI_clamp (show i + 1 < 2 ^ 31 by omega)]
  refine zx_val (y := v0) (ev0.symm) ?_
  refine lv_aload_n hx hb dL_law_1027 rfl (lv_at hl 0 rfl) ?_
  refine lv_iload hx hb dL_law_1028 (lv_at hl 4 rfl) ?_
  refine lv_iconst (v := nI (2)) hx hb dL_law_1030 (by decide) ?_
  refine zo_add hx hb dL_law_1031 ?_
  refine va_sld hx hb hXs hbl hbA hS (vp_in_nI (show i + 2 < L by omega) (by omega)) dL_law_1032 ?_
  rw [nI_clamp (show i + 2 < 2 ^ 31 by omega)]
  refine zx_val (y := v1) (ev1.symm) ?_
  refine lv_aload_n hx hb dL_law_1033 rfl (lv_at hl 0 rfl) ?_
  refine lv_iload hx hb dL_law_1034 (lv_at hl 4 rfl) ?_
  refine lv_iconst (v := nI (3)) hx hb dL_law_1036 (by decide) ?_
  refine zo_add hx hb dL_law_1037 ?_
  refine va_sld hx hb hXs hbl hbA hS (vp_in_nI (show i + 3 < L by omega) (by omega)) dL_law_1038 ?_
  rw [nI_clamp (show i + 3 < 2 ^ 31 by omega)]
  refine zx_val (y := v2) (ev2.symm) ?_
  refine lv_aload_n hx hb dL_law_1039 rfl (lv_at hl 3 rfl) ?_
  refine zw_H_i (n := 5) (mc := 3) (ms := 18) (As := [.ref (ad 0), .int (v0), .int (v1), .int (v2), .ref o]) (rest := []) hx hb hml hts hown hZ hX hN hP hD hS hA (c_L_job l D cA _ _ o z (ad 0) _ l22 _ _ _ _ (kJ (ix v0 n) (fun t => ix v1 (fc t)) (ix v2 100000) (fun t => decide (nj < 60) && decide ((wl fw (nI t) nj).length < 7))) v0 v1 v2 (fun sz => c_X4_job l hlt D cA sz ws ad T Bd E PT PB PE n tr le sl mo la fc bo nd mk ck ct hd pq nj fw jf dl dn oc s8 s9 s10 s11 s12 hL hI v0 v1 v2) (fun _ _ h => h)) gL_law_L_job rfl ⟨rfl, rfl⟩ ⟨by decide +kernel, (Nat.le_of_ble_eq_true rfl), (Nat.le_of_ble_eq_true rfl)⟩ hl.1 rfl (Nat.le_of_ble_eq_true rfl) ⟨by show _ ≤ 601024; omega, by show _ ≤ 7293034; omega⟩ rfl dL_law_1040 (fun r1 u1 H locs hp1 hP hD hS hz1 => ?_)
  rcases u1 with ⟨⟨ans, f1⟩, t, f, d9, w1⟩ | ux
  · obtain ⟨rfl, hf1, hpc⟩ := hp1
    obtain ⟨htn, hv0, hfn, hv1, hd9, hv2, hnj, hw7, rfl, hkp, hL1⟩ := hpc
    have htn : t < n := htn
    have hv0 : v0 = nI t := hv0
    have hfn : f < fc t := hfn
    have hv1 : v1 = nI f := hv1
    have hd9 : d9 ≤ 99999 := hd9
    have hv2 : v2 = nI d9 := hv2
    have hnj : nj < 60 := hnj
    have hw7 : (wl fw (nI t) nj).length < 7 := hw7
    have hf1 : f1 0 = (nI nj).toInt64 := hf1
    have hkp : zKeep ws w1 := hkp
    have hm1 := mL_keep hm hkp
    have hP : va_P D vwCl ((o, zOut cA f1) :: w1) H := hP
    have hD : va_D (lwA s) ((o, zOut cA f1) :: w1) := hD
    obtain ⟨m0_1, -⟩ := id hm1
    refine lv_istore (lv' := [(5, .int (nI (0))), (0, .ref b), (1, .ref (ad 0)), (2, .ref (gd 0)), (3, .ref o), (4, .int (nI (i)))]) hx hb dL_law_1043 hl (by decide) rfl (fun ls hl => ?_)
    refine lv_aload_n hx hb dL_law_1045 rfl (lv_at hl 3 rfl) ?_
    refine lv_aload_n hx hb dL_law_1046 rfl (lv_at hl 1 rfl) ?_
    refine lv_iload hx hb dL_law_1047 (lv_at hl 5 rfl) ?_
    refine lv_iconst (v := nI (1)) hx hb dL_law_1049 (by decide) ?_
    refine zo_add hx hb dL_law_1050 ?_
    refine va_sld hx hb hXs hbl hbA hS (vp_in_nI (show i + 1 < L by omega) (by omega)) dL_law_1051 ?_
    rw [nI_clamp (show i + 1 < 2 ^ 31 by omega)]
    refine zx_val (y := v0) (ev0.symm) ?_
    refine zx_val (y := nI (t)) (hv0) ?_
    refine lv_aload_n hx hb dL_law_1052 rfl (lv_at hl 1 rfl) ?_
    refine lv_iload hx hb dL_law_1053 (lv_at hl 5 rfl) ?_
    refine lv_iconst (v := nI (2)) hx hb dL_law_1055 (by decide) ?_
    refine zo_add hx hb dL_law_1056 ?_
    refine va_sld hx hb hXs hbl hbA hS (vp_in_nI (show i + 2 < L by omega) (by omega)) dL_law_1057 ?_
    rw [nI_clamp (show i + 2 < 2 ^ 31 by omega)]
    refine zx_val (y := v1) (ev1.symm) ?_
    refine zx_val (y := nI (f)) (hv1) ?_
    refine lv_aload_n hx hb dL_law_1058 rfl (lv_at hl 1 rfl) ?_
    refine lv_iload hx hb dL_law_1059 (lv_at hl 5 rfl) ?_
    refine lv_iconst (v := nI (3)) hx hb dL_law_1061 (by decide) ?_
    refine zo_add hx hb dL_law_1062 ?_
    refine va_sld hx hb hXs hbl hbA hS (vp_in_nI (show i + 3 < L by omega) (by omega)) dL_law_1063 ?_
    rw [nI_clamp (show i + 3 < 2 ^ 31 by omega)]
    refine zx_val (y := v2) (ev2.symm) ?_
    refine zx_val (y := nI (d9)) (hv2) ?_
    refine zq_V_i (n := 3) (mc := 0) (ms := 0) (As := [.int (nI (t)), .int (nI (f)), .int (nI (d9))]) (rest := []) hx hb hml hts hown hZ hP hD hS hA (c_X5_job_ok l D cA _ _ hm1 hI hM t f d9 htn hfn hd9 hnj hw7) gL_law_X5_job rfl rfl ⟨rfl, rfl⟩ ⟨by decide +kernel, (Nat.le_of_ble_eq_true rfl), (Nat.le_of_ble_eq_true rfl)⟩ m0_1 rfl hl.1 rfl (Nat.le_of_ble_eq_true rfl) ⟨by show _ ≤ 601024; omega, by show _ ≤ 7293034; omega⟩ rfl dL_law_1064 (fun r2 u2 H locs hp2 hP hD hS hz2 => ?_)
    obtain ⟨rfl, hkp2, hm2⟩ := hp2
    have hL2 := zL_keep hL1 hkp2
    obtain ⟨m0_2, -⟩ := id hm2
    have hP : va_P D vwCl ((o, zOut cA f1) :: u2) H := hP
    have hD : va_D (lwA s) ((o, zOut cA f1) :: u2) := hD
    refine lv_istore (lv' := [(6, .int (nI nj)), (5, .int (nI (0))), (0, .ref b), (1, .ref (ad 0)), (2, .ref (gd 0)), (3, .ref o), (4, .int (nI (i)))]) hx hb dL_law_1067 hl (by decide) rfl (fun ls hl => ?_)
    refine lv_aload_n hx hb dL_law_1069 rfl (lv_at hl 4 rfl) ?_
    refine zk_V_i (n := 0) (As := []) (rest := []) hx hb hml hts hown hZ (zq_P hP) (c_X5_thrown l D cA _ hm2) gL_law_X5_thrown rfl rfl ⟨rfl, rfl⟩ ⟨by decide +kernel, (Nat.le_of_ble_eq_true rfl), (Nat.le_of_ble_eq_true rfl)⟩ m0_2 rfl hl.1 rfl (Nat.le_of_ble_eq_true rfl) ⟨by show _ ≤ 601024; omega, by show _ ≤ 7293034; omega⟩ rfl dL_law_1070 (fun r3 hr3 => ?_)
    obtain rfl := show r3 = nI (0) from hr3
    refine lv_iload hx hb dL_law_1073 (lv_at hl 1 rfl) ?_
    refine zc_eq (tgt := 1080) hx hb (by omega) (by omega) dL_law_1075 (by decide) (fun c_1 => ?_) (fun c_1 => absurd rfl c_1)
    refine lv_iload hx hb dL_law_1080 (lv_at hl 1 rfl) ?_
    refine zf_ne (tgt := 1097) hx hb (by omega) dL_law_1082 (by decide) (fun c_2 => False.elim (by omega)) (fun c_2 => ?_)
    refine lv_aload_n hx hb dL_law_1085 rfl (lv_at hl 5 rfl) ?_
    refine lv_iconst (v := nI (0)) hx hb dL_law_1086 (by decide) ?_
    refine va_lald hx hb hZ.1 hP 0 4 rfl rfl (vp_in_nI (show 0 < 1 by omega) (by omega)) dL_law_1087 ?_
    rw [nI_clamp (show 0 < 2 ^ 31 by omega)]
    refine zx_v (b := .long (nI nj).toInt64) (by rw [hf1]) ?_
    refine lv_iload hx hb dL_law_1088 (lv_at hl 0 rfl) ?_
    refine lv_i2l (v := (nI nj).toInt64) hx hb dL_law_1090 rfl ?_
    refine W.lcmp hx hb dL_law_1091 ?_
    refine zx_val (y := nI 0) (lg_cmp_self _) ?_
    refine zf_eq (tgt := 1097) hx hb (by omega) dL_law_1092 (by decide) (fun c_3 => ?_) (fun c_3 => False.elim (by omega))
    refine lv_goto (tgt := 1543) hx hb dL_law_1097 (by decide) ?_
    obtain ⟨hI2, hM2⟩ := I_job hI hM htn hfn hd9 hnj hw7
    exact kont f1 u2 H locs ls _ _ (by omega) (by omega) ⟨lv_sub hl [2, 3, 4, 5, 6] rfl, hP, hD, hS, _, _, _, _, _, _, _, _, _, _, _, _, _, _, _, _, _, _, _, _, _, _, _, _, _, _, _, _, _, _, _, _, _, _, _, _, _, _, _, _, _, _, hL2, hI2, hm2, hM2⟩
  · obtain ⟨rfl, hK0, E9, hE9⟩ := hp1
    have hm1 := hm
    have hL1 := hL
    have hK3 : (kJ (ix v0 n) (fun t => ix v1 (fc t)) (ix v2 100000) (fun t => decide (nj < 60) && decide ((wl fw (nI t) nj).length < 7))) ≤ 3 := zexIAS_le hE9
    have hP : va_P D vwCl ((o, zOut cA z) :: ws) H := hP
    have hD : va_D (lwA s) ((o, zOut cA z) :: ws) := hD
    obtain ⟨m0_1, -⟩ := id hm1
    refine lv_istore (lv' := [(5, .int (nI ((kJ (ix v0 n) (fun t => ix v1 (fc t)) (ix v2 100000) (fun t => decide (nj < 60) && decide ((wl fw (nI t) nj).length < 7)))))), (0, .ref b), (1, .ref (ad 0)), (2, .ref (gd 0)), (3, .ref o), (4, .int (nI (i)))]) hx hb dL_law_1043 hl (by decide) rfl (fun ls hl => ?_)
    refine lv_aload_n hx hb dL_law_1045 rfl (lv_at hl 3 rfl) ?_
    refine lv_aload_n hx hb dL_law_1046 rfl (lv_at hl 1 rfl) ?_
    refine lv_iload hx hb dL_law_1047 (lv_at hl 5 rfl) ?_
    refine lv_iconst (v := nI (1)) hx hb dL_law_1049 (by decide) ?_
    refine zo_add hx hb dL_law_1050 ?_
    refine va_sld hx hb hXs hbl hbA hS (vp_in_nI (show i + 1 < L by omega) (by omega)) dL_law_1051 ?_
    rw [nI_clamp (show i + 1 < 2 ^ 31 by omega)]
    refine zx_val (y := v0) (ev0.symm) ?_
    refine lv_aload_n hx hb dL_law_1052 rfl (lv_at hl 1 rfl) ?_
    refine lv_iload hx hb dL_law_1053 (lv_at hl 5 rfl) ?_
    refine lv_iconst (v := nI (2)) hx hb dL_law_1055 (by decide) ?_
    refine zo_add hx hb dL_law_1056 ?_
    refine va_sld hx hb hXs hbl hbA hS (vp_in_nI (show i + 2 < L by omega) (by omega)) dL_law_1057 ?_
    rw [nI_clamp (show i + 2 < 2 ^ 31 by omega)]
    refine zx_val (y := v1) (ev1.symm) ?_
    refine lv_aload_n hx hb dL_law_1058 rfl (lv_at hl 1 rfl) ?_
    refine lv_iload hx hb dL_law_1059 (lv_at hl 5 rfl) ?_
    refine lv_iconst (v := nI (3)) hx hb dL_law_1061 (by decide) ?_
    refine zo_add hx hb dL_law_1062 ?_
    refine va_sld hx hb hXs hbl hbA hS (vp_in_nI (show i + 3 < L by omega) (by omega)) dL_law_1063 ?_
    rw [nI_clamp (show i + 3 < 2 ^ 31 by omega)]
    refine zx_val (y := v2) (ev2.symm) ?_
    refine zq_V_i (n := 3) (mc := 0) (ms := 0) (As := [.int (v0), .int (v1), .int (v2)]) (rest := []) hx hb hml hts hown hZ hP hD hS hA (c_X5_job_no l D cA _ _ hm1 hI hM v0 v1 v2 hK0) gL_law_X5_job rfl rfl ⟨rfl, rfl⟩ ⟨by decide +kernel, (Nat.le_of_ble_eq_true rfl), (Nat.le_of_ble_eq_true rfl)⟩ m0_1 rfl hl.1 rfl (Nat.le_of_ble_eq_true rfl) ⟨by show _ ≤ 601024; omega, by show _ ≤ 7293034; omega⟩ rfl dL_law_1064 (fun r2 u2 H locs hp2 hP hD hS hz2 => ?_)
    obtain ⟨hkp2, hm2⟩ := hp2
    have hL2 := zL_keep hL1 hkp2
    obtain ⟨m0_2, -⟩ := id hm2
    have hP : va_P D vwCl ((o, zOut cA z) :: u2) H := hP
    have hD : va_D (lwA s) ((o, zOut cA z) :: u2) := hD
    refine lv_istore (lv' := [(6, .int (r2)), (5, .int (nI ((kJ (ix v0 n) (fun t => ix v1 (fc t)) (ix v2 100000) (fun t => decide (nj < 60) && decide ((wl fw (nI t) nj).length < 7)))))), (0, .ref b), (1, .ref (ad 0)), (2, .ref (gd 0)), (3, .ref o), (4, .int (nI (i)))]) hx hb dL_law_1067 hl (by decide) rfl (fun ls hl => ?_)
    refine lv_aload_n hx hb dL_law_1069 rfl (lv_at hl 4 rfl) ?_
    refine zk_V_i (n := 0) (As := []) (rest := []) hx hb hml hts hown hZ (zq_P hP) (c_X5_thrown l D cA _ hm2) gL_law_X5_thrown rfl rfl ⟨rfl, rfl⟩ ⟨by decide +kernel, (Nat.le_of_ble_eq_true rfl), (Nat.le_of_ble_eq_true rfl)⟩ m0_2 rfl hl.1 rfl (Nat.le_of_ble_eq_true rfl) ⟨by show _ ≤ 601024; omega, by show _ ≤ 7293034; omega⟩ rfl dL_law_1070 (fun r3 hr3 => ?_)
    obtain rfl := show r3 = nI ((kJ (ix v0 n) (fun t => ix v1 (fc t)) (ix v2 100000) (fun t => decide (nj < 60) && decide ((wl fw (nI t) nj).length < 7)))) from hr3
    refine lv_iload hx hb dL_law_1073 (lv_at hl 1 rfl) ?_
    refine zc_eq (tgt := 1080) hx hb (by omega) (by omega) dL_law_1075 (by decide) (fun c_4 => ?_) (fun c_4 => absurd rfl c_4)
    refine lv_iload hx hb dL_law_1080 (lv_at hl 1 rfl) ?_
    refine zf_ne (tgt := 1097) hx hb (by omega) dL_law_1082 (by decide) (fun c_5 => ?_) (fun c_5 => absurd c_5 hK0)
    refine lv_goto (tgt := 1543) hx hb dL_law_1097 (by decide) ?_
    have hI2 := hI
    have hM2 := hM
    exact kont z u2 H locs ls _ _ (by omega) (by omega) ⟨lv_sub hl [2, 3, 4, 5, 6] rfl, hP, hD, hS, _, _, _, _, _, _, _, _, _, _, _, _, _, _, _, _, _, _, _, _, _, _, _, _, _, _, _, _, _, _, _, _, _, _, _, _, _, _, _, _, _, _, hL2, hI2, hm2, hM2⟩
