set_option maxHeartbeats 4000000 in
set_option maxRecDepth 100000 in
theorem law_tape (l : Launch) (hlt : l.stackTraces = false) {p : Program} {e : Env} {s : State} {m : MethodId} {below : List Frame} {meth : Method} {c : Code} {Q : State → Prop} {D : va_G} {cA : Nat → ClassId} {b L : Nat} {xs : Nat → Int32} (F9 : lwF p s m c D cA b L xs) (ad gd : Nat → Nat) (o i cells slots : Nat) (hi : i + 4 ≤ L) (hL8 : L ≤ 2048) (hc9 : cells ≤ 600000) (hs9 : slots ≤ 7000000) (kont : lwK p l e s m below meth c Q D cA ad gd o b i cells slots) (z : Nat → Int64) (ws : va_W) (H : Heap) (locs : List Loc) (ls : Array Slot) (hI9 : lwI s D cA ad gd o b i H locs ls z ws) : W p l e room_1 s m #[Value.ref b] below meth c H locs cells slots Q (F0 m 152 ls []) := by
  obtain ⟨hx, hb, hml, hown, hts, hZ, hX, hN, hXs, hbl⟩ := F9
  have hbA : ¬ lwA s b := Nat.not_le.mpr hbl
  have hA : ∀ q : Nat, s.heap.size ≤ q → lwA s q := fun _ h => h
  obtain ⟨hl, hP, hD, hS, hV⟩ := hI9
  obtain ⟨T, Bd, E, PT, PB, PE, n, tr, le, sl, mo, la, fc, bo, nd, mk, ck, ct, hd, pq, nj, fw, jf, dl, dn, oc, s8, s9, s10, s11, s12, sf, bf, pf, jt, fin, my, fls, fod, fle, fro, th, hL, hI, hm, hM⟩ := hV
  have hL0 := hL
  obtain ⟨⟨l22, l23, l24, l25, l26, l27, l28, l29, l30, l31, l32, l33, l34⟩, -⟩ := hL
  have hL := hL0
  obtain ⟨v0, ev0⟩ : ∃ y, y = xs (i + 1) := ⟨_, rfl⟩
  obtain ⟨v1, ev1⟩ : ∃ y, y = xs (i + 2) := ⟨_, rfl⟩
  have hl : lv_has ls 7 [(0, .ref b), (1, .ref (ad 0)), (2, .ref (gd 0)), (3, .ref o), (4, .int (nI (i)))] := hl
  refine lv_aload_n hx hb dL_law_152 rfl (lv_at hl 1 rfl) ?_
  refine lv_aload_n hx hb dL_law_153 rfl (lv_at hl 0 rfl) ?_
  refine lv_iload hx hb dL_law_154 (lv_at hl 4 rfl) ?_
  refine lv_iconst (v := nI (1)) hx hb dL_law_156 (by decide) ?_
  refine zo_add hx hb dL_law_157 ?_
  refine va_sld hx hb hXs hbl hbA hS (vp_in_nI (show i + 1 < L by omega) (by omega)) dL_law_158 ?_
  rw [nI_clamp (show i + 1 < 2 ^ 31 by omega)]
  refine zx_val (y := v0) (ev0.symm) ?_
  refine lv_aload_n hx hb dL_law_159 rfl (lv_at hl 0 rfl) ?_
  refine lv_iload hx hb dL_law_160 (lv_at hl 4 rfl) ?_
  refine lv_iconst (v := nI (2)) hx hb dL_law_162 (by decide) ?_
  refine zo_add hx hb dL_law_163 ?_
  refine va_sld hx hb hXs hbl hbA hS (vp_in_nI (show i + 2 < L by omega) (by omega)) dL_law_164 ?_
  rw [nI_clamp (show i + 2 < 2 ^ 31 by omega)]
  refine zx_val (y := v1) (ev1.symm) ?_
  refine lv_aload_n hx hb dL_law_165 rfl (lv_at hl 3 rfl) ?_
  refine zw_H_i (n := 4) (mc := 2) (ms := 19) (As := [.ref (ad 0), .int (v0), .int (v1), .ref o]) (rest := []) hx hb hml hts hown hZ hX hN hP hD hS hA (c_L_tape l D cA _ _ o z (ad 0) _ l22 _ _ _ _ (k2 (rg v0 1 8) (rg v1 4 200) (fun _ _ => decide (n < 8))) v0 v1 (fun sz => c_X4_tape l hlt D cA sz ws ad T Bd E PT PB PE n tr le sl mo la fc bo nd mk ck ct hd pq nj fw jf dl dn oc s8 s9 s10 s11 s12 hL hI v0 v1) (fun _ _ h => h)) gL_law_L_tape rfl ⟨rfl, rfl⟩ ⟨by decide +kernel, (Nat.le_of_ble_eq_true rfl), (Nat.le_of_ble_eq_true rfl)⟩ hl.1 rfl (Nat.le_of_ble_eq_true rfl) ⟨by show _ ≤ 601024; omega, by show _ ≤ 7293034; omega⟩ rfl dL_law_166 (fun r1 u1 H locs hp1 hP hD hS hz1 => ?_)
  rcases u1 with ⟨⟨ans, f1⟩, a, b9, w1⟩ | ux
  · obtain ⟨rfl, hf1, hpc⟩ := hp1
    obtain ⟨hn8, ha, hb9, hv0, hv1, rfl, hkp, T9, Bd9, PT9, PB9, hL1⟩ := hpc
    have hn8 : n < 8 := hn8
    have ha : 1 ≤ a ∧ a ≤ 8 := ha
    have hb9 : 4 ≤ b9 ∧ b9 ≤ 200 := hb9
    have hv0 : v0 = nI a := hv0
    have hv1 : v1 = nI b9 := hv1
    have hf1 : f1 0 = (nI n).toInt64 := hf1
    have hkp : zKeep ws w1 := hkp
    have hm1 := mL_keep hm hkp
    have hP : va_P D vwCl ((o, zOut cA f1) :: w1) H := hP
    have hD : va_D (lwA s) ((o, zOut cA f1) :: w1) := hD
    obtain ⟨m0_1, -⟩ := id hm1
    refine lv_istore (lv' := [(5, .int (nI (0))), (0, .ref b), (1, .ref (ad 0)), (2, .ref (gd 0)), (3, .ref o), (4, .int (nI (i)))]) hx hb dL_law_169 hl (by decide) rfl (fun ls hl => ?_)
    refine lv_aload_n hx hb dL_law_171 rfl (lv_at hl 3 rfl) ?_
    refine lv_aload_n hx hb dL_law_172 rfl (lv_at hl 1 rfl) ?_
    refine lv_iload hx hb dL_law_173 (lv_at hl 5 rfl) ?_
    refine lv_iconst (v := nI (1)) hx hb dL_law_175 (by decide) ?_
    refine zo_add hx hb dL_law_176 ?_
    refine va_sld hx hb hXs hbl hbA hS (vp_in_nI (show i + 1 < L by omega) (by omega)) dL_law_177 ?_
    rw [nI_clamp (show i + 1 < 2 ^ 31 by omega)]
    refine zx_val (y := v0) (ev0.symm) ?_
    refine zx_val (y := nI (a)) (hv0) ?_
    refine lv_aload_n hx hb dL_law_178 rfl (lv_at hl 1 rfl) ?_
    refine lv_iload hx hb dL_law_179 (lv_at hl 5 rfl) ?_
    refine lv_iconst (v := nI (2)) hx hb dL_law_181 (by decide) ?_
    refine zo_add hx hb dL_law_182 ?_
    refine va_sld hx hb hXs hbl hbA hS (vp_in_nI (show i + 2 < L by omega) (by omega)) dL_law_183 ?_
    rw [nI_clamp (show i + 2 < 2 ^ 31 by omega)]
    refine zx_val (y := v1) (ev1.symm) ?_
    refine zx_val (y := nI (b9)) (hv1) ?_
    refine zq_V_i (n := 2) (mc := 0) (ms := 0) (As := [.int (nI (a)), .int (nI (b9))]) (rest := []) hx hb hml hts hown hZ hP hD hS hA (c_X5_tape_ok l D cA _ _ hm1 hI hM a b9 hn8 ha hb9) gL_law_X5_tape rfl rfl ⟨rfl, rfl⟩ ⟨by decide +kernel, (Nat.le_of_ble_eq_true rfl), (Nat.le_of_ble_eq_true rfl)⟩ m0_1 rfl hl.1 rfl (Nat.le_of_ble_eq_true rfl) ⟨by show _ ≤ 601024; omega, by show _ ≤ 7293034; omega⟩ rfl dL_law_184 (fun r2 u2 H locs hp2 hP hD hS hz2 => ?_)
    obtain ⟨rfl, hkp2, hm2⟩ := hp2
    have hL2 := zL_keep hL1 hkp2
    obtain ⟨m0_2, -⟩ := id hm2
    have hP : va_P D vwCl ((o, zOut cA f1) :: u2) H := hP
    have hD : va_D (lwA s) ((o, zOut cA f1) :: u2) := hD
    refine lv_istore (lv' := [(6, .int (nI n)), (5, .int (nI (0))), (0, .ref b), (1, .ref (ad 0)), (2, .ref (gd 0)), (3, .ref o), (4, .int (nI (i)))]) hx hb dL_law_187 hl (by decide) rfl (fun ls hl => ?_)
    refine lv_aload_n hx hb dL_law_189 rfl (lv_at hl 4 rfl) ?_
    refine zk_V_i (n := 0) (As := []) (rest := []) hx hb hml hts hown hZ (zq_P hP) (c_X5_thrown l D cA _ hm2) gL_law_X5_thrown rfl rfl ⟨rfl, rfl⟩ ⟨by decide +kernel, (Nat.le_of_ble_eq_true rfl), (Nat.le_of_ble_eq_true rfl)⟩ m0_2 rfl hl.1 rfl (Nat.le_of_ble_eq_true rfl) ⟨by show _ ≤ 601024; omega, by show _ ≤ 7293034; omega⟩ rfl dL_law_190 (fun r3 hr3 => ?_)
    obtain rfl := show r3 = nI (0) from hr3
    refine lv_iload hx hb dL_law_193 (lv_at hl 1 rfl) ?_
    refine zc_eq (tgt := 200) hx hb (by omega) (by omega) dL_law_195 (by decide) (fun c_1 => ?_) (fun c_1 => absurd rfl c_1)
    refine lv_iload hx hb dL_law_200 (lv_at hl 1 rfl) ?_
    refine zf_ne (tgt := 217) hx hb (by omega) dL_law_202 (by decide) (fun c_2 => False.elim (by omega)) (fun c_2 => ?_)
    refine lv_aload_n hx hb dL_law_205 rfl (lv_at hl 5 rfl) ?_
    refine lv_iconst (v := nI (0)) hx hb dL_law_206 (by decide) ?_
    refine va_lald hx hb hZ.1 hP 0 4 rfl rfl (vp_in_nI (show 0 < 1 by omega) (by omega)) dL_law_207 ?_
    rw [nI_clamp (show 0 < 2 ^ 31 by omega)]
    refine zx_v (b := .long (nI n).toInt64) (by rw [hf1]) ?_
    refine lv_iload hx hb dL_law_208 (lv_at hl 0 rfl) ?_
    refine lv_i2l (v := (nI n).toInt64) hx hb dL_law_210 rfl ?_
    refine W.lcmp hx hb dL_law_211 ?_
    refine zx_val (y := nI 0) (lg_cmp_self _) ?_
    refine zf_eq (tgt := 217) hx hb (by omega) dL_law_212 (by decide) (fun c_3 => ?_) (fun c_3 => False.elim (by omega))
    refine lv_goto (tgt := 1543) hx hb dL_law_217 (by decide) ?_
    rw [va_up_eq (hM.1 n (Nat.le_refl n)).1, va_up_eq (hM.1 n (Nat.le_refl n)).2] at hL2
    obtain ⟨hI2, hM2⟩ := I_tape hI hM hn8 ha hb9 (fst12 (sl := sl) (n := n) (by omega))
    exact kont f1 u2 H locs ls _ _ (by omega) (by omega) ⟨lv_sub hl [2, 3, 4, 5, 6] rfl, hP, hD, hS, _, _, _, _, _, _, _, _, _, _, _, _, _, _, _, _, _, _, _, _, _, _, _, _, _, _, _, _, _, _, _, _, _, _, _, _, _, _, _, _, _, _, hL2, hI2, hm2, hM2⟩
  · obtain ⟨rfl, hK0, E9, hE9⟩ := hp1
    have hm1 := hm
    have hL1 := hL
    have hK3 : (k2 (rg v0 1 8) (rg v1 4 200) (fun _ _ => decide (n < 8))) ≤ 3 := zexAS_le hE9
    have hP : va_P D vwCl ((o, zOut cA z) :: ws) H := hP
    have hD : va_D (lwA s) ((o, zOut cA z) :: ws) := hD
    obtain ⟨m0_1, -⟩ := id hm1
    refine lv_istore (lv' := [(5, .int (nI ((k2 (rg v0 1 8) (rg v1 4 200) (fun _ _ => decide (n < 8)))))), (0, .ref b), (1, .ref (ad 0)), (2, .ref (gd 0)), (3, .ref o), (4, .int (nI (i)))]) hx hb dL_law_169 hl (by decide) rfl (fun ls hl => ?_)
    refine lv_aload_n hx hb dL_law_171 rfl (lv_at hl 3 rfl) ?_
    refine lv_aload_n hx hb dL_law_172 rfl (lv_at hl 1 rfl) ?_
    refine lv_iload hx hb dL_law_173 (lv_at hl 5 rfl) ?_
    refine lv_iconst (v := nI (1)) hx hb dL_law_175 (by decide) ?_
    refine zo_add hx hb dL_law_176 ?_
    refine va_sld hx hb hXs hbl hbA hS (vp_in_nI (show i + 1 < L by omega) (by omega)) dL_law_177 ?_
    rw [nI_clamp (show i + 1 < 2 ^ 31 by omega)]
    refine zx_val (y := v0) (ev0.symm) ?_
    refine lv_aload_n hx hb dL_law_178 rfl (lv_at hl 1 rfl) ?_
    refine lv_iload hx hb dL_law_179 (lv_at hl 5 rfl) ?_
    refine lv_iconst (v := nI (2)) hx hb dL_law_181 (by decide) ?_
    refine zo_add hx hb dL_law_182 ?_
    refine va_sld hx hb hXs hbl hbA hS (vp_in_nI (show i + 2 < L by omega) (by omega)) dL_law_183 ?_
    rw [nI_clamp (show i + 2 < 2 ^ 31 by omega)]
    refine zx_val (y := v1) (ev1.symm) ?_
    refine zq_V_i (n := 2) (mc := 0) (ms := 0) (As := [.int (v0), .int (v1)]) (rest := []) hx hb hml hts hown hZ hP hD hS hA (c_X5_tape_no l D cA _ _ hm1 hI hM v0 v1 hK0) gL_law_X5_tape rfl rfl ⟨rfl, rfl⟩ ⟨by decide +kernel, (Nat.le_of_ble_eq_true rfl), (Nat.le_of_ble_eq_true rfl)⟩ m0_1 rfl hl.1 rfl (Nat.le_of_ble_eq_true rfl) ⟨by show _ ≤ 601024; omega, by show _ ≤ 7293034; omega⟩ rfl dL_law_184 (fun r2 u2 H locs hp2 hP hD hS hz2 => ?_)
    obtain ⟨hkp2, hm2⟩ := hp2
    have hL2 := zL_keep hL1 hkp2
    obtain ⟨m0_2, -⟩ := id hm2
    have hP : va_P D vwCl ((o, zOut cA z) :: u2) H := hP
    have hD : va_D (lwA s) ((o, zOut cA z) :: u2) := hD
    refine lv_istore (lv' := [(6, .int (r2)), (5, .int (nI ((k2 (rg v0 1 8) (rg v1 4 200) (fun _ _ => decide (n < 8)))))), (0, .ref b), (1, .ref (ad 0)), (2, .ref (gd 0)), (3, .ref o), (4, .int (nI (i)))]) hx hb dL_law_187 hl (by decide) rfl (fun ls hl => ?_)
    refine lv_aload_n hx hb dL_law_189 rfl (lv_at hl 4 rfl) ?_
    refine zk_V_i (n := 0) (As := []) (rest := []) hx hb hml hts hown hZ (zq_P hP) (c_X5_thrown l D cA _ hm2) gL_law_X5_thrown rfl rfl ⟨rfl, rfl⟩ ⟨by decide +kernel, (Nat.le_of_ble_eq_true rfl), (Nat.le_of_ble_eq_true rfl)⟩ m0_2 rfl hl.1 rfl (Nat.le_of_ble_eq_true rfl) ⟨by show _ ≤ 601024; omega, by show _ ≤ 7293034; omega⟩ rfl dL_law_190 (fun r3 hr3 => ?_)
    obtain rfl := show r3 = nI ((k2 (rg v0 1 8) (rg v1 4 200) (fun _ _ => decide (n < 8)))) from hr3
    refine lv_iload hx hb dL_law_193 (lv_at hl 1 rfl) ?_
    refine zc_eq (tgt := 200) hx hb (by omega) (by omega) dL_law_195 (by decide) (fun c_4 => ?_) (fun c_4 => absurd rfl c_4)
    refine lv_iload hx hb dL_law_200 (lv_at hl 1 rfl) ?_
    refine zf_ne (tgt := 217) hx hb (by omega) dL_law_202 (by decide) (fun c_5 => ?_) (fun c_5 => absurd c_5 hK0)
    refine lv_goto (tgt := 1543) hx hb dL_law_217 (by decide) ?_
    have hI2 := hI
    have hM2 := hM
    exact kont z u2 H locs ls _ _ (by omega) (by omega) ⟨lv_sub hl [2, 3, 4, 5, 6] rfl, hP, hD, hS, _, _, _, _, _, _, _, _, _, _, _, _, _, _, _, _, _, _, _, _, _, _, _, _, _, _, _, _, _, _, _, _, _, _, _, _, _, _, _, _, _, _, hL2, hI2, hm2, hM2⟩

set_option maxHeartbeats 4000000 in
set_option maxRecDepth 100000 in
theorem law_carry (l : Launch) (hlt : l.stackTraces = false) {p : Program} {e : Env} {s : State} {m : MethodId} {below : List Frame} {meth : Method} {c : Code} {Q : State → Prop} {D : va_G} {cA : Nat → ClassId} {b L : Nat} {xs : Nat → Int32} (F9 : lwF p s m c D cA b L xs) (ad gd : Nat → Nat) (o i cells slots : Nat) (hi : i + 4 ≤ L) (hL8 : L ≤ 2048) (hc9 : cells ≤ 600000) (hs9 : slots ≤ 7000000) (kont : lwK p l e s m below meth c Q D cA ad gd o b i cells slots) (z : Nat → Int64) (ws : va_W) (H : Heap) (locs : List Loc) (ls : Array Slot) (hI9 : lwI s D cA ad gd o b i H locs ls z ws) : W p l e room_1 s m #[Value.ref b] below meth c H locs cells slots Q (F0 m 220 ls []) := by
  obtain ⟨hx, hb, hml, hown, hts, hZ, hX, hN, hXs, hbl⟩ := F9
  have hbA : ¬ lwA s b := Nat.not_le.mpr hbl
  have hA : ∀ q : Nat, s.heap.size ≤ q → lwA s q := fun _ h => h
  obtain ⟨hl, hP, hD, hS, hV⟩ := hI9
  obtain ⟨T, Bd, E, PT, PB, PE, n, tr, le, sl, mo, la, fc, bo, nd, mk, ck, ct, hd, pq, nj, fw, jf, dl, dn, oc, s8, s9, s10, s11, s12, sf, bf, pf, jt, fin, my, fls, fod, fle, fro, th, hL, hI, hm, hM⟩ := hV
  have hL0 := hL
  obtain ⟨⟨l22, l23, l24, l25, l26, l27, l28, l29, l30, l31, l32, l33, l34⟩, -⟩ := hL
  have hL := hL0
  obtain ⟨v0, ev0⟩ : ∃ y, y = xs (i + 1) := ⟨_, rfl⟩
  obtain ⟨v1, ev1⟩ : ∃ y, y = xs (i + 2) := ⟨_, rfl⟩
  have hl : lv_has ls 7 [(0, .ref b), (1, .ref (ad 0)), (2, .ref (gd 0)), (3, .ref o), (4, .int (nI (i)))] := hl
  refine lv_aload_n hx hb dL_law_220 rfl (lv_at hl 1 rfl) ?_
  refine lv_aload_n hx hb dL_law_221 rfl (lv_at hl 0 rfl) ?_
  refine lv_iload hx hb dL_law_222 (lv_at hl 4 rfl) ?_
  refine lv_iconst (v := nI (1)) hx hb dL_law_224 (by decide) ?_
  refine zo_add hx hb dL_law_225 ?_
  refine va_sld hx hb hXs hbl hbA hS (vp_in_nI (show i + 1 < L by omega) (by omega)) dL_law_226 ?_
  rw [nI_clamp (show i + 1 < 2 ^ 31 by omega)]
  refine zx_val (y := v0) (ev0.symm) ?_
  refine lv_aload_n hx hb dL_law_227 rfl (lv_at hl 0 rfl) ?_
  refine lv_iload hx hb dL_law_228 (lv_at hl 4 rfl) ?_
  refine lv_iconst (v := nI (2)) hx hb dL_law_230 (by decide) ?_
  refine zo_add hx hb dL_law_231 ?_
  refine va_sld hx hb hXs hbl hbA hS (vp_in_nI (show i + 2 < L by omega) (by omega)) dL_law_232 ?_
  rw [nI_clamp (show i + 2 < 2 ^ 31 by omega)]
  refine zx_val (y := v1) (ev1.symm) ?_
  refine lv_aload_n hx hb dL_law_233 rfl (lv_at hl 3 rfl) ?_
  refine zw_H_i (n := 4) (mc := 2) (ms := 12) (As := [.ref (ad 0), .int (v0), .int (v1), .ref o]) (rest := []) hx hb hml hts hown hZ hX hN hP hD hS hA (c_L_carry l D cA _ _ o z (ad 0) _ l22 _ _ _ _ (k2 (ix v0 n) (ix v1 12) (fun t g => !(mo t).isSome && fre sl g n)) v0 v1 (fun sz => c_X4_carry l hlt D cA sz ws ad T Bd E PT PB PE n tr le sl mo la fc bo nd mk ck ct hd pq nj fw jf dl dn oc s8 s9 s10 s11 s12 hL hI v0 v1) (fun _ _ h => h)) gL_law_L_carry rfl ⟨rfl, rfl⟩ ⟨by decide +kernel, (Nat.le_of_ble_eq_true rfl), (Nat.le_of_ble_eq_true rfl)⟩ hl.1 rfl (Nat.le_of_ble_eq_true rfl) ⟨by show _ ≤ 601024; omega, by show _ ≤ 7293034; omega⟩ rfl dL_law_234 (fun r1 u1 H locs hp1 hP hD hS hz1 => ?_)
  rcases u1 with ⟨⟨ans, f1⟩, t, g, w1⟩ | ux
  · obtain ⟨rfl, hf1, hpc⟩ := hp1
    obtain ⟨htn, hv0, hg, hv1, ⟨hmt, hf⟩, rfl, hkp, hL1⟩ := hpc
    have htn : t < n := htn
    have hv0 : v0 = nI t := hv0
    have hg : g < 12 := hg
    have hv1 : v1 = nI g := hv1
    have hmt : mo t = none := hmt
    have hf : fre sl g n = true := hf
    have hf1 : f1 0 = (nI (sl t)).toInt64 := hf1
    have hkp : zKeep ws w1 := hkp
    have hm1 := mL_keep hm hkp
    have hP : va_P D vwCl ((o, zOut cA f1) :: w1) H := hP
    have hD : va_D (lwA s) ((o, zOut cA f1) :: w1) := hD
    obtain ⟨m0_1, -⟩ := id hm1
    refine lv_istore (lv' := [(5, .int (nI (0))), (0, .ref b), (1, .ref (ad 0)), (2, .ref (gd 0)), (3, .ref o), (4, .int (nI (i)))]) hx hb dL_law_237 hl (by decide) rfl (fun ls hl => ?_)
    refine lv_aload_n hx hb dL_law_239 rfl (lv_at hl 3 rfl) ?_
    refine lv_aload_n hx hb dL_law_240 rfl (lv_at hl 1 rfl) ?_
    refine lv_iload hx hb dL_law_241 (lv_at hl 5 rfl) ?_
    refine lv_iconst (v := nI (1)) hx hb dL_law_243 (by decide) ?_
    refine zo_add hx hb dL_law_244 ?_
    refine va_sld hx hb hXs hbl hbA hS (vp_in_nI (show i + 1 < L by omega) (by omega)) dL_law_245 ?_
    rw [nI_clamp (show i + 1 < 2 ^ 31 by omega)]
    refine zx_val (y := v0) (ev0.symm) ?_
    refine zx_val (y := nI (t)) (hv0) ?_
    refine lv_aload_n hx hb dL_law_246 rfl (lv_at hl 1 rfl) ?_
    refine lv_iload hx hb dL_law_247 (lv_at hl 5 rfl) ?_
    refine lv_iconst (v := nI (2)) hx hb dL_law_249 (by decide) ?_
    refine zo_add hx hb dL_law_250 ?_
    refine va_sld hx hb hXs hbl hbA hS (vp_in_nI (show i + 2 < L by omega) (by omega)) dL_law_251 ?_
    rw [nI_clamp (show i + 2 < 2 ^ 31 by omega)]
    refine zx_val (y := v1) (ev1.symm) ?_
    refine zx_val (y := nI (g)) (hv1) ?_
    refine zq_V_i (n := 2) (mc := 0) (ms := 0) (As := [.int (nI (t)), .int (nI (g))]) (rest := []) hx hb hml hts hown hZ hP hD hS hA (c_X5_carry_ok l D cA _ _ hm1 hI hM t g htn hg hmt hf) gL_law_X5_carry rfl rfl ⟨rfl, rfl⟩ ⟨by decide +kernel, (Nat.le_of_ble_eq_true rfl), (Nat.le_of_ble_eq_true rfl)⟩ m0_1 rfl hl.1 rfl (Nat.le_of_ble_eq_true rfl) ⟨by show _ ≤ 601024; omega, by show _ ≤ 7293034; omega⟩ rfl dL_law_252 (fun r2 u2 H locs hp2 hP hD hS hz2 => ?_)
    obtain ⟨rfl, hkp2, hm2⟩ := hp2
    have hL2 := zL_keep hL1 hkp2
    obtain ⟨m0_2, -⟩ := id hm2
    have hP : va_P D vwCl ((o, zOut cA f1) :: u2) H := hP
    have hD : va_D (lwA s) ((o, zOut cA f1) :: u2) := hD
    refine lv_istore (lv' := [(6, .int (nI (sl t))), (5, .int (nI (0))), (0, .ref b), (1, .ref (ad 0)), (2, .ref (gd 0)), (3, .ref o), (4, .int (nI (i)))]) hx hb dL_law_255 hl (by decide) rfl (fun ls hl => ?_)
    refine lv_aload_n hx hb dL_law_257 rfl (lv_at hl 4 rfl) ?_
    refine zk_V_i (n := 0) (As := []) (rest := []) hx hb hml hts hown hZ (zq_P hP) (c_X5_thrown l D cA _ hm2) gL_law_X5_thrown rfl rfl ⟨rfl, rfl⟩ ⟨by decide +kernel, (Nat.le_of_ble_eq_true rfl), (Nat.le_of_ble_eq_true rfl)⟩ m0_2 rfl hl.1 rfl (Nat.le_of_ble_eq_true rfl) ⟨by show _ ≤ 601024; omega, by show _ ≤ 7293034; omega⟩ rfl dL_law_258 (fun r3 hr3 => ?_)
    obtain rfl := show r3 = nI (0) from hr3
    refine lv_iload hx hb dL_law_261 (lv_at hl 1 rfl) ?_
    refine zc_eq (tgt := 268) hx hb (by omega) (by omega) dL_law_263 (by decide) (fun c_1 => ?_) (fun c_1 => absurd rfl c_1)
    refine lv_iload hx hb dL_law_268 (lv_at hl 1 rfl) ?_
    refine zf_ne (tgt := 285) hx hb (by omega) dL_law_270 (by decide) (fun c_2 => False.elim (by omega)) (fun c_2 => ?_)
    refine lv_aload_n hx hb dL_law_273 rfl (lv_at hl 5 rfl) ?_
    refine lv_iconst (v := nI (0)) hx hb dL_law_274 (by decide) ?_
    refine va_lald hx hb hZ.1 hP 0 4 rfl rfl (vp_in_nI (show 0 < 1 by omega) (by omega)) dL_law_275 ?_
    rw [nI_clamp (show 0 < 2 ^ 31 by omega)]
    refine zx_v (b := .long (nI (sl t)).toInt64) (by rw [hf1]) ?_
    refine lv_iload hx hb dL_law_276 (lv_at hl 0 rfl) ?_
    refine lv_i2l (v := (nI (sl t)).toInt64) hx hb dL_law_278 rfl ?_
    refine W.lcmp hx hb dL_law_279 ?_
    refine zx_val (y := nI 0) (lg_cmp_self _) ?_
    refine zf_eq (tgt := 285) hx hb (by omega) dL_law_280 (by decide) (fun c_3 => ?_) (fun c_3 => False.elim (by omega))
    refine lv_goto (tgt := 1543) hx hb dL_law_285 (by decide) ?_
    have hI2 := I_carry (t := t) hI hg
    have hM2 := hM
    exact kont f1 u2 H locs ls _ _ (by omega) (by omega) ⟨lv_sub hl [2, 3, 4, 5, 6] rfl, hP, hD, hS, _, _, _, _, _, _, _, _, _, _, _, _, _, _, _, _, _, _, _, _, _, _, _, _, _, _, _, _, _, _, _, _, _, _, _, _, _, _, _, _, _, _, hL2, hI2, hm2, hM2⟩
  · obtain ⟨rfl, hK0, E9, hE9⟩ := hp1
    have hm1 := hm
    have hL1 := hL
    have hK3 : (k2 (ix v0 n) (ix v1 12) (fun t g => !(mo t).isSome && fre sl g n)) ≤ 3 := zexIS_le hE9
    have hP : va_P D vwCl ((o, zOut cA z) :: ws) H := hP
    have hD : va_D (lwA s) ((o, zOut cA z) :: ws) := hD
    obtain ⟨m0_1, -⟩ := id hm1
    refine lv_istore (lv' := [(5, .int (nI ((k2 (ix v0 n) (ix v1 12) (fun t g => !(mo t).isSome && fre sl g n))))), (0, .ref b), (1, .ref (ad 0)), (2, .ref (gd 0)), (3, .ref o), (4, .int (nI (i)))]) hx hb dL_law_237 hl (by decide) rfl (fun ls hl => ?_)
    refine lv_aload_n hx hb dL_law_239 rfl (lv_at hl 3 rfl) ?_
    refine lv_aload_n hx hb dL_law_240 rfl (lv_at hl 1 rfl) ?_
    refine lv_iload hx hb dL_law_241 (lv_at hl 5 rfl) ?_
    refine lv_iconst (v := nI (1)) hx hb dL_law_243 (by decide) ?_
    refine zo_add hx hb dL_law_244 ?_
    refine va_sld hx hb hXs hbl hbA hS (vp_in_nI (show i + 1 < L by omega) (by omega)) dL_law_245 ?_
    rw [nI_clamp (show i + 1 < 2 ^ 31 by omega)]
    refine zx_val (y := v0) (ev0.symm) ?_
    refine lv_aload_n hx hb dL_law_246 rfl (lv_at hl 1 rfl) ?_
    refine lv_iload hx hb dL_law_247 (lv_at hl 5 rfl) ?_
    refine lv_iconst (v := nI (2)) hx hb dL_law_249 (by decide) ?_
    refine zo_add hx hb dL_law_250 ?_
    refine va_sld hx hb hXs hbl hbA hS (vp_in_nI (show i + 2 < L by omega) (by omega)) dL_law_251 ?_
    rw [nI_clamp (show i + 2 < 2 ^ 31 by omega)]
    refine zx_val (y := v1) (ev1.symm) ?_
    refine zq_V_i (n := 2) (mc := 0) (ms := 0) (As := [.int (v0), .int (v1)]) (rest := []) hx hb hml hts hown hZ hP hD hS hA (c_X5_carry_no l D cA _ _ hm1 hI hM v0 v1 hK0) gL_law_X5_carry rfl rfl ⟨rfl, rfl⟩ ⟨by decide +kernel, (Nat.le_of_ble_eq_true rfl), (Nat.le_of_ble_eq_true rfl)⟩ m0_1 rfl hl.1 rfl (Nat.le_of_ble_eq_true rfl) ⟨by show _ ≤ 601024; omega, by show _ ≤ 7293034; omega⟩ rfl dL_law_252 (fun r2 u2 H locs hp2 hP hD hS hz2 => ?_)
    obtain ⟨hkp2, hm2⟩ := hp2
    have hL2 := zL_keep hL1 hkp2
    obtain ⟨m0_2, -⟩ := id hm2
    have hP : va_P D vwCl ((o, zOut cA z) :: u2) H := hP
    have hD : va_D (lwA s) ((o, zOut cA z) :: u2) := hD
    refine lv_istore (lv' := [(6, .int (r2)), (5, .int (nI ((k2 (ix v0 n) (ix v1 12) (fun t g => !(mo t).isSome && fre sl g n))))), (0, .ref b), (1, .ref (ad 0)), (2, .ref (gd 0)), (3, .ref o), (4, .int (nI (i)))]) hx hb dL_law_255 hl (by decide) rfl (fun ls hl => ?_)
    refine lv_aload_n hx hb dL_law_257 rfl (lv_at hl 4 rfl) ?_
    refine zk_V_i (n := 0) (As := []) (rest := []) hx hb hml hts hown hZ (zq_P hP) (c_X5_thrown l D cA _ hm2) gL_law_X5_thrown rfl rfl ⟨rfl, rfl⟩ ⟨by decide +kernel, (Nat.le_of_ble_eq_true rfl), (Nat.le_of_ble_eq_true rfl)⟩ m0_2 rfl hl.1 rfl (Nat.le_of_ble_eq_true rfl) ⟨by show _ ≤ 601024; omega, by show _ ≤ 7293034; omega⟩ rfl dL_law_258 (fun r3 hr3 => ?_)
    obtain rfl := show r3 = nI ((k2 (ix v0 n) (ix v1 12) (fun t g => !(mo t).isSome && fre sl g n))) from hr3
    refine lv_iload hx hb dL_law_261 (lv_at hl 1 rfl) ?_
    refine zc_eq (tgt := 268) hx hb (by omega) (by omega) dL_law_263 (by decide) (fun c_4 => ?_) (fun c_4 => absurd rfl c_4)
    refine lv_iload hx hb dL_law_268 (lv_at hl 1 rfl) ?_
    refine zf_ne (tgt := 285) hx hb (by omega) dL_law_270 (by decide) (fun c_5 => ?_) (fun c_5 => absurd c_5 hK0)
    refine lv_goto (tgt := 1543) hx hb dL_law_285 (by decide) ?_
    have hI2 := hI
    have hM2 := hM
    exact kont z u2 H locs ls _ _ (by omega) (by omega) ⟨lv_sub hl [2, 3, 4, 5, 6] rfl, hP, hD, hS, _, _, _, _, _, _, _, _, _, _, _, _, _, _, _, _, _, _, _, _, _, _, _, _, _, _, _, _, _, _, _, _, _, _, _, _, _, _, _, _, _, _, hL2, hI2, hm2, hM2⟩

set_option maxHeartbeats 4000000 in
set_option maxRecDepth 100000 in
theorem law_placeOf (l : Launch) (hlt : l.stackTraces = false) {p : Program} {e : Env} {s : State} {m : MethodId} {below : List Frame} {meth : Method} {c : Code} {Q : State → Prop} {D : va_G} {cA : Nat → ClassId} {b L : Nat} {xs : Nat → Int32} (F9 : lwF p s m c D cA b L xs) (ad gd : Nat → Nat) (o i cells slots : Nat) (hi : i + 4 ≤ L) (hL8 : L ≤ 2048) (hc9 : cells ≤ 600000) (hs9 : slots ≤ 7000000) (kont : lwK p l e s m below meth c Q D cA ad gd o b i cells slots) (z : Nat → Int64) (ws : va_W) (H : Heap) (locs : List Loc) (ls : Array Slot) (hI9 : lwI s D cA ad gd o b i H locs ls z ws) : W p l e room_1 s m #[Value.ref b] below meth c H locs cells slots Q (F0 m 288 ls []) := by
  obtain ⟨hx, hb, hml, hown, hts, hZ, hX, hN, hXs, hbl⟩ := F9
  have hbA : ¬ lwA s b := Nat.not_le.mpr hbl
  have hA : ∀ q : Nat, s.heap.size ≤ q → lwA s q := fun _ h => h
  obtain ⟨hl, hP, hD, hS, hV⟩ := hI9
  obtain ⟨T, Bd, E, PT, PB, PE, n, tr, le, sl, mo, la, fc, bo, nd, mk, ck, ct, hd, pq, nj, fw, jf, dl, dn, oc, s8, s9, s10, s11, s12, sf, bf, pf, jt, fin, my, fls, fod, fle, fro, th, hL, hI, hm, hM⟩ := hV
  have hL0 := hL
  obtain ⟨⟨l22, l23, l24, l25, l26, l27, l28, l29, l30, l31, l32, l33, l34⟩, -⟩ := hL
  have hL := hL0
  obtain ⟨v0, ev0⟩ : ∃ y, y = xs (i + 1) := ⟨_, rfl⟩
  have hl : lv_has ls 7 [(0, .ref b), (1, .ref (ad 0)), (2, .ref (gd 0)), (3, .ref o), (4, .int (nI (i)))] := hl
  refine lv_aload_n hx hb dL_law_288 rfl (lv_at hl 1 rfl) ?_
  refine lv_aload_n hx hb dL_law_289 rfl (lv_at hl 0 rfl) ?_
  refine lv_iload hx hb dL_law_290 (lv_at hl 4 rfl) ?_
  refine lv_iconst (v := nI (1)) hx hb dL_law_292 (by decide) ?_
  refine zo_add hx hb dL_law_293 ?_
  refine va_sld hx hb hXs hbl hbA hS (vp_in_nI (show i + 1 < L by omega) (by omega)) dL_law_294 ?_
  rw [nI_clamp (show i + 1 < 2 ^ 31 by omega)]
  refine zx_val (y := v0) (ev0.symm) ?_
  refine lv_aload_n hx hb dL_law_295 rfl (lv_at hl 3 rfl) ?_
  refine zw_H_i (n := 3) (mc := 1) (ms := 6) (As := [.ref (ad 0), .int (v0), .ref o]) (rest := []) hx hb hml hts hown hZ hX hN hP hD hS hA (c_L_placeOf l D cA _ _ o z (ad 0) _ l22 _ _ _ _ (k1 (ix v0 n)) v0 (fun sz => c_X4_placeOf l hlt D cA sz ws ad T Bd E PT PB PE n tr le sl mo la fc bo nd mk ck ct hd pq nj fw jf dl dn oc s8 s9 s10 s11 s12 hL hI v0) (fun _ _ h => h)) gL_law_L_placeOf rfl ⟨rfl, rfl⟩ ⟨by decide +kernel, (Nat.le_of_ble_eq_true rfl), (Nat.le_of_ble_eq_true rfl)⟩ hl.1 rfl (Nat.le_of_ble_eq_true rfl) ⟨by show _ ≤ 601024; omega, by show _ ≤ 7293034; omega⟩ rfl dL_law_296 (fun r1 u1 H locs hp1 hP hD hS hz1 => ?_)
  rcases u1 with ⟨⟨ans, f1⟩, t⟩ | ux
  · obtain ⟨rfl, hf1, hpc⟩ := hp1
    obtain ⟨htn, hv0, rfl⟩ := hpc
    have htn : t < n := htn
    have hv0 : v0 = nI t := hv0
    have hf1 : f1 0 = (placeR mo sl t).toInt64 := hf1
    have hm1 := hm
    have hL1 := hL
    have hP : va_P D vwCl ((o, zOut cA f1) :: ws) H := hP
    have hD : va_D (lwA s) ((o, zOut cA f1) :: ws) := hD
    obtain ⟨m0_1, -⟩ := id hm1
    refine lv_istore (lv' := [(5, .int (nI (0))), (0, .ref b), (1, .ref (ad 0)), (2, .ref (gd 0)), (3, .ref o), (4, .int (nI (i)))]) hx hb dL_law_299 hl (by decide) rfl (fun ls hl => ?_)
    refine lv_aload_n hx hb dL_law_301 rfl (lv_at hl 3 rfl) ?_
    refine lv_aload_n hx hb dL_law_302 rfl (lv_at hl 1 rfl) ?_
    refine lv_iload hx hb dL_law_303 (lv_at hl 5 rfl) ?_
    refine lv_iconst (v := nI (1)) hx hb dL_law_305 (by decide) ?_
    refine zo_add hx hb dL_law_306 ?_
    refine va_sld hx hb hXs hbl hbA hS (vp_in_nI (show i + 1 < L by omega) (by omega)) dL_law_307 ?_
    rw [nI_clamp (show i + 1 < 2 ^ 31 by omega)]
    refine zx_val (y := v0) (ev0.symm) ?_
    refine zx_val (y := nI (t)) (hv0) ?_
    refine zq_V_i (n := 1) (mc := 0) (ms := 0) (As := [.int (nI (t))]) (rest := []) hx hb hml hts hown hZ hP hD hS hA (c_X5_placeOf_ok l D cA _ _ hm1 hI hM t htn) gL_law_X5_placeOf rfl rfl ⟨rfl, rfl⟩ ⟨by decide +kernel, (Nat.le_of_ble_eq_true rfl), (Nat.le_of_ble_eq_true rfl)⟩ m0_1 rfl hl.1 rfl (Nat.le_of_ble_eq_true rfl) ⟨by show _ ≤ 601024; omega, by show _ ≤ 7293034; omega⟩ rfl dL_law_308 (fun r2 u2 H locs hp2 hP hD hS hz2 => ?_)
    obtain ⟨rfl, hkp2, hm2⟩ := hp2
    have hL2 := zL_keep hL1 hkp2
    obtain ⟨m0_2, -⟩ := id hm2
    have hP : va_P D vwCl ((o, zOut cA f1) :: u2) H := hP
    have hD : va_D (lwA s) ((o, zOut cA f1) :: u2) := hD
    refine lv_istore (lv' := [(6, .int (placeR mo sl t)), (5, .int (nI (0))), (0, .ref b), (1, .ref (ad 0)), (2, .ref (gd 0)), (3, .ref o), (4, .int (nI (i)))]) hx hb dL_law_311 hl (by decide) rfl (fun ls hl => ?_)
    refine lv_aload_n hx hb dL_law_313 rfl (lv_at hl 4 rfl) ?_
    refine zk_V_i (n := 0) (As := []) (rest := []) hx hb hml hts hown hZ (zq_P hP) (c_X5_thrown l D cA _ hm2) gL_law_X5_thrown rfl rfl ⟨rfl, rfl⟩ ⟨by decide +kernel, (Nat.le_of_ble_eq_true rfl), (Nat.le_of_ble_eq_true rfl)⟩ m0_2 rfl hl.1 rfl (Nat.le_of_ble_eq_true rfl) ⟨by show _ ≤ 601024; omega, by show _ ≤ 7293034; omega⟩ rfl dL_law_314 (fun r3 hr3 => ?_)
    obtain rfl := show r3 = nI (0) from hr3
    refine lv_iload hx hb dL_law_317 (lv_at hl 1 rfl) ?_
    refine zc_eq (tgt := 324) hx hb (by omega) (by omega) dL_law_319 (by decide) (fun c_1 => ?_) (fun c_1 => absurd rfl c_1)
    refine lv_iload hx hb dL_law_324 (lv_at hl 1 rfl) ?_
    refine zf_ne (tgt := 341) hx hb (by omega) dL_law_326 (by decide) (fun c_2 => False.elim (by omega)) (fun c_2 => ?_)
    refine lv_aload_n hx hb dL_law_329 rfl (lv_at hl 5 rfl) ?_
    refine lv_iconst (v := nI (0)) hx hb dL_law_330 (by decide) ?_
    refine va_lald hx hb hZ.1 hP 0 4 rfl rfl (vp_in_nI (show 0 < 1 by omega) (by omega)) dL_law_331 ?_
    rw [nI_clamp (show 0 < 2 ^ 31 by omega)]
    refine zx_v (b := .long (placeR mo sl t).toInt64) (by rw [hf1]) ?_
    refine lv_iload hx hb dL_law_332 (lv_at hl 0 rfl) ?_
    refine lv_i2l (v := (placeR mo sl t).toInt64) hx hb dL_law_334 rfl ?_
    refine W.lcmp hx hb dL_law_335 ?_
    refine zx_val (y := nI 0) (lg_cmp_self _) ?_
    refine zf_eq (tgt := 341) hx hb (by omega) dL_law_336 (by decide) (fun c_3 => ?_) (fun c_3 => False.elim (by omega))
    refine lv_goto (tgt := 1543) hx hb dL_law_341 (by decide) ?_
    have hI2 := hI
    have hM2 := hM
    exact kont f1 u2 H locs ls _ _ (by omega) (by omega) ⟨lv_sub hl [2, 3, 4, 5, 6] rfl, hP, hD, hS, _, _, _, _, _, _, _, _, _, _, _, _, _, _, _, _, _, _, _, _, _, _, _, _, _, _, _, _, _, _, _, _, _, _, _, _, _, _, _, _, _, _, hL2, hI2, hm2, hM2⟩
  · obtain ⟨rfl, hK0, E9, hE9⟩ := hp1
    have hm1 := hm
    have hL1 := hL
    have hK3 : (k1 (ix v0 n)) ≤ 3 := zex1_le hE9
    have hP : va_P D vwCl ((o, zOut cA z) :: ws) H := hP
    have hD : va_D (lwA s) ((o, zOut cA z) :: ws) := hD
    obtain ⟨m0_1, -⟩ := id hm1
    refine lv_istore (lv' := [(5, .int (nI ((k1 (ix v0 n))))), (0, .ref b), (1, .ref (ad 0)), (2, .ref (gd 0)), (3, .ref o), (4, .int (nI (i)))]) hx hb dL_law_299 hl (by decide) rfl (fun ls hl => ?_)
    refine lv_aload_n hx hb dL_law_301 rfl (lv_at hl 3 rfl) ?_
    refine lv_aload_n hx hb dL_law_302 rfl (lv_at hl 1 rfl) ?_
    refine lv_iload hx hb dL_law_303 (lv_at hl 5 rfl) ?_
    refine lv_iconst (v := nI (1)) hx hb dL_law_305 (by decide) ?_
    refine zo_add hx hb dL_law_306 ?_
    refine va_sld hx hb hXs hbl hbA hS (vp_in_nI (show i + 1 < L by omega) (by omega)) dL_law_307 ?_
    rw [nI_clamp (show i + 1 < 2 ^ 31 by omega)]
    refine zx_val (y := v0) (ev0.symm) ?_
    refine zq_V_i (n := 1) (mc := 0) (ms := 0) (As := [.int (v0)]) (rest := []) hx hb hml hts hown hZ hP hD hS hA (c_X5_placeOf_no l D cA _ _ hm1 hI hM v0 hK0) gL_law_X5_placeOf rfl rfl ⟨rfl, rfl⟩ ⟨by decide +kernel, (Nat.le_of_ble_eq_true rfl), (Nat.le_of_ble_eq_true rfl)⟩ m0_1 rfl hl.1 rfl (Nat.le_of_ble_eq_true rfl) ⟨by show _ ≤ 601024; omega, by show _ ≤ 7293034; omega⟩ rfl dL_law_308 (fun r2 u2 H locs hp2 hP hD hS hz2 => ?_)
    obtain ⟨hkp2, hm2⟩ := hp2
    have hL2 := zL_keep hL1 hkp2
    obtain ⟨m0_2, -⟩ := id hm2
    have hP : va_P D vwCl ((o, zOut cA z) :: u2) H := hP
    have hD : va_D (lwA s) ((o, zOut cA z) :: u2) := hD
    refine lv_istore (lv' := [(6, .int (r2)), (5, .int (nI ((k1 (ix v0 n))))), (0, .ref b), (1, .ref (ad 0)), (2, .ref (gd 0)), (3, .ref o), (4, .int (nI (i)))]) hx hb dL_law_311 hl (by decide) rfl (fun ls hl => ?_)
    refine lv_aload_n hx hb dL_law_313 rfl (lv_at hl 4 rfl) ?_
    refine zk_V_i (n := 0) (As := []) (rest := []) hx hb hml hts hown hZ (zq_P hP) (c_X5_thrown l D cA _ hm2) gL_law_X5_thrown rfl rfl ⟨rfl, rfl⟩ ⟨by decide +kernel, (Nat.le_of_ble_eq_true rfl), (Nat.le_of_ble_eq_true rfl)⟩ m0_2 rfl hl.1 rfl (Nat.le_of_ble_eq_true rfl) ⟨by show _ ≤ 601024; omega, by show _ ≤ 7293034; omega⟩ rfl dL_law_314 (fun r3 hr3 => ?_)
    obtain rfl := show r3 = nI ((k1 (ix v0 n))) from hr3
    refine lv_iload hx hb dL_law_317 (lv_at hl 1 rfl) ?_
    refine zc_eq (tgt := 324) hx hb (by omega) (by omega) dL_law_319 (by decide) (fun c_4 => ?_) (fun c_4 => absurd rfl c_4)
    refine lv_iload hx hb dL_law_324 (lv_at hl 1 rfl) ?_
    refine zf_ne (tgt := 341) hx hb (by omega) dL_law_326 (by decide) (fun c_5 => ?_) (fun c_5 => absurd c_5 hK0)
    refine lv_goto (tgt := 1543) hx hb dL_law_341 (by decide) ?_
    have hI2 := hI
    have hM2 := hM
    exact kont z u2 H locs ls _ _ (by omega) (by omega) ⟨lv_sub hl [2, 3, 4, 5, 6] rfl, hP, hD, hS, _, _, _, _, _, _, _, _, _, _, _, _, _, _, _, _, _, _, _, _, _, _, _, _, _, _, _, _, _, _, _, _, _, _, _, _, _, _, _, _, _, _, hL2, hI2, hm2, hM2⟩

set_option maxHeartbeats 4000000 in
set_option maxRecDepth 100000 in
theorem law_files (l : Launch) (hlt : l.stackTraces = false) {p : Program} {e : Env} {s : State} {m : MethodId} {below : List Frame} {meth : Method} {c : Code} {Q : State → Prop} {D : va_G} {cA : Nat → ClassId} {b L : Nat} {xs : Nat → Int32} (F9 : lwF p s m c D cA b L xs) (ad gd : Nat → Nat) (o i cells slots : Nat) (hi : i + 4 ≤ L) (hL8 : L ≤ 2048) (hc9 : cells ≤ 600000) (hs9 : slots ≤ 7000000) (kont : lwK p l e s m below meth c Q D cA ad gd o b i cells slots) (z : Nat → Int64) (ws : va_W) (H : Heap) (locs : List Loc) (ls : Array Slot) (hI9 : lwI s D cA ad gd o b i H locs ls z ws) : W p l e room_1 s m #[Value.ref b] below meth c H locs cells slots Q (F0 m 344 ls []) := by
  obtain ⟨hx, hb, hml, hown, hts, hZ, hX, hN, hXs, hbl⟩ := F9
  have hbA : ¬ lwA s b := Nat.not_le.mpr hbl
  have hA : ∀ q : Nat, s.heap.size ≤ q → lwA s q := fun _ h => h
  obtain ⟨hl, hP, hD, hS, hV⟩ := hI9
  obtain ⟨T, Bd, E, PT, PB, PE, n, tr, le, sl, mo, la, fc, bo, nd, mk, ck, ct, hd, pq, nj, fw, jf, dl, dn, oc, s8, s9, s10, s11, s12, sf, bf, pf, jt, fin, my, fls, fod, fle, fro, th, hL, hI, hm, hM⟩ := hV
  have hL0 := hL
  obtain ⟨⟨l22, l23, l24, l25, l26, l27, l28, l29, l30, l31, l32, l33, l34⟩, -⟩ := hL
  have hL := hL0
  obtain ⟨v0, ev0⟩ : ∃ y, y = xs (i + 1) := ⟨_, rfl⟩
  have hl : lv_has ls 7 [(0, .ref b), (1, .ref (ad 0)), (2, .ref (gd 0)), (3, .ref o), (4, .int (nI (i)))] := hl
  refine lv_aload_n hx hb dL_law_344 rfl (lv_at hl 1 rfl) ?_
  refine lv_aload_n hx hb dL_law_345 rfl (lv_at hl 0 rfl) ?_
  refine lv_iload hx hb dL_law_346 (lv_at hl 4 rfl) ?_
  refine lv_iconst (v := nI (1)) hx hb dL_law_348 (by decide) ?_
  refine zo_add hx hb dL_law_349 ?_
  refine va_sld hx hb hXs hbl hbA hS (vp_in_nI (show i + 1 < L by omega) (by omega)) dL_law_350 ?_
  rw [nI_clamp (show i + 1 < 2 ^ 31 by omega)]
  refine zx_val (y := v0) (ev0.symm) ?_
  refine lv_aload_n hx hb dL_law_351 rfl (lv_at hl 3 rfl) ?_
  refine zw_H_i (n := 3) (mc := 1) (ms := 6) (As := [.ref (ad 0), .int (v0), .ref o]) (rest := []) hx hb hml hts hown hZ hX hN hP hD hS hA (c_L_files l D cA _ _ o z (ad 0) _ l22 _ _ _ _ (k1 (ix v0 n)) v0 (fun sz => c_X4_files l hlt D cA sz ws ad T Bd E PT PB PE n tr le sl mo la fc bo nd mk ck ct hd pq nj fw jf dl dn oc s8 s9 s10 s11 s12 hL hI v0) (fun _ _ h => h)) gL_law_L_files rfl ⟨rfl, rfl⟩ ⟨by decide +kernel, (Nat.le_of_ble_eq_true rfl), (Nat.le_of_ble_eq_true rfl)⟩ hl.1 rfl (Nat.le_of_ble_eq_true rfl) ⟨by show _ ≤ 601024; omega, by show _ ≤ 7293034; omega⟩ rfl dL_law_352 (fun r1 u1 H locs hp1 hP hD hS hz1 => ?_)
  rcases u1 with ⟨⟨ans, f1⟩, t⟩ | ux
  · obtain ⟨rfl, hf1, hpc⟩ := hp1
    obtain ⟨htn, hv0, rfl⟩ := hpc
    have htn : t < n := htn
    have hv0 : v0 = nI t := hv0
    have hf1 : f1 0 = (nI (fc t)).toInt64 := hf1
    have hm1 := hm
    have hL1 := hL
    have hP : va_P D vwCl ((o, zOut cA f1) :: ws) H := hP
    have hD : va_D (lwA s) ((o, zOut cA f1) :: ws) := hD
    obtain ⟨m0_1, -⟩ := id hm1
    refine lv_istore (lv' := [(5, .int (nI (0))), (0, .ref b), (1, .ref (ad 0)), (2, .ref (gd 0)), (3, .ref o), (4, .int (nI (i)))]) hx hb dL_law_355 hl (by decide) rfl (fun ls hl => ?_)
    refine lv_aload_n hx hb dL_law_357 rfl (lv_at hl 3 rfl) ?_
    refine lv_aload_n hx hb dL_law_358 rfl (lv_at hl 1 rfl) ?_
    refine lv_iload hx hb dL_law_359 (lv_at hl 5 rfl) ?_
    refine lv_iconst (v := nI (1)) hx hb dL_law_361 (by decide) ?_
    refine zo_add hx hb dL_law_362 ?_
    refine va_sld hx hb hXs hbl hbA hS (vp_in_nI (show i + 1 < L by omega) (by omega)) dL_law_363 ?_
    rw [nI_clamp (show i + 1 < 2 ^ 31 by omega)]
    refine zx_val (y := v0) (ev0.symm) ?_
    refine zx_val (y := nI (t)) (hv0) ?_
    refine zq_V_i (n := 1) (mc := 0) (ms := 0) (As := [.int (nI (t))]) (rest := []) hx hb hml hts hown hZ hP hD hS hA (c_X5_files_ok l D cA _ _ hm1 hI hM t htn) gL_law_X5_files rfl rfl ⟨rfl, rfl⟩ ⟨by decide +kernel, (Nat.le_of_ble_eq_true rfl), (Nat.le_of_ble_eq_true rfl)⟩ m0_1 rfl hl.1 rfl (Nat.le_of_ble_eq_true rfl) ⟨by show _ ≤ 601024; omega, by show _ ≤ 7293034; omega⟩ rfl dL_law_364 (fun r2 u2 H locs hp2 hP hD hS hz2 => ?_)
    obtain ⟨rfl, hkp2, hm2⟩ := hp2
    have hL2 := zL_keep hL1 hkp2
    obtain ⟨m0_2, -⟩ := id hm2
    have hP : va_P D vwCl ((o, zOut cA f1) :: u2) H := hP
    have hD : va_D (lwA s) ((o, zOut cA f1) :: u2) := hD
    refine lv_istore (lv' := [(6, .int (nI (fc t))), (5, .int (nI (0))), (0, .ref b), (1, .ref (ad 0)), (2, .ref (gd 0)), (3, .ref o), (4, .int (nI (i)))]) hx hb dL_law_367 hl (by decide) rfl (fun ls hl => ?_)
    refine lv_aload_n hx hb dL_law_369 rfl (lv_at hl 4 rfl) ?_
    refine zk_V_i (n := 0) (As := []) (rest := []) hx hb hml hts hown hZ (zq_P hP) (c_X5_thrown l D cA _ hm2) gL_law_X5_thrown rfl rfl ⟨rfl, rfl⟩ ⟨by decide +kernel, (Nat.le_of_ble_eq_true rfl), (Nat.le_of_ble_eq_true rfl)⟩ m0_2 rfl hl.1 rfl (Nat.le_of_ble_eq_true rfl) ⟨by show _ ≤ 601024; omega, by show _ ≤ 7293034; omega⟩ rfl dL_law_370 (fun r3 hr3 => ?_)
    obtain rfl := show r3 = nI (0) from hr3
    refine lv_iload hx hb dL_law_373 (lv_at hl 1 rfl) ?_
    refine zc_eq (tgt := 380) hx hb (by omega) (by omega) dL_law_375 (by decide) (fun c_1 => ?_) (fun c_1 => absurd rfl c_1)
    refine lv_iload hx hb dL_law_380 (lv_at hl 1 rfl) ?_
    refine zf_ne (tgt := 397) hx hb (by omega) dL_law_382 (by decide) (fun c_2 => False.elim (by omega)) (fun c_2 => ?_)
    refine lv_aload_n hx hb dL_law_385 rfl (lv_at hl 5 rfl) ?_
    refine lv_iconst (v := nI (0)) hx hb dL_law_386 (by decide) ?_
    refine va_lald hx hb hZ.1 hP 0 4 rfl rfl (vp_in_nI (show 0 < 1 by omega) (by omega)) dL_law_387 ?_
    rw [nI_clamp (show 0 < 2 ^ 31 by omega)]
    refine zx_v (b := .long (nI (fc t)).toInt64) (by rw [hf1]) ?_
    refine lv_iload hx hb dL_law_388 (lv_at hl 0 rfl) ?_
    refine lv_i2l (v := (nI (fc t)).toInt64) hx hb dL_law_390 rfl ?_
    refine W.lcmp hx hb dL_law_391 ?_
    refine zx_val (y := nI 0) (lg_cmp_self _) ?_
    refine zf_eq (tgt := 397) hx hb (by omega) dL_law_392 (by decide) (fun c_3 => ?_) (fun c_3 => False.elim (by omega))
    refine lv_goto (tgt := 1543) hx hb dL_law_397 (by decide) ?_
    have hI2 := hI
    have hM2 := hM
    exact kont f1 u2 H locs ls _ _ (by omega) (by omega) ⟨lv_sub hl [2, 3, 4, 5, 6] rfl, hP, hD, hS, _, _, _, _, _, _, _, _, _, _, _, _, _, _, _, _, _, _, _, _, _, _, _, _, _, _, _, _, _, _, _, _, _, _, _, _, _, _, _, _, _, _, hL2, hI2, hm2, hM2⟩
  · obtain ⟨rfl, hK0, E9, hE9⟩ := hp1
    have hm1 := hm
    have hL1 := hL
    have hK3 : (k1 (ix v0 n)) ≤ 3 := zex1_le hE9
    have hP : va_P D vwCl ((o, zOut cA z) :: ws) H := hP
    have hD : va_D (lwA s) ((o, zOut cA z) :: ws) := hD
    obtain ⟨m0_1, -⟩ := id hm1
    refine lv_istore (lv' := [(5, .int (nI ((k1 (ix v0 n))))), (0, .ref b), (1, .ref (ad 0)), (2, .ref (gd 0)), (3, .ref o), (4, .int (nI (i)))]) hx hb dL_law_355 hl (by decide) rfl (fun ls hl => ?_)
    refine lv_aload_n hx hb dL_law_357 rfl (lv_at hl 3 rfl) ?_
    refine lv_aload_n hx hb dL_law_358 rfl (lv_at hl 1 rfl) ?_
    refine lv_iload hx hb dL_law_359 (lv_at hl 5 rfl) ?_
    refine lv_iconst (v := nI (1)) hx hb dL_law_361 (by decide) ?_
    refine zo_add hx hb dL_law_362 ?_
    refine va_sld hx hb hXs hbl hbA hS (vp_in_nI (show i + 1 < L by omega) (by omega)) dL_law_363 ?_
    rw [nI_clamp (show i + 1 < 2 ^ 31 by omega)]
    refine zx_val (y := v0) (ev0.symm) ?_
    refine zq_V_i (n := 1) (mc := 0) (ms := 0) (As := [.int (v0)]) (rest := []) hx hb hml hts hown hZ hP hD hS hA (c_X5_files_no l D cA _ _ hm1 hI hM v0 hK0) gL_law_X5_files rfl rfl ⟨rfl, rfl⟩ ⟨by decide +kernel, (Nat.le_of_ble_eq_true rfl), (Nat.le_of_ble_eq_true rfl)⟩ m0_1 rfl hl.1 rfl (Nat.le_of_ble_eq_true rfl) ⟨by show _ ≤ 601024; omega, by show _ ≤ 7293034; omega⟩ rfl dL_law_364 (fun r2 u2 H locs hp2 hP hD hS hz2 => ?_)
    obtain ⟨hkp2, hm2⟩ := hp2
    have hL2 := zL_keep hL1 hkp2
    obtain ⟨m0_2, -⟩ := id hm2
    have hP : va_P D vwCl ((o, zOut cA z) :: u2) H := hP
    have hD : va_D (lwA s) ((o, zOut cA z) :: u2) := hD
    refine lv_istore (lv' := [(6, .int (r2)), (5, .int (nI ((k1 (ix v0 n))))), (0, .ref b), (1, .ref (ad 0)), (2, .ref (gd 0)), (3, .ref o), (4, .int (nI (i)))]) hx hb dL_law_367 hl (by decide) rfl (fun ls hl => ?_)
    refine lv_aload_n hx hb dL_law_369 rfl (lv_at hl 4 rfl) ?_
    refine zk_V_i (n := 0) (As := []) (rest := []) hx hb hml hts hown hZ (zq_P hP) (c_X5_thrown l D cA _ hm2) gL_law_X5_thrown rfl rfl ⟨rfl, rfl⟩ ⟨by decide +kernel, (Nat.le_of_ble_eq_true rfl), (Nat.le_of_ble_eq_true rfl)⟩ m0_2 rfl hl.1 rfl (Nat.le_of_ble_eq_true rfl) ⟨by show _ ≤ 601024; omega, by show _ ≤ 7293034; omega⟩ rfl dL_law_370 (fun r3 hr3 => ?_)
    obtain rfl := show r3 = nI ((k1 (ix v0 n))) from hr3
    refine lv_iload hx hb dL_law_373 (lv_at hl 1 rfl) ?_
    refine zc_eq (tgt := 380) hx hb (by omega) (by omega) dL_law_375 (by decide) (fun c_4 => ?_) (fun c_4 => absurd rfl c_4)
    refine lv_iload hx hb dL_law_380 (lv_at hl 1 rfl) ?_
    refine zf_ne (tgt := 397) hx hb (by omega) dL_law_382 (by decide) (fun c_5 => ?_) (fun c_5 => absurd c_5 hK0)
    refine lv_goto (tgt := 1543) hx hb dL_law_397 (by decide) ?_
    have hI2 := hI
    have hM2 := hM
    exact kont z u2 H locs ls _ _ (by omega) (by omega) ⟨lv_sub hl [2, 3, 4, 5, 6] rfl, hP, hD, hS, _, _, _, _, _, _, _, _, _, _, _, _, _, _, _, _, _, _, _, _, _, _, _, _, _, _, _, _, _, _, _, _, _, _, _, _, _, _, _, _, _, _, hL2, hI2, hm2, hM2⟩

set_option maxHeartbeats 4000000 in
set_option maxRecDepth 100000 in
theorem law_start (l : Launch) (hlt : l.stackTraces = false) {p : Program} {e : Env} {s : State} {m : MethodId} {below : List Frame} {meth : Method} {c : Code} {Q : State → Prop} {D : va_G} {cA : Nat → ClassId} {b L : Nat} {xs : Nat → Int32} (F9 : lwF p s m c D cA b L xs) (ad gd : Nat → Nat) (o i cells slots : Nat) (hi : i + 4 ≤ L) (hL8 : L ≤ 2048) (hc9 : cells ≤ 600000) (hs9 : slots ≤ 7000000) (kont : lwK p l e s m below meth c Q D cA ad gd o b i cells slots) (z : Nat → Int64) (ws : va_W) (H : Heap) (locs : List Loc) (ls : Array Slot) (hI9 : lwI s D cA ad gd o b i H locs ls z ws) : W p l e room_1 s m #[Value.ref b] below meth c H locs cells slots Q (F0 m 400 ls []) := by
  obtain ⟨hx, hb, hml, hown, hts, hZ, hX, hN, hXs, hbl⟩ := F9
  have hbA : ¬ lwA s b := Nat.not_le.mpr hbl
  have hA : ∀ q : Nat, s.heap.size ≤ q → lwA s q := fun _ h => h
  obtain ⟨hl, hP, hD, hS, hV⟩ := hI9
  obtain ⟨T, Bd, E, PT, PB, PE, n, tr, le, sl, mo, la, fc, bo, nd, mk, ck, ct, hd, pq, nj, fw, jf, dl, dn, oc, s8, s9, s10, s11, s12, sf, bf, pf, jt, fin, my, fls, fod, fle, fro, th, hL, hI, hm, hM⟩ := hV
  have hL0 := hL
  obtain ⟨⟨l22, l23, l24, l25, l26, l27, l28, l29, l30, l31, l32, l33, l34⟩, -⟩ := hL
  have hL := hL0
  obtain ⟨v0, ev0⟩ : ∃ y, y = xs (i + 1) := ⟨_, rfl⟩
  obtain ⟨v1, ev1⟩ : ∃ y, y = xs (i + 2) := ⟨_, rfl⟩
  have hl : lv_has ls 7 [(0, .ref b), (1, .ref (ad 0)), (2, .ref (gd 0)), (3, .ref o), (4, .int (nI (i)))] := hl
  refine lv_aload_n hx hb dL_law_400 rfl (lv_at hl 1 rfl) ?_
  refine lv_aload_n hx hb dL_law_401 rfl (lv_at hl 0 rfl) ?_
  refine lv_iload hx hb dL_law_402 (lv_at hl 4 rfl) ?_
  refine lv_iconst (v := nI (1)) hx hb dL_law_404 (by decide) ?_
  refine zo_add hx hb dL_law_405 ?_
  refine va_sld hx hb hXs hbl hbA hS (vp_in_nI (show i + 1 < L by omega) (by omega)) dL_law_406 ?_
  rw [nI_clamp (show i + 1 < 2 ^ 31 by omega)]
  refine zx_val (y := v0) (ev0.symm) ?_
  refine lv_aload_n hx hb dL_law_407 rfl (lv_at hl 0 rfl) ?_
  refine lv_iload hx hb dL_law_408 (lv_at hl 4 rfl) ?_
  refine lv_iconst (v := nI (2)) hx hb dL_law_410 (by decide) ?_
  refine zo_add hx hb dL_law_411 ?_
  refine va_sld hx hb hXs hbl hbA hS (vp_in_nI (show i + 2 < L by omega) (by omega)) dL_law_412 ?_
  rw [nI_clamp (show i + 2 < 2 ^ 31 by omega)]
  refine zx_val (y := v1) (ev1.symm) ?_
  refine lv_aload_n hx hb dL_law_413 rfl (lv_at hl 3 rfl) ?_
  refine zw_H_i (n := 4) (mc := 2) (ms := 12) (As := [.ref (ad 0), .int (v0), .int (v1), .ref o]) (rest := []) hx hb hml hts hown hZ hX hN hP hD hS hA (c_L_start l D cA _ _ o z (ad 0) _ l22 _ _ _ _ (k1b (ix v0 n) (fun t => ix v1 (fc t))) v0 v1 (fun sz => c_X4_start l hlt D cA sz ws ad T Bd E PT PB PE n tr le sl mo la fc bo nd mk ck ct hd pq nj fw jf dl dn oc s8 s9 s10 s11 s12 hL hI v0 v1) (fun _ _ h => h)) gL_law_L_start rfl ⟨rfl, rfl⟩ ⟨by decide +kernel, (Nat.le_of_ble_eq_true rfl), (Nat.le_of_ble_eq_true rfl)⟩ hl.1 rfl (Nat.le_of_ble_eq_true rfl) ⟨by show _ ≤ 601024; omega, by show _ ≤ 7293034; omega⟩ rfl dL_law_414 (fun r1 u1 H locs hp1 hP hD hS hz1 => ?_)
  rcases u1 with ⟨⟨ans, f1⟩, t, f⟩ | ux
  · obtain ⟨rfl, hf1, hpc⟩ := hp1
    obtain ⟨htn, hv0, hfn, hv1, rfl⟩ := hpc
    have htn : t < n := htn
    have hv0 : v0 = nI t := hv0
    have hfn : f < fc t := hfn
    have hv1 : v1 = nI f := hv1
    have hf1 : f1 0 = (nI (bo t f)).toInt64 := hf1
    have hm1 := hm
    have hL1 := hL
    have hP : va_P D vwCl ((o, zOut cA f1) :: ws) H := hP
    have hD : va_D (lwA s) ((o, zOut cA f1) :: ws) := hD
    obtain ⟨m0_1, -⟩ := id hm1
    refine lv_istore (lv' := [(5, .int (nI (0))), (0, .ref b), (1, .ref (ad 0)), (2, .ref (gd 0)), (3, .ref o), (4, .int (nI (i)))]) hx hb dL_law_417 hl (by decide) rfl (fun ls hl => ?_)
    refine lv_aload_n hx hb dL_law_419 rfl (lv_at hl 3 rfl) ?_
    refine lv_aload_n hx hb dL_law_420 rfl (lv_at hl 1 rfl) ?_
    refine lv_iload hx hb dL_law_421 (lv_at hl 5 rfl) ?_
    refine lv_iconst (v := nI (1)) hx hb dL_law_423 (by decide) ?_
    refine zo_add hx hb dL_law_424 ?_
    refine va_sld hx hb hXs hbl hbA hS (vp_in_nI (show i + 1 < L by omega) (by omega)) dL_law_425 ?_
    rw [nI_clamp (show i + 1 < 2 ^ 31 by omega)]
    refine zx_val (y := v0) (ev0.symm) ?_
    refine zx_val (y := nI (t)) (hv0) ?_
    refine lv_aload_n hx hb dL_law_426 rfl (lv_at hl 1 rfl) ?_
    refine lv_iload hx hb dL_law_427 (lv_at hl 5 rfl) ?_
    refine lv_iconst (v := nI (2)) hx hb dL_law_429 (by decide) ?_
    refine zo_add hx hb dL_law_430 ?_
    refine va_sld hx hb hXs hbl hbA hS (vp_in_nI (show i + 2 < L by omega) (by omega)) dL_law_431 ?_
    rw [nI_clamp (show i + 2 < 2 ^ 31 by omega)]
    refine zx_val (y := v1) (ev1.symm) ?_
    refine zx_val (y := nI (f)) (hv1) ?_
    refine zq_V_i (n := 2) (mc := 0) (ms := 0) (As := [.int (nI (t)), .int (nI (f))]) (rest := []) hx hb hml hts hown hZ hP hD hS hA (c_X5_start_ok l D cA _ _ hm1 hI hM t f htn hfn) gL_law_X5_start rfl rfl ⟨rfl, rfl⟩ ⟨by decide +kernel, (Nat.le_of_ble_eq_true rfl), (Nat.le_of_ble_eq_true rfl)⟩ m0_1 rfl hl.1 rfl (Nat.le_of_ble_eq_true rfl) ⟨by show _ ≤ 601024; omega, by show _ ≤ 7293034; omega⟩ rfl dL_law_432 (fun r2 u2 H locs hp2 hP hD hS hz2 => ?_)
    obtain ⟨rfl, hkp2, hm2⟩ := hp2
    have hL2 := zL_keep hL1 hkp2
    obtain ⟨m0_2, -⟩ := id hm2
    have hP : va_P D vwCl ((o, zOut cA f1) :: u2) H := hP
    have hD : va_D (lwA s) ((o, zOut cA f1) :: u2) := hD
    refine lv_istore (lv' := [(6, .int (nI (bo t f))), (5, .int (nI (0))), (0, .ref b), (1, .ref (ad 0)), (2, .ref (gd 0)), (3, .ref o), (4, .int (nI (i)))]) hx hb dL_law_435 hl (by decide) rfl (fun ls hl => ?_)
    refine lv_aload_n hx hb dL_law_437 rfl (lv_at hl 4 rfl) ?_
    refine zk_V_i (n := 0) (As := []) (rest := []) hx hb hml hts hown hZ (zq_P hP) (c_X5_thrown l D cA _ hm2) gL_law_X5_thrown rfl rfl ⟨rfl, rfl⟩ ⟨by decide +kernel, (Nat.le_of_ble_eq_true rfl), (Nat.le_of_ble_eq_true rfl)⟩ m0_2 rfl hl.1 rfl (Nat.le_of_ble_eq_true rfl) ⟨by show _ ≤ 601024; omega, by show _ ≤ 7293034; omega⟩ rfl dL_law_438 (fun r3 hr3 => ?_)
    obtain rfl := show r3 = nI (0) from hr3
    refine lv_iload hx hb dL_law_441 (lv_at hl 1 rfl) ?_
    refine zc_eq (tgt := 448) hx hb (by omega) (by omega) dL_law_443 (by decide) (fun c_1 => ?_) (fun c_1 => absurd rfl c_1)
    refine lv_iload hx hb dL_law_448 (lv_at hl 1 rfl) ?_
    refine zf_ne (tgt := 465) hx hb (by omega) dL_law_450 (by decide) (fun c_2 => False.elim (by omega)) (fun c_2 => ?_)
    refine lv_aload_n hx hb dL_law_453 rfl (lv_at hl 5 rfl) ?_
    refine lv_iconst (v := nI (0)) hx hb dL_law_454 (by decide) ?_
    refine va_lald hx hb hZ.1 hP 0 4 rfl rfl (vp_in_nI (show 0 < 1 by omega) (by omega)) dL_law_455 ?_
    rw [nI_clamp (show 0 < 2 ^ 31 by omega)]
    refine zx_v (b := .long (nI (bo t f)).toInt64) (by rw [hf1]) ?_
    refine lv_iload hx hb dL_law_456 (lv_at hl 0 rfl) ?_
    refine lv_i2l (v := (nI (bo t f)).toInt64) hx hb dL_law_458 rfl ?_
    refine W.lcmp hx hb dL_law_459 ?_
    refine zx_val (y := nI 0) (lg_cmp_self _) ?_
    refine zf_eq (tgt := 465) hx hb (by omega) dL_law_460 (by decide) (fun c_3 => ?_) (fun c_3 => False.elim (by omega))
    refine lv_goto (tgt := 1543) hx hb dL_law_465 (by decide) ?_
    have hI2 := hI
    have hM2 := hM
    exact kont f1 u2 H locs ls _ _ (by omega) (by omega) ⟨lv_sub hl [2, 3, 4, 5, 6] rfl, hP, hD, hS, _, _, _, _, _, _, _, _, _, _, _, _, _, _, _, _, _, _, _, _, _, _, _, _, _, _, _, _, _, _, _, _, _, _, _, _, _, _, _, _, _, _, hL2, hI2, hm2, hM2⟩
  · obtain ⟨rfl, hK0, E9, hE9⟩ := hp1
    have hm1 := hm
    have hL1 := hL
    have hK3 : (k1b (ix v0 n) (fun t => ix v1 (fc t))) ≤ 3 := zex1_le hE9
    have hP : va_P D vwCl ((o, zOut cA z) :: ws) H := hP
    have hD : va_D (lwA s) ((o, zOut cA z) :: ws) := hD
    obtain ⟨m0_1, -⟩ := id hm1
    refine lv_istore (lv' := [(5, .int (nI ((k1b (ix v0 n) (fun t => ix v1 (fc t)))))), (0, .ref b), (1, .ref (ad 0)), (2, .ref (gd 0)), (3, .ref o), (4, .int (nI (i)))]) hx hb dL_law_417 hl (by decide) rfl (fun ls hl => ?_)
    refine lv_aload_n hx hb dL_law_419 rfl (lv_at hl 3 rfl) ?_
    refine lv_aload_n hx hb dL_law_420 rfl (lv_at hl 1 rfl) ?_
    refine lv_iload hx hb dL_law_421 (lv_at hl 5 rfl) ?_
    refine lv_iconst (v := nI (1)) hx hb dL_law_423 (by decide) ?_
    refine zo_add hx hb dL_law_424 ?_
    refine va_sld hx hb hXs hbl hbA hS (vp_in_nI (show i + 1 < L by omega) (by omega)) dL_law_425 ?_
    rw [nI_clamp (show i + 1 < 2 ^ 31 by omega)]
    refine zx_val (y := v0) (ev0.symm) ?_
    refine lv_aload_n hx hb dL_law_426 rfl (lv_at hl 1 rfl) ?_
    refine lv_iload hx hb dL_law_427 (lv_at hl 5 rfl) ?_
    refine lv_iconst (v := nI (2)) hx hb dL_law_429 (by decide) ?_
    refine zo_add hx hb dL_law_430 ?_
    refine va_sld hx hb hXs hbl hbA hS (vp_in_nI (show i + 2 < L by omega) (by omega)) dL_law_431 ?_
    rw [nI_clamp (show i + 2 < 2 ^ 31 by omega)]
    refine zx_val (y := v1) (ev1.symm) ?_
    refine zq_V_i (n := 2) (mc := 0) (ms := 0) (As := [.int (v0), .int (v1)]) (rest := []) hx hb hml hts hown hZ hP hD hS hA (c_X5_start_no l D cA _ _ hm1 hI hM v0 v1 hK0) gL_law_X5_start rfl rfl ⟨rfl, rfl⟩ ⟨by decide +kernel, (Nat.le_of_ble_eq_true rfl), (Nat.le_of_ble_eq_true rfl)⟩ m0_1 rfl hl.1 rfl (Nat.le_of_ble_eq_true rfl) ⟨by show _ ≤ 601024; omega, by show _ ≤ 7293034; omega⟩ rfl dL_law_432 (fun r2 u2 H locs hp2 hP hD hS hz2 => ?_)
    obtain ⟨hkp2, hm2⟩ := hp2
    have hL2 := zL_keep hL1 hkp2
    obtain ⟨m0_2, -⟩ := id hm2
    have hP : va_P D vwCl ((o, zOut cA z) :: u2) H := hP
    have hD : va_D (lwA s) ((o, zOut cA z) :: u2) := hD
    refine lv_istore (lv' := [(6, .int (r2)), (5, .int (nI ((k1b (ix v0 n) (fun t => ix v1 (fc t)))))), (0, .ref b), (1, .ref (ad 0)), (2, .ref (gd 0)), (3, .ref o), (4, .int (nI (i)))]) hx hb dL_law_435 hl (by decide) rfl (fun ls hl => ?_)
    refine lv_aload_n hx hb dL_law_437 rfl (lv_at hl 4 rfl) ?_
    refine zk_V_i (n := 0) (As := []) (rest := []) hx hb hml hts hown hZ (zq_P hP) (c_X5_thrown l D cA _ hm2) gL_law_X5_thrown rfl rfl ⟨rfl, rfl⟩ ⟨by decide +kernel, (Nat.le_of_ble_eq_true rfl), (Nat.le_of_ble_eq_true rfl)⟩ m0_2 rfl hl.1 rfl (Nat.le_of_ble_eq_true rfl) ⟨by show _ ≤ 601024; omega, by show _ ≤ 7293034; omega⟩ rfl dL_law_438 (fun r3 hr3 => ?_)
    obtain rfl := show r3 = nI ((k1b (ix v0 n) (fun t => ix v1 (fc t)))) from hr3
    refine lv_iload hx hb dL_law_441 (lv_at hl 1 rfl) ?_
    refine zc_eq (tgt := 448) hx hb (by omega) (by omega) dL_law_443 (by decide) (fun c_4 => ?_) (fun c_4 => absurd rfl c_4)
    refine lv_iload hx hb dL_law_448 (lv_at hl 1 rfl) ?_
    refine zf_ne (tgt := 465) hx hb (by omega) dL_law_450 (by decide) (fun c_5 => ?_) (fun c_5 => absurd c_5 hK0)
    refine lv_goto (tgt := 1543) hx hb dL_law_465 (by decide) ?_
    have hI2 := hI
    have hM2 := hM
    exact kont z u2 H locs ls _ _ (by omega) (by omega) ⟨lv_sub hl [2, 3, 4, 5, 6] rfl, hP, hD, hS, _, _, _, _, _, _, _, _, _, _, _, _, _, _, _, _, _, _, _, _, _, _, _, _, _, _, _, _, _, _, _, _, _, _, _, _, _, _, _, _, _, _, hL2, hI2, hm2, hM2⟩
