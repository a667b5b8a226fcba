set_option maxHeartbeats 4000000 in
set_option maxRecDepth 100000 in
theorem c_L_tells (l : Launch) (hlt : l.stackTraces = false) (D : va_G) (cA : Nat → ClassId) (sz : Nat) (ad : Nat → Nat) (T : Nat → Nat) (Bd : Nat → Nat) (E : Nat → Nat) (PT : Nat → Nat) (PB : Nat → Nat) (PE : Nat → Nat) (n : Nat) (tr : Nat → Nat) (le : Nat → Nat) (sl : Nat → Nat) (mo : Nat → Option Nat) (la : Nat → Bool) (fc : Nat → Nat) (bo : Nat → Nat → Nat) (nd : Nat) (mk : Nat → Nat) (ck : Nat → Int32) (ct : Nat → Nat) (hd : Nat → Option Nat) (pq : Nat → Int32) (nj : Nat) (fw : Nat → Int32) (jf : Nat → Nat) (dl : Nat → Nat) (dn : Nat) (oc : Nat) (s8 : Nat → Int32) (s9 : Nat → Int32) (s10 : Nat → Int32) (s11 : Nat → Int32) (s12 : Nat → Int32) (cf : Nat → Int32) (tf : Nat → Int32) (ff : Nat → Int32) (vf : Nat → Int32) (jj : Nat → Int32) (lt : Nat → Int32) (dd : Nat → Int32) (jt : Nat → Nat) (fin : Nat → Bool) (g : Nat → Nat) (cw : va_W) (hL : zL cA cw ad T Bd E PT PB PE n tr le sl mo la fc bo nd mk ck ct hd pq nj fw jf dl dn oc s8 s9 s10 s11 s12) (hI : zI n tr le sl mo fc bo nd mk ct hd pq nj fw jf dl) (hp : pL n tr le sl mo la fc bo nd mk ck ct hd pq nj fw jf dl dn cf tf ff vf jj lt dd jt fin) (y : Int32) : Met l yL_tells wsL_tells ({ frames := 9, cells := 96, slots := 700, locals := 167 }) (va_Pc [.ref (ad 0), .int (y), .ref (g 0), .ref (g 1), .ref (g 2), .ref (g 3), .ref (g 4), .ref (g 5), .ref (g 6)] (zMW D cA ((g 0, zInts cA 4 cf) :: (g 1, zInts cA 24 tf) :: (g 2, zInts cA 24 ff) :: (g 3, zInts cA 10 vf) :: (g 4, zInts cA 40 jj) :: (g 5, zInts cA 20 lt) :: (g 6, zInts cA 20 dd) :: cw) sz)) (va_Qi (fun (r : Int32) (u : va_W) => r = bI true ∧ LV cA ad g u) (fun u => zB D (va_A ((g 0, zInts cA 4 cf) :: (g 1, zInts cA 24 tf) :: (g 2, zInts cA 24 ff) :: (g 3, zInts cA 10 vf) :: (g 4, zInts cA 40 jj) :: (g 5, zInts cA 20 lt) :: (g 6, zInts cA 20 dd) :: cw) sz) u) (va_A ((g 0, zInts cA 4 cf) :: (g 1, zInts cA 24 tf) :: (g 2, zInts cA 24 ff) :: (g 3, zInts cA 10 vf) :: (g 4, zInts cA 40 jj) :: (g 5, zInts cA 20 lt) :: (g 6, zInts cA 20 dd) :: cw) sz)) 96 700 (va_A ((g 0, zInts cA 4 cf) :: (g 1, zInts cA 24 tf) :: (g 2, zInts cA 24 ff) :: (g 3, zInts cA 10 vf) :: (g 4, zInts cA 40 jj) :: (g 5, zInts cA 20 lt) :: (g 6, zInts cA 20 dd) :: cw) sz) := by
  refine zOpen (cc := cL_tells) (maxL := 21) (ret := (some .boolean)) (own := RL) (by decide) rfl rfl (Nat.le_of_ble_eq_true rfl) ?_
  intro p e s m below meth c ls hx hb hr hml hts hown hlocks hnm ⟨⟨⟨hZ, hP, hD0, hsz⟩, hX⟩, hN⟩ hl
  subst hsz
  have hD := hD0.self (sz := s.heap.size)
  generalize hAe : va_A ((g 0, zInts cA 4 cf) :: (g 1, zInts cA 24 tf) :: (g 2, zInts cA 24 ff) :: (g 3, zInts cA 10 vf) :: (g 4, zInts cA 40 jj) :: (g 5, zInts cA 20 lt) :: (g 6, zInts cA 20 dd) :: cw) s.heap.size = A at hD hX ⊢
  have hA : ∀ q : Nat, s.heap.size ≤ q → A q := fun q h => by rw [← hAe]; exact Or.inr h
  have hS : va_S A s.heap s.heap [] := va_S.rf
  have hl : lv_has ls 21 [(0, .ref (ad 0)), (1, .int (y)), (2, .ref (g 0)), (3, .ref (g 1)), (4, .ref (g 2)), (5, .ref (g 3)), (6, .ref (g 4)), (7, .ref (g 5)), (8, .ref (g 6))] := hl
  have hL0 := hL
  have l0 := hL.1.1
  obtain ⟨hn8, hd3, hj60, hIT, hID, hIJ, hIdl, hIw⟩ := id hI
  obtain ⟨⟨hn4, hd2, hj20⟩, ⟨c0, c1, c2, c3⟩, qT, qT0, qF, qV, qV0, qJ, qJ0, qW⟩ := id hp
  have hIk := hI
  refine lv_bipush (v := nI (20)) hx hb dL_tells_0 (by decide) ?_
  refine z_newF hx hb (hts (.arrayClass .int) (by decide +kernel)) hZ hP hD hS hA 20 (by decide) (by show _ ≤ 96; omega) (by show _ ≤ 700; omega) dL_tells_2 (fun lz H hP hD hS => ?_)
  have hP : va_P D vwCl ((lz, zInts cA 20 (fun _ => nI 0)) :: (g 0, zInts cA 4 cf) :: (g 1, zInts cA 24 tf) :: (g 2, zInts cA 24 ff) :: (g 3, zInts cA 10 vf) :: (g 4, zInts cA 40 jj) :: (g 5, zInts cA 20 lt) :: (g 6, zInts cA 20 dd) :: cw) H := hP
  have hD : va_D A ((lz, zInts cA 20 (fun _ => nI 0)) :: (g 0, zInts cA 4 cf) :: (g 1, zInts cA 24 tf) :: (g 2, zInts cA 24 ff) :: (g 3, zInts cA 10 vf) :: (g 4, zInts cA 40 jj) :: (g 5, zInts cA 20 lt) :: (g 6, zInts cA 20 dd) :: cw) := hD
  refine lv_astore (lv' := [(9, .ref lz), (0, .ref (ad 0)), (1, .int (y)), (2, .ref (g 0)), (3, .ref (g 1)), (4, .ref (g 2)), (5, .ref (g 3)), (6, .ref (g 4)), (7, .ref (g 5)), (8, .ref (g 6))]) hx hb dL_tells_4 hl (by decide) rfl (fun ls hl => ?_)
  refine lv_iconst (v := (-1)) hx hb dL_tells_6 (by decide) ?_
  refine lv_istore (lv' := [(10, .int ((-1))), (9, .ref lz), (0, .ref (ad 0)), (1, .int (y)), (2, .ref (g 0)), (3, .ref (g 1)), (4, .ref (g 2)), (5, .ref (g 3)), (6, .ref (g 4)), (7, .ref (g 5)), (8, .ref (g 6))]) hx hb dL_tells_7 hl (by decide) rfl (fun ls hl => ?_)
  refine lv_iconst (v := nI (0)) hx hb dL_tells_9 (by decide) ?_
  refine lv_istore (lv' := [(11, .int (nI (0))), (10, .int ((-1))), (9, .ref lz), (0, .ref (ad 0)), (1, .int (y)), (2, .ref (g 0)), (3, .ref (g 1)), (4, .ref (g 2)), (5, .ref (g 3)), (6, .ref (g 4)), (7, .ref (g 5)), (8, .ref (g 6))]) hx hb dL_tells_10 hl (by decide) rfl (fun ls hl => ?_)
  refine lv_iconst (v := nI (0)) hx hb dL_tells_12 (by decide) ?_
  refine lv_istore (lv' := [(12, .int (nI (0))), (11, .int (nI (0))), (10, .int ((-1))), (9, .ref lz), (0, .ref (ad 0)), (1, .int (y)), (2, .ref (g 0)), (3, .ref (g 1)), (4, .ref (g 2)), (5, .ref (g 3)), (6, .ref (g 4)), (7, .ref (g 5)), (8, .ref (g 6))]) hx hb dL_tells_13 hl (by decide) rfl (fun ls hl => ?_)
  refine lv_iconst (v := nI (0)) hx hb dL_tells_15 (by decide) ?_
  refine lv_istore (lv' := [(13, .int (nI (0))), (12, .int (nI (0))), (11, .int (nI (0))), (10, .int ((-1))), (9, .ref lz), (0, .ref (ad 0)), (1, .int (y)), (2, .ref (g 0)), (3, .ref (g 1)), (4, .ref (g 2)), (5, .ref (g 3)), (6, .ref (g 4)), (7, .ref (g 5)), (8, .ref (g 6))]) hx hb dL_tells_16 hl (by decide) rfl (fun ls hl => ?_)
  refine z_loopF (α := Int32 × Int32 × Int32 × Nat × (Nat → Int32)) (fun v => n + 1 - v.2.2.2.1) (fun v => 1 + 8 * v.2.2.2.1) (fun v => 20 + 60 * v.2.2.2.1) (fun v H locs ls => lv_has ls 21 [(9, .ref lz), (0, .ref (ad 0)), (1, .int (y)), (2, .ref (g 0)), (3, .ref (g 1)), (4, .ref (g 2)), (5, .ref (g 3)), (6, .ref (g 4)), (7, .ref (g 5)), (8, .ref (g 6)), (10, .int (v.1)), (11, .int (v.2.1)), (12, .int (v.2.2.1)), (13, .int (nI (v.2.2.2.1)))] ∧ va_P D vwCl ((lz, zInts cA 20 v.2.2.2.2) :: (g 0, zInts cA 4 cf) :: (g 1, zInts cA 24 tf) :: (g 2, zInts cA 24 ff) :: (g 3, zInts cA 10 vf) :: (g 4, zInts cA 40 jj) :: (g 5, zInts cA 20 lt) :: (g 6, zInts cA 20 dd) :: cw) H ∧ va_D A ((lz, zInts cA 20 v.2.2.2.2) :: (g 0, zInts cA 4 cf) :: (g 1, zInts cA 24 tf) :: (g 2, zInts cA 24 ff) :: (g 3, zInts cA 10 vf) :: (g 4, zInts cA 40 jj) :: (g 5, zInts cA 20 lt) :: (g 6, zInts cA 20 dd) :: cw) ∧ va_S A s.heap H locs ∧ v.2.2.2.1 ≤ n + 1 ∧ v.1 = oI (nxt mo la (fun q9 => (wl fw (nI q9) nj).length) (fun q9 => erl fw (nI q9) dl nj) (min v.2.2.2.1 n)) ∧ (∀ b9, (nxt mo la (fun q9 => (wl fw (nI q9) nj).length) (fun q9 => erl fw (nI q9) dl nj) (min v.2.2.2.1 n)) = some b9 → v.2.1 = nI (erl fw (nI b9) dl nj) ∧ v.2.2.1 = nI ((wl fw (nI b9) nj).length))) (fun _ => []) ((-1), nI (0), nI (0), 0, (fun _ => nI 0)) (show _ ≤ 1 + 8 * 0 by omega) (show _ ≤ 20 + 60 * 0 by omega) ⟨lv_sub hl [4, 5, 6, 7, 8, 9, 10, 11, 12, 13, 3, 2, 1, 0] rfl, hP, hD, hS, ⟨Nat.zero_le _, by rw [Nat.zero_min]; rfl, fun b9 h => by rw [Nat.zero_min] at h; cases h⟩⟩ ?_
  intro v ih18 H locs ls hv
  obtain ⟨nx, fs, ms9, aa, Lf⟩ := v
  obtain ⟨hl, hP, hD, hS, hIv⟩ := hv
  have hP : va_P D vwCl ((lz, zInts cA 20 Lf) :: (g 0, zInts cA 4 cf) :: (g 1, zInts cA 24 tf) :: (g 2, zInts cA 24 ff) :: (g 3, zInts cA 10 vf) :: (g 4, zInts cA 40 jj) :: (g 5, zInts cA 20 lt) :: (g 6, zInts cA 20 dd) :: cw) H := hP
  have hD : va_D A ((lz, zInts cA 20 Lf) :: (g 0, zInts cA 4 cf) :: (g 1, zInts cA 24 tf) :: (g 2, zInts cA 24 ff) :: (g 3, zInts cA 10 vf) :: (g 4, zInts cA 40 jj) :: (g 5, zInts cA 20 lt) :: (g 6, zInts cA 20 dd) :: cw) := hD
  have hl : lv_has ls 21 [(9, .ref lz), (0, .ref (ad 0)), (1, .int (y)), (2, .ref (g 0)), (3, .ref (g 1)), (4, .ref (g 2)), (5, .ref (g 3)), (6, .ref (g 4)), (7, .ref (g 5)), (8, .ref (g 6)), (10, .int (nx)), (11, .int (fs)), (12, .int (ms9)), (13, .int (nI (aa)))] := hl
  have hIv : aa ≤ n + 1 ∧ nx = oI (nxt mo la (fun q9 => (wl fw (nI q9) nj).length) (fun q9 => erl fw (nI q9) dl nj) (min aa n)) ∧ (∀ b9, (nxt mo la (fun q9 => (wl fw (nI q9) nj).length) (fun q9 => erl fw (nI q9) dl nj) (min aa n)) = some b9 → fs = nI (erl fw (nI b9) dl nj) ∧ ms9 = nI ((wl fw (nI b9) nj).length)) := hIv
  refine W.widen (k := 1 + 8 * aa) (n := 20 + 60 * aa) (Nat.le_refl _) (Nat.le_refl _) ?_
  obtain ⟨haa, hnx, hfs⟩ := hIv
  refine lv_iload hx hb dL_tells_18 (lv_at hl 13 rfl) ?_
  refine lv_aload_n hx hb dL_tells_20 rfl (lv_at hl 3 rfl) ?_
  refine lv_iconst (v := nI (0)) hx hb dL_tells_21 (by decide) ?_
  refine va_iald hx hb hZ.1 hP 1 0 rfl rfl (vp_in_nI (show 0 < 4 by omega) (by omega)) dL_tells_22 ?_
  rw [nI_clamp (show 0 < 2 ^ 31 by omega)]
  refine zx_val (y := nI (n)) (c0) ?_
  refine zc_gt (tgt := 414) hx hb (by omega) (by omega) dL_tells_23 (by decide) (fun c_1 => ?_) (fun c_1 => ?_)
  · have hmn9 : min aa n = n := by omega
    rw [hmn9] at hnx
    rw [hnx] at hl
    have hl : lv_has ls 21 [(9, .ref lz), (0, .ref (ad 0)), (1, .int (y)), (2, .ref (g 0)), (3, .ref (g 1)), (4, .ref (g 2)), (5, .ref (g 3)), (6, .ref (g 4)), (7, .ref (g 5)), (8, .ref (g 6)), (10, .int (oI (nxt mo la (fun q9 => (wl fw (nI q9) nj).length) (fun q9 => erl fw (nI q9) dl nj) n))), (13, .int (nI (aa)))] := lv_sub hl [0, 1, 2, 3, 4, 5, 6, 7, 8, 9, 10, 13] rfl
    refine lv_iconst (v := nI (0)) hx hb dL_tells_414 (by decide) ?_
    refine lv_istore (lv' := [(13, .int (nI (0))), (9, .ref lz), (0, .ref (ad 0)), (1, .int (y)), (2, .ref (g 0)), (3, .ref (g 1)), (4, .ref (g 2)), (5, .ref (g 3)), (6, .ref (g 4)), (7, .ref (g 5)), (8, .ref (g 6)), (10, .int (oI (nxt mo la (fun q9 => (wl fw (nI q9) nj).length) (fun q9 => erl fw (nI q9) dl nj) n)))]) hx hb dL_tells_415 hl (by decide) rfl (fun ls hl => ?_)
    refine z_loopF (α := Nat × Unit) (fun v => nd + 1 - v.1) (fun v => 50 + 3 * v.1) (fun v => 400 + 20 * v.1) (fun v H locs ls => lv_has ls 21 [(9, .ref lz), (0, .ref (ad 0)), (1, .int (y)), (2, .ref (g 0)), (3, .ref (g 1)), (4, .ref (g 2)), (5, .ref (g 3)), (6, .ref (g 4)), (7, .ref (g 5)), (8, .ref (g 6)), (10, .int (oI (nxt mo la (fun q9 => (wl fw (nI q9) nj).length) (fun q9 => erl fw (nI q9) dl nj) n))), (13, .int (nI (v.1)))] ∧ va_P D vwCl ((lz, zInts cA 20 Lf) :: (g 0, zInts cA 4 cf) :: (g 1, zInts cA 24 tf) :: (g 2, zInts cA 24 ff) :: (g 3, zInts cA 10 vf) :: (g 4, zInts cA 40 jj) :: (g 5, zInts cA 20 lt) :: (g 6, zInts cA 20 dd) :: cw) H ∧ va_D A ((lz, zInts cA 20 Lf) :: (g 0, zInts cA 4 cf) :: (g 1, zInts cA 24 tf) :: (g 2, zInts cA 24 ff) :: (g 3, zInts cA 10 vf) :: (g 4, zInts cA 40 jj) :: (g 5, zInts cA 20 lt) :: (g 6, zInts cA 20 dd) :: cw) ∧ va_S A s.heap H locs ∧ v.1 ≤ nd + 1) (fun _ => []) (0, ()) (show _ ≤ 50 + 3 * 0 by omega) (show _ ≤ 400 + 20 * 0 by omega) ⟨lv_sub hl [1, 2, 3, 4, 5, 6, 7, 8, 9, 10, 11, 0] rfl, hP, hD, hS, Nat.zero_le _⟩ ?_
    intro v ih417 H locs ls hv
    obtain ⟨dz, u9z⟩ := v
    obtain ⟨hl, hP, hD, hS, hIv⟩ := hv
    have hP : va_P D vwCl ((lz, zInts cA 20 Lf) :: (g 0, zInts cA 4 cf) :: (g 1, zInts cA 24 tf) :: (g 2, zInts cA 24 ff) :: (g 3, zInts cA 10 vf) :: (g 4, zInts cA 40 jj) :: (g 5, zInts cA 20 lt) :: (g 6, zInts cA 20 dd) :: cw) H := hP
    have hD : va_D A ((lz, zInts cA 20 Lf) :: (g 0, zInts cA 4 cf) :: (g 1, zInts cA 24 tf) :: (g 2, zInts cA 24 ff) :: (g 3, zInts cA 10 vf) :: (g 4, zInts cA 40 jj) :: (g 5, zInts cA 20 lt) :: (g 6, zInts cA 20 dd) :: cw) := hD
    have hl : lv_has ls 21 [(9, .ref lz), (0, .ref (ad 0)), (1, .int (y)), (2, .ref (g 0)), (3, .ref (g 1)), (4, .ref (g 2)), (5, .ref (g 3)), (6, .ref (g 4)), (7, .ref (g 5)), (8, .ref (g 6)), (10, .int (oI (nxt mo la (fun q9 => (wl fw (nI q9) nj).length) (fun q9 => erl fw (nI q9) dl nj) n))), (13, .int (nI (dz)))] := hl
    have hIv : dz ≤ nd + 1 := hIv
    refine W.widen (k := 50 + 3 * dz) (n := 400 + 20 * dz) (Nat.le_refl _) (Nat.le_refl _) ?_
    refine lv_iload hx hb dL_tells_417 (lv_at hl 11 rfl) ?_
    refine lv_aload_n hx hb dL_tells_419 rfl (lv_at hl 3 rfl) ?_
    refine lv_iconst (v := nI (1)) hx hb dL_tells_420 (by decide) ?_
    refine va_iald hx hb hZ.1 hP 1 0 rfl rfl (vp_in_nI (show 1 < 4 by omega) (by omega)) dL_tells_421 ?_
    rw [nI_clamp (show 1 < 2 ^ 31 by omega)]
    refine zx_val (y := nI (nd)) (c1) ?_
    refine zc_gt (tgt := 521) hx hb (by omega) (by omega) dL_tells_422 (by decide) (fun c_2 => ?_) (fun c_2 => ?_)
    · refine lv_aload_n hx hb dL_tells_521 rfl (lv_at hl 1 rfl) ?_
      refine zk_V_i (ws := cw) (n := 0) (As := []) (rest := []) hx hb hml hts hown hZ (zs_P (es := [(lz, zInts cA 20 Lf), (g 0, zInts cA 4 cf), (g 1, zInts cA 24 tf), (g 2, zInts cA 24 ff), (g 3, zInts cA 10 vf), (g 4, zInts cA 40 jj), (g 5, zInts cA 20 lt), (g 6, zInts cA 20 dd)]) (ws := cw) hP) (c_X4_next l D cA cw 0 (ad 0) (ad 1) n (ad 2) nd (ad 3) (ad 4) hL.1.1 1 T hL.1.2.1 hn8 PT tr le sl mo la fc Bd (fun i hi => (hL.2.1 i hi).1) 3 nj dn (ad 5) (ad 6) (ad 7) hL.1.2.2.2.1 5 fw hL.1.2.2.2.2.2.1 7 dl hL.1.2.2.2.2.2.2.2.1 hj60 hIdl (fun i j hi hj => by have := ((hIT i hi).2.2.2.2.2.1 j hj).1; omega)) gL_tells_X4_next rfl rfl ⟨rfl, rfl⟩ ⟨by decide +kernel, (Nat.le_of_ble_eq_true rfl), (Nat.le_of_ble_eq_true rfl)⟩ l0 rfl hl.1 rfl (Nat.le_of_ble_eq_true rfl) ⟨by show _ ≤ 96; omega, by show _ ≤ 700; omega⟩ rfl dL_tells_522 (fun r9 hr9 => ?_)
      obtain rfl := show r9 = oI (nxt mo la (fun q9 => (wl fw (nI q9) nj).length) (fun q9 => erl fw (nI q9) dl nj) n) from hr9
      refine lv_iload hx hb dL_tells_525 (lv_at hl 10 rfl) ?_
      refine lv_icmp_ne (tgt := 568) hx hb dL_tells_527 (by decide) (fun c_3 => absurd rfl c_3) (fun c_3 => ?_)
      refine lv_aload_n hx hb dL_tells_530 rfl (lv_at hl 1 rfl) ?_
      refine zk_V_i (ws := cw) (n := 0) (As := []) (rest := []) hx hb hml hts hown hZ (zs_P (es := [(lz, zInts cA 20 Lf), (g 0, zInts cA 4 cf), (g 1, zInts cA 24 tf), (g 2, zInts cA 24 ff), (g 3, zInts cA 10 vf), (g 4, zInts cA 40 jj), (g 5, zInts cA 20 lt), (g 6, zInts cA 20 dd)]) (ws := cw) hP) (c_X4_done l D cA cw 0 (ad 0) (ad 1) n (ad 2) nd (ad 3) (ad 4) hL.1.1 3 nj dn (ad 5) (ad 6) (ad 7) hL.1.2.2.2.1) gL_tells_X4_done rfl rfl ⟨rfl, rfl⟩ ⟨by decide +kernel, (Nat.le_of_ble_eq_true rfl), (Nat.le_of_ble_eq_true rfl)⟩ l0 rfl hl.1 rfl (Nat.le_of_ble_eq_true rfl) ⟨by show _ ≤ 96; omega, by show _ ≤ 700; omega⟩ rfl dL_tells_531 (fun r9 hr9 => ?_)
      obtain rfl := show r9 = nI dn from hr9
      refine lv_aload_n hx hb dL_tells_534 rfl (lv_at hl 3 rfl) ?_
      refine lv_iconst (v := nI (3)) hx hb dL_tells_535 (by decide) ?_
      refine va_iald hx hb hZ.1 hP 1 0 rfl rfl (vp_in_nI (show 3 < 4 by omega) (by omega)) dL_tells_536 ?_
      rw [nI_clamp (show 3 < 2 ^ 31 by omega)]
      refine zx_val (y := nI (dn)) (c3) ?_
      refine lv_icmp_ne (tgt := 568) hx hb dL_tells_537 (by decide) (fun c_4 => absurd rfl c_4) (fun c_4 => ?_)
      refine lv_aload_n hx hb dL_tells_540 rfl (lv_at hl 1 rfl) ?_
      refine lv_iconst (v := nI (0)) hx hb dL_tells_541 (by decide) ?_
      refine lv_iconst (v := (-1)) hx hb dL_tells_542 (by decide) ?_
      refine lv_iconst (v := nI (0)) hx hb dL_tells_543 (by decide) ?_
      refine ze_H_i (n := 4) (mc := 1) (ms := 6) (ws := cw) (es := [(lz, zInts cA 20 Lf), (g 0, zInts cA 4 cf), (g 1, zInts cA 24 tf), (g 2, zInts cA 24 ff), (g 3, zInts cA 10 vf), (g 4, zInts cA 40 jj), (g 5, zInts cA 20 lt), (g 6, zInts cA 20 dd)]) (As := [.ref (ad 0), .int (nI (0)), .int ((-1)), .int (nI (0))]) (rest := []) hx hb hml hts hown hZ hX hN [0, 1, 2, 3, 4, 5, 6, 7] rfl rfl hP hD hS hA (c_L_told_0 l D cA _ cw (ad 0) _ l0 _ _ _ _ (k1 (ix ((-1)) n)) ((-1)) (nI (0)) (fun sz9 => c_X4_placeOf l hlt D cA sz9 cw ad T Bd E PT PB PE n tr le sl mo la fc bo nd mk ck ct hd pq nj fw jf dl dn oc s8 s9 s10 s11 s12 hL hI ((-1))) (fun _ _ h => h)) gL_tells_L_told rfl ⟨rfl, rfl⟩ ⟨by decide +kernel, (Nat.le_of_ble_eq_true rfl), (Nat.le_of_ble_eq_true rfl)⟩ hl.1 rfl (Nat.le_of_ble_eq_true rfl) ⟨by show _ ≤ 96; omega, by show _ ≤ 700; omega⟩ rfl dL_tells_544 (fun r9 u9 H locs hp9 hP hD hS hz => ?_)
      rcases u9 with t9 | u9
      · dsimp only [zwP] at hp9
        obtain ⟨htn, hv0, hr9⟩ := hp9
        exact absurd hv0.symm (nI_nm1 (by omega))
      · dsimp only [zwP] at hp9
        obtain ⟨hr9, hK9, E9, hE9⟩ := hp9
        have hr9 : r9 = (-101) := by rw [hr9, show (k1 (ix ((-1)) n)) = 1 from k1_1 (ix_neg (by decide))]; rfl
        subst hr9
        have hP : va_P D vwCl ((lz, zInts cA 20 Lf) :: (g 0, zInts cA 4 cf) :: (g 1, zInts cA 24 tf) :: (g 2, zInts cA 24 ff) :: (g 3, zInts cA 10 vf) :: (g 4, zInts cA 40 jj) :: (g 5, zInts cA 20 lt) :: (g 6, zInts cA 20 dd) :: cw) H := hP
        have hD : va_D A ((lz, zInts cA 20 Lf) :: (g 0, zInts cA 4 cf) :: (g 1, zInts cA 24 tf) :: (g 2, zInts cA 24 ff) :: (g 3, zInts cA 10 vf) :: (g 4, zInts cA 40 jj) :: (g 5, zInts cA 20 lt) :: (g 6, zInts cA 20 dd) :: cw) := hD
        refine lv_bipush (v := (-101)) hx hb dL_tells_547 (by decide) ?_
        refine lv_icmp_ne (tgt := 568) hx hb dL_tells_549 (by decide) (fun c_5 => absurd rfl c_5) (fun c_5 => ?_)
        refine lv_aload_n hx hb dL_tells_552 rfl (lv_at hl 1 rfl) ?_
        refine lv_iconst (v := nI (2)) hx hb dL_tells_553 (by decide) ?_
        refine lv_iconst (v := nI (0)) hx hb dL_tells_554 (by decide) ?_
        refine lv_iconst (v := (-1)) hx hb dL_tells_555 (by decide) ?_
        refine ze_H_i (n := 4) (mc := 2) (ms := 12) (ws := cw) (es := [(lz, zInts cA 20 Lf), (g 0, zInts cA 4 cf), (g 1, zInts cA 24 tf), (g 2, zInts cA 24 ff), (g 3, zInts cA 10 vf), (g 4, zInts cA 40 jj), (g 5, zInts cA 20 lt), (g 6, zInts cA 20 dd)]) (As := [.ref (ad 0), .int (nI (2)), .int (nI (0)), .int ((-1))]) (rest := []) hx hb hml hts hown hZ hX hN [0, 1, 2, 3, 4, 5, 6, 7] rfl rfl hP hD hS hA (c_L_told_2 l D cA _ cw (ad 0) _ l0 _ _ _ _ (k1b (ix (nI (0)) n) (fun t => ix ((-1)) (fc t))) (nI (0)) ((-1)) (fun sz9 => c_X4_start l hlt D cA sz9 cw ad T Bd E PT PB PE n tr le sl mo la fc bo nd mk ck ct hd pq nj fw jf dl dn oc s8 s9 s10 s11 s12 hL hI (nI (0)) ((-1))) (fun _ _ h => h)) gL_tells_L_told rfl ⟨rfl, rfl⟩ ⟨by decide +kernel, (Nat.le_of_ble_eq_true rfl), (Nat.le_of_ble_eq_true rfl)⟩ hl.1 rfl (Nat.le_of_ble_eq_true rfl) ⟨by show _ ≤ 96; omega, by show _ ≤ 700; omega⟩ rfl dL_tells_556 (fun r9 u9 H locs hp9 hP hD hS hz => ?_)
        rcases u9 with ⟨t9, f9⟩ | u9
        · dsimp only [zwP] at hp9
          obtain ⟨htn, hv0, hfn, hv1, hr9⟩ := hp9
          have hf10 := (hIT t9 htn).2.2.2.2.2.2.1
          exact absurd hv1.symm (nI_nm1 (by omega))
        · dsimp only [zwP] at hp9
          obtain ⟨hr9, hK9, E9, hE9⟩ := hp9
          have hr9 : r9 = (-101) := by rw [hr9, show (k1b (ix (nI (0)) n) (fun t => ix ((-1)) (fc t))) = 1 from (by rcases Nat.eq_zero_or_pos n with h | h; exact k1b_1 (by rw [ix_nI (by omega), if_neg (by omega)]); exact k1b_2 (ix_in (by omega) h) (ix_neg (by decide)))]; rfl
          subst hr9
          have hP : va_P D vwCl ((lz, zInts cA 20 Lf) :: (g 0, zInts cA 4 cf) :: (g 1, zInts cA 24 tf) :: (g 2, zInts cA 24 ff) :: (g 3, zInts cA 10 vf) :: (g 4, zInts cA 40 jj) :: (g 5, zInts cA 20 lt) :: (g 6, zInts cA 20 dd) :: cw) H := hP
          have hD : va_D A ((lz, zInts cA 20 Lf) :: (g 0, zInts cA 4 cf) :: (g 1, zInts cA 24 tf) :: (g 2, zInts cA 24 ff) :: (g 3, zInts cA 10 vf) :: (g 4, zInts cA 40 jj) :: (g 5, zInts cA 20 lt) :: (g 6, zInts cA 20 dd) :: cw) := hD
          refine lv_bipush (v := (-101)) hx hb dL_tells_559 (by decide) ?_
          refine lv_icmp_ne (tgt := 568) hx hb dL_tells_561 (by decide) (fun c_6 => absurd rfl c_6) (fun c_6 => ?_)
          refine lv_iconst (v := bI (true)) hx hb dL_tells_564 (by decide) ?_
          refine lv_goto (tgt := 569) hx hb dL_tells_565 (by decide) ?_
          have hP := zd_P hP
          have hD := zd_D hD
          have hP : va_P D vwCl ((g 0, zInts cA 4 cf) :: (g 1, zInts cA 24 tf) :: (g 2, zInts cA 24 ff) :: (g 3, zInts cA 10 vf) :: (g 4, zInts cA 40 jj) :: (g 5, zInts cA 20 lt) :: (g 6, zInts cA 20 dd) :: cw) H := hP
          have hD : va_D A ((g 0, zInts cA 4 cf) :: (g 1, zInts cA 24 tf) :: (g 2, zInts cA 24 ff) :: (g 3, zInts cA 10 vf) :: (g 4, zInts cA 40 jj) :: (g 5, zInts cA 20 lt) :: (g 6, zInts cA 20 dd) :: cw) := hD
          exact W.widen (k := 96) (n := 700) (by omega) (by omega) (zr_qz (S := va_W) (post := (fun (r : Int32) (u : va_W) => r = bI true ∧ LV cA ad g u)) (w1 := fun u => u) ((g 0, zInts cA 4 cf) :: (g 1, zInts cA 24 tf) :: (g 2, zInts cA 24 ff) :: (g 3, zInts cA 10 vf) :: (g 4, zInts cA 40 jj) :: (g 5, zInts cA 20 lt) :: (g 6, zInts cA 20 dd) :: cw) hx hb hr hlocks ⟨rfl, ⟨_, _, _, _, _, _, _, _, _, _, _, _, _, _, _, _, _, _, _, _, _, _, _, _, _, _, _, _, _, _, _, _, _, _, _, _, _, _, _, _, cw, rfl, hL, hI, hp⟩⟩ hP hD hS rfl dL_tells_569)
    · rcases Nat.lt_or_ge dz nd with hdt | hdt
      · obtain ⟨qv1, qv2, qv3, qv4, qv5⟩ := qV dz hdt
        obtain ⟨hmk1, hct1, hpn1, hps1⟩ := hID dz hdt
        rcases hhd : hd dz with _ | t
        · have qv6 : vf (6 + dz) = -1 := by rw [qv4, hhd]; rfl
          refine lv_iload hx hb dL_tells_425 (lv_at hl 11 rfl) ?_
          refine lv_aload_n hx hb dL_tells_427 rfl (lv_at hl 3 rfl) ?_
          refine lv_iconst (v := nI (1)) hx hb dL_tells_428 (by decide) ?_
          refine va_iald hx hb hZ.1 hP 1 0 rfl rfl (vp_in_nI (show 1 < 4 by omega) (by omega)) dL_tells_429 ?_
          rw [nI_clamp (show 1 < 2 ^ 31 by omega)]
          refine zx_val (y := nI (nd)) (c1) ?_
          refine zc_ge (tgt := 437) hx hb (by omega) (by omega) dL_tells_430 (by decide) (fun c_7 => False.elim (by omega)) (fun c_7 => ?_)
          refine lv_iconst (v := bI (true)) hx hb dL_tells_433 (by decide) ?_
          refine lv_goto (tgt := 438) hx hb dL_tells_434 (by decide) ?_
          refine lv_istore (lv' := [(14, .int (bI (true))), (9, .ref lz), (0, .ref (ad 0)), (1, .int (y)), (2, .ref (g 0)), (3, .ref (g 1)), (4, .ref (g 2)), (5, .ref (g 3)), (6, .ref (g 4)), (7, .ref (g 5)), (8, .ref (g 6)), (10, .int (oI (nxt mo la (fun q9 => (wl fw (nI q9) nj).length) (fun q9 => erl fw (nI q9) dl nj) n))), (13, .int (nI (dz)))]) hx hb dL_tells_438 hl (by decide) rfl (fun ls hl => ?_)
          refine lv_aload_n hx hb dL_tells_440 rfl (lv_at hl 2 rfl) ?_
          refine lv_iconst (v := nI (5)) hx hb dL_tells_441 (by decide) ?_
          refine lv_iload hx hb dL_tells_442 (lv_at hl 12 rfl) ?_
          refine lv_iconst (v := nI (0)) hx hb dL_tells_444 (by decide) ?_
          refine ze_H_i (n := 4) (mc := 1) (ms := 6) (ws := cw) (es := [(lz, zInts cA 20 Lf), (g 0, zInts cA 4 cf), (g 1, zInts cA 24 tf), (g 2, zInts cA 24 ff), (g 3, zInts cA 10 vf), (g 4, zInts cA 40 jj), (g 5, zInts cA 20 lt), (g 6, zInts cA 20 dd)]) (As := [.ref (ad 0), .int (nI (5)), .int (nI (dz)), .int (nI (0))]) (rest := []) hx hb hml hts hown hZ hX hN [0, 1, 2, 3, 4, 5, 6, 7] rfl rfl hP hD hS hA (c_L_told_5 l D cA _ cw (ad 0) _ l0 _ _ _ _ (k1 (ix (nI (dz)) nd)) (nI (dz)) (nI (0)) (fun sz9 => c_X4_clock l hlt D cA sz9 cw ad T Bd E PT PB PE n tr le sl mo la fc bo nd mk ck ct hd pq nj fw jf dl dn oc s8 s9 s10 s11 s12 hL hI (nI (dz))) (fun _ _ h => h)) gL_tells_L_told rfl ⟨rfl, rfl⟩ ⟨by decide +kernel, (Nat.le_of_ble_eq_true rfl), (Nat.le_of_ble_eq_true rfl)⟩ hl.1 rfl (Nat.le_of_ble_eq_true rfl) ⟨by show _ ≤ 96; omega, by show _ ≤ 700; omega⟩ rfl dL_tells_445 (fun r9 u9 H locs hp9 hP hD hS hz => ?_)
          rcases u9 with j9 | u9
          · dsimp only [zwP] at hp9
            obtain ⟨hjn, hv0, hr9⟩ := hp9
            have e9 := (nI_eq (by omega) (by omega)).mp hv0
            subst e9; subst hr9
            have hP : va_P D vwCl ((lz, zInts cA 20 Lf) :: (g 0, zInts cA 4 cf) :: (g 1, zInts cA 24 tf) :: (g 2, zInts cA 24 ff) :: (g 3, zInts cA 10 vf) :: (g 4, zInts cA 40 jj) :: (g 5, zInts cA 20 lt) :: (g 6, zInts cA 20 dd) :: cw) H := hP
            have hD : va_D A ((lz, zInts cA 20 Lf) :: (g 0, zInts cA 4 cf) :: (g 1, zInts cA 24 tf) :: (g 2, zInts cA 24 ff) :: (g 3, zInts cA 10 vf) :: (g 4, zInts cA 40 jj) :: (g 5, zInts cA 20 lt) :: (g 6, zInts cA 20 dd) :: cw) := hD
            refine lv_iload hx hb dL_tells_448 (lv_at hl 0 rfl) ?_
            refine zb_eq (tgt := 463) hx hb dL_tells_450 (by decide) (fun c_8 => Bool.noConfusion c_8) (fun c_8 => ?_)
            refine lv_aload hx hb dL_tells_453 (lv_at hl 7 rfl) ?_
            refine lv_iconst (v := nI (2)) hx hb dL_tells_455 (by decide) ?_
            refine lv_iload hx hb dL_tells_456 (lv_at hl 12 rfl) ?_
            refine zo_add hx hb dL_tells_458 ?_
            refine va_iald hx hb hZ.1 hP 4 0 rfl rfl (vp_in_nI (show 2 + dz < 10 by omega) (by omega)) dL_tells_459 ?_
            rw [nI_clamp (show 2 + dz < 2 ^ 31 by omega)]
            refine zx_val (y := ck dz) (qv2) ?_
            refine lv_goto (tgt := 465) hx hb dL_tells_460 (by decide) ?_
            refine lv_icmp_ne (tgt := 513) hx hb dL_tells_465 (by decide) (fun c_9 => absurd rfl c_9) (fun c_9 => ?_)
            refine lv_aload_n hx hb dL_tells_468 rfl (lv_at hl 2 rfl) ?_
            refine lv_bipush (v := nI (6)) hx hb dL_tells_469 (by decide) ?_
            refine lv_iload hx hb dL_tells_471 (lv_at hl 12 rfl) ?_
            refine lv_iconst (v := nI (0)) hx hb dL_tells_473 (by decide) ?_
            refine ze_H_i (n := 4) (mc := 1) (ms := 6) (ws := cw) (es := [(lz, zInts cA 20 Lf), (g 0, zInts cA 4 cf), (g 1, zInts cA 24 tf), (g 2, zInts cA 24 ff), (g 3, zInts cA 10 vf), (g 4, zInts cA 40 jj), (g 5, zInts cA 20 lt), (g 6, zInts cA 20 dd)]) (As := [.ref (ad 0), .int (nI (6)), .int (nI (dz)), .int (nI (0))]) (rest := []) hx hb hml hts hown hZ hX hN [0, 1, 2, 3, 4, 5, 6, 7] rfl rfl hP hD hS hA (c_L_told_6 l D cA _ cw (ad 0) _ l0 _ _ _ _ (k1 (ix (nI (dz)) nd)) (nI (dz)) (nI (0)) (fun sz9 => c_X4_stands l hlt D cA sz9 cw ad T Bd E PT PB PE n tr le sl mo la fc bo nd mk ck ct hd pq nj fw jf dl dn oc s8 s9 s10 s11 s12 hL hI (nI (dz))) (fun _ _ h => h)) gL_tells_L_told rfl ⟨rfl, rfl⟩ ⟨by decide +kernel, (Nat.le_of_ble_eq_true rfl), (Nat.le_of_ble_eq_true rfl)⟩ hl.1 rfl (Nat.le_of_ble_eq_true rfl) ⟨by show _ ≤ 96; omega, by show _ ≤ 700; omega⟩ rfl dL_tells_474 (fun r9 u9 H locs hp9 hP hD hS hz => ?_)
            rcases u9 with j9 | u9
            · dsimp only [zwP] at hp9
              obtain ⟨hjn, hv0, hr9⟩ := hp9
              have e9 := (nI_eq (by omega) (by omega)).mp hv0
              subst e9
              rw [hpn1 hhd] at hr9
              subst hr9
              have hP : va_P D vwCl ((lz, zInts cA 20 Lf) :: (g 0, zInts cA 4 cf) :: (g 1, zInts cA 24 tf) :: (g 2, zInts cA 24 ff) :: (g 3, zInts cA 10 vf) :: (g 4, zInts cA 40 jj) :: (g 5, zInts cA 20 lt) :: (g 6, zInts cA 20 dd) :: cw) H := hP
              have hD : va_D A ((lz, zInts cA 20 Lf) :: (g 0, zInts cA 4 cf) :: (g 1, zInts cA 24 tf) :: (g 2, zInts cA 24 ff) :: (g 3, zInts cA 10 vf) :: (g 4, zInts cA 40 jj) :: (g 5, zInts cA 20 lt) :: (g 6, zInts cA 20 dd) :: cw) := hD
              refine lv_iload hx hb dL_tells_477 (lv_at hl 0 rfl) ?_
              refine zb_ne (tgt := 487) hx hb dL_tells_479 (by decide) (fun c_10 => ?_) (fun c_10 => Bool.noConfusion c_10)
              refine lv_aload hx hb dL_tells_487 (lv_at hl 7 rfl) ?_
              refine lv_bipush (v := nI (6)) hx hb dL_tells_489 (by decide) ?_
              refine lv_iload hx hb dL_tells_491 (lv_at hl 12 rfl) ?_
              refine zo_add hx hb dL_tells_493 ?_
              refine va_iald hx hb hZ.1 hP 4 0 rfl rfl (vp_in_nI (show 6 + dz < 10 by omega) (by omega)) dL_tells_494 ?_
              rw [nI_clamp (show 6 + dz < 2 ^ 31 by omega)]
              refine zx_val (y := (-1)) (qv6) ?_
              refine lv_if_ge (tgt := 502) hx hb dL_tells_495 (by decide) (fun c_11 => absurd c_11 (by decide)) (fun c_11 => ?_)
              refine lv_iconst (v := (-1)) hx hb dL_tells_498 (by decide) ?_
              refine lv_goto (tgt := 510) hx hb dL_tells_499 (by decide) ?_
              refine lv_icmp_eq (tgt := 515) hx hb dL_tells_510 (by decide) (fun c_12 => ?_) (fun c_12 => absurd rfl c_12)
              refine lv_iinc (v := nI (dz + 1)) (lv' := [(13, .int (nI (dz + 1))), (14, .int (bI (true))), (9, .ref lz), (0, .ref (ad 0)), (1, .int (y)), (2, .ref (g 0)), (3, .ref (g 1)), (4, .ref (g 2)), (5, .ref (g 3)), (6, .ref (g 4)), (7, .ref (g 5)), (8, .ref (g 6)), (10, .int (oI (nxt mo la (fun q9 => (wl fw (nI q9) nj).length) (fun q9 => erl fw (nI q9) dl nj) n)))]) hx hb dL_tells_515 hl (k := 12) rfl (zinc 1 _) (by decide) rfl (fun ls hl => ?_)
              refine lv_goto (tgt := 417) hx hb dL_tells_518 (by decide) ?_
              refine W.widen (k := 50 + 3 * ((dz + 1))) (n := 400 + 20 * ((dz + 1))) (by omega) (by omega) ?_
              exact ih417 ((dz + 1), ()) H locs ls (by first | omega | (dsimp only; omega)) ⟨lv_sub hl [2, 3, 4, 5, 6, 7, 8, 9, 10, 11, 12, 0] rfl, hP, hD, hS, by dsimp only; omega⟩
            · exact absurd (show (k1 (ix (nI (dz)) nd)) = 0 from k1_0 (ix_in (by omega) hdt)) hp9.2.1
          · exact absurd (show (k1 (ix (nI (dz)) nd)) = 0 from k1_0 (ix_in (by omega) hdt)) hp9.2.1
        · have qv6 : vf (6 + dz) = nI t := by rw [qv4, hhd]; rfl
          have qv7 := qv5 t hhd
          have htn := (hps1 t hhd).1
          refine lv_iload hx hb dL_tells_425 (lv_at hl 11 rfl) ?_
          refine lv_aload_n hx hb dL_tells_427 rfl (lv_at hl 3 rfl) ?_
          refine lv_iconst (v := nI (1)) hx hb dL_tells_428 (by decide) ?_
          refine va_iald hx hb hZ.1 hP 1 0 rfl rfl (vp_in_nI (show 1 < 4 by omega) (by omega)) dL_tells_429 ?_
          rw [nI_clamp (show 1 < 2 ^ 31 by omega)]
          refine zx_val (y := nI (nd)) (c1) ?_
          refine zc_ge (tgt := 437) hx hb (by omega) (by omega) dL_tells_430 (by decide) (fun c_13 => False.elim (by omega)) (fun c_13 => ?_)
          refine lv_iconst (v := bI (true)) hx hb dL_tells_433 (by decide) ?_
          refine lv_goto (tgt := 438) hx hb dL_tells_434 (by decide) ?_
          refine lv_istore (lv' := [(14, .int (bI (true))), (9, .ref lz), (0, .ref (ad 0)), (1, .int (y)), (2, .ref (g 0)), (3, .ref (g 1)), (4, .ref (g 2)), (5, .ref (g 3)), (6, .ref (g 4)), (7, .ref (g 5)), (8, .ref (g 6)), (10, .int (oI (nxt mo la (fun q9 => (wl fw (nI q9) nj).length) (fun q9 => erl fw (nI q9) dl nj) n))), (13, .int (nI (dz)))]) hx hb dL_tells_438 hl (by decide) rfl (fun ls hl => ?_)
          refine lv_aload_n hx hb dL_tells_440 rfl (lv_at hl 2 rfl) ?_
          refine lv_iconst (v := nI (5)) hx hb dL_tells_441 (by decide) ?_
          refine lv_iload hx hb dL_tells_442 (lv_at hl 12 rfl) ?_
          refine lv_iconst (v := nI (0)) hx hb dL_tells_444 (by decide) ?_
          refine ze_H_i (n := 4) (mc := 1) (ms := 6) (ws := cw) (es := [(lz, zInts cA 20 Lf), (g 0, zInts cA 4 cf), (g 1, zInts cA 24 tf), (g 2, zInts cA 24 ff), (g 3, zInts cA 10 vf), (g 4, zInts cA 40 jj), (g 5, zInts cA 20 lt), (g 6, zInts cA 20 dd)]) (As := [.ref (ad 0), .int (nI (5)), .int (nI (dz)), .int (nI (0))]) (rest := []) hx hb hml hts hown hZ hX hN [0, 1, 2, 3, 4, 5, 6, 7] rfl rfl hP hD hS hA (c_L_told_5 l D cA _ cw (ad 0) _ l0 _ _ _ _ (k1 (ix (nI (dz)) nd)) (nI (dz)) (nI (0)) (fun sz9 => c_X4_clock l hlt D cA sz9 cw ad T Bd E PT PB PE n tr le sl mo la fc bo nd mk ck ct hd pq nj fw jf dl dn oc s8 s9 s10 s11 s12 hL hI (nI (dz))) (fun _ _ h => h)) gL_tells_L_told rfl ⟨rfl, rfl⟩ ⟨by decide +kernel, (Nat.le_of_ble_eq_true rfl), (Nat.le_of_ble_eq_true rfl)⟩ hl.1 rfl (Nat.le_of_ble_eq_true rfl) ⟨by show _ ≤ 96; omega, by show _ ≤ 700; omega⟩ rfl dL_tells_445 (fun r9 u9 H locs hp9 hP hD hS hz => ?_)
          rcases u9 with j9 | u9
          · dsimp only [zwP] at hp9
            obtain ⟨hjn, hv0, hr9⟩ := hp9
            have e9 := (nI_eq (by omega) (by omega)).mp hv0
            subst e9; subst hr9
            have hP : va_P D vwCl ((lz, zInts cA 20 Lf) :: (g 0, zInts cA 4 cf) :: (g 1, zInts cA 24 tf) :: (g 2, zInts cA 24 ff) :: (g 3, zInts cA 10 vf) :: (g 4, zInts cA 40 jj) :: (g 5, zInts cA 20 lt) :: (g 6, zInts cA 20 dd) :: cw) H := hP
            have hD : va_D A ((lz, zInts cA 20 Lf) :: (g 0, zInts cA 4 cf) :: (g 1, zInts cA 24 tf) :: (g 2, zInts cA 24 ff) :: (g 3, zInts cA 10 vf) :: (g 4, zInts cA 40 jj) :: (g 5, zInts cA 20 lt) :: (g 6, zInts cA 20 dd) :: cw) := hD
            refine lv_iload hx hb dL_tells_448 (lv_at hl 0 rfl) ?_
            refine zb_eq (tgt := 463) hx hb dL_tells_450 (by decide) (fun c_14 => Bool.noConfusion c_14) (fun c_14 => ?_)
            refine lv_aload hx hb dL_tells_453 (lv_at hl 7 rfl) ?_
            refine lv_iconst (v := nI (2)) hx hb dL_tells_455 (by decide) ?_
            refine lv_iload hx hb dL_tells_456 (lv_at hl 12 rfl) ?_
            refine zo_add hx hb dL_tells_458 ?_
            refine va_iald hx hb hZ.1 hP 4 0 rfl rfl (vp_in_nI (show 2 + dz < 10 by omega) (by omega)) dL_tells_459 ?_
            rw [nI_clamp (show 2 + dz < 2 ^ 31 by omega)]
            refine zx_val (y := ck dz) (qv2) ?_
            refine lv_goto (tgt := 465) hx hb dL_tells_460 (by decide) ?_
            refine lv_icmp_ne (tgt := 513) hx hb dL_tells_465 (by decide) (fun c_15 => absurd rfl c_15) (fun c_15 => ?_)
            refine lv_aload_n hx hb dL_tells_468 rfl (lv_at hl 2 rfl) ?_
            refine lv_bipush (v := nI (6)) hx hb dL_tells_469 (by decide) ?_
            refine lv_iload hx hb dL_tells_471 (lv_at hl 12 rfl) ?_
            refine lv_iconst (v := nI (0)) hx hb dL_tells_473 (by decide) ?_
            refine ze_H_i (n := 4) (mc := 1) (ms := 6) (ws := cw) (es := [(lz, zInts cA 20 Lf), (g 0, zInts cA 4 cf), (g 1, zInts cA 24 tf), (g 2, zInts cA 24 ff), (g 3, zInts cA 10 vf), (g 4, zInts cA 40 jj), (g 5, zInts cA 20 lt), (g 6, zInts cA 20 dd)]) (As := [.ref (ad 0), .int (nI (6)), .int (nI (dz)), .int (nI (0))]) (rest := []) hx hb hml hts hown hZ hX hN [0, 1, 2, 3, 4, 5, 6, 7] rfl rfl hP hD hS hA (c_L_told_6 l D cA _ cw (ad 0) _ l0 _ _ _ _ (k1 (ix (nI (dz)) nd)) (nI (dz)) (nI (0)) (fun sz9 => c_X4_stands l hlt D cA sz9 cw ad T Bd E PT PB PE n tr le sl mo la fc bo nd mk ck ct hd pq nj fw jf dl dn oc s8 s9 s10 s11 s12 hL hI (nI (dz))) (fun _ _ h => h)) gL_tells_L_told rfl ⟨rfl, rfl⟩ ⟨by decide +kernel, (Nat.le_of_ble_eq_true rfl), (Nat.le_of_ble_eq_true rfl)⟩ hl.1 rfl (Nat.le_of_ble_eq_true rfl) ⟨by show _ ≤ 96; omega, by show _ ≤ 700; omega⟩ rfl dL_tells_474 (fun r9 u9 H locs hp9 hP hD hS hz => ?_)
            rcases u9 with j9 | u9
            · dsimp only [zwP] at hp9
              obtain ⟨hjn, hv0, hr9⟩ := hp9
              have e9 := (nI_eq (by omega) (by omega)).mp hv0
              subst e9; subst hr9
              have hP : va_P D vwCl ((lz, zInts cA 20 Lf) :: (g 0, zInts cA 4 cf) :: (g 1, zInts cA 24 tf) :: (g 2, zInts cA 24 ff) :: (g 3, zInts cA 10 vf) :: (g 4, zInts cA 40 jj) :: (g 5, zInts cA 20 lt) :: (g 6, zInts cA 20 dd) :: cw) H := hP
              have hD : va_D A ((lz, zInts cA 20 Lf) :: (g 0, zInts cA 4 cf) :: (g 1, zInts cA 24 tf) :: (g 2, zInts cA 24 ff) :: (g 3, zInts cA 10 vf) :: (g 4, zInts cA 40 jj) :: (g 5, zInts cA 20 lt) :: (g 6, zInts cA 20 dd) :: cw) := hD
              refine lv_iload hx hb dL_tells_477 (lv_at hl 0 rfl) ?_
              refine zb_ne (tgt := 487) hx hb dL_tells_479 (by decide) (fun c_16 => ?_) (fun c_16 => Bool.noConfusion c_16)
              refine lv_aload hx hb dL_tells_487 (lv_at hl 7 rfl) ?_
              refine lv_bipush (v := nI (6)) hx hb dL_tells_489 (by decide) ?_
              refine lv_iload hx hb dL_tells_491 (lv_at hl 12 rfl) ?_
              refine zo_add hx hb dL_tells_493 ?_
              refine va_iald hx hb hZ.1 hP 4 0 rfl rfl (vp_in_nI (show 6 + dz < 10 by omega) (by omega)) dL_tells_494 ?_
              rw [nI_clamp (show 6 + dz < 2 ^ 31 by omega)]
              refine zx_val (y := nI (t)) (qv6) ?_
              refine zf_ge (tgt := 502) hx hb (by omega) dL_tells_495 (by decide) ?_
              refine lv_aload hx hb dL_tells_502 (lv_at hl 7 rfl) ?_
              refine lv_bipush (v := nI (8)) hx hb dL_tells_504 (by decide) ?_
              refine lv_iload hx hb dL_tells_506 (lv_at hl 12 rfl) ?_
              refine zo_add hx hb dL_tells_508 ?_
              refine va_iald hx hb hZ.1 hP 4 0 rfl rfl (vp_in_nI (show 8 + dz < 10 by omega) (by omega)) dL_tells_509 ?_
              rw [nI_clamp (show 8 + dz < 2 ^ 31 by omega)]
              refine zx_val (y := pq dz) (qv7) ?_
              refine lv_icmp_eq (tgt := 515) hx hb dL_tells_510 (by decide) (fun c_18 => ?_) (fun c_18 => absurd rfl c_18)
              refine lv_iinc (v := nI (dz + 1)) (lv' := [(13, .int (nI (dz + 1))), (14, .int (bI (true))), (9, .ref lz), (0, .ref (ad 0)), (1, .int (y)), (2, .ref (g 0)), (3, .ref (g 1)), (4, .ref (g 2)), (5, .ref (g 3)), (6, .ref (g 4)), (7, .ref (g 5)), (8, .ref (g 6)), (10, .int (oI (nxt mo la (fun q9 => (wl fw (nI q9) nj).length) (fun q9 => erl fw (nI q9) dl nj) n)))]) hx hb dL_tells_515 hl (k := 12) rfl (zinc 1 _) (by decide) rfl (fun ls hl => ?_)
              refine lv_goto (tgt := 417) hx hb dL_tells_518 (by decide) ?_
              refine W.widen (k := 50 + 3 * ((dz + 1))) (n := 400 + 20 * ((dz + 1))) (by omega) (by omega) ?_
              exact ih417 ((dz + 1), ()) H locs ls (by first | omega | (dsimp only; omega)) ⟨lv_sub hl [2, 3, 4, 5, 6, 7, 8, 9, 10, 11, 12, 0] rfl, hP, hD, hS, by dsimp only; omega⟩
            · exact absurd (show (k1 (ix (nI (dz)) nd)) = 0 from k1_0 (ix_in (by omega) hdt)) hp9.2.1
          · exact absurd (show (k1 (ix (nI (dz)) nd)) = 0 from k1_0 (ix_in (by omega) hdt)) hp9.2.1
      · refine lv_iload hx hb dL_tells_425 (lv_at hl 11 rfl) ?_
        refine lv_aload_n hx hb dL_tells_427 rfl (lv_at hl 3 rfl) ?_
        refine lv_iconst (v := nI (1)) hx hb dL_tells_428 (by decide) ?_
        refine va_iald hx hb hZ.1 hP 1 0 rfl rfl (vp_in_nI (show 1 < 4 by omega) (by omega)) dL_tells_429 ?_
        rw [nI_clamp (show 1 < 2 ^ 31 by omega)]
        refine zx_val (y := nI (nd)) (c1) ?_
        refine zc_ge (tgt := 437) hx hb (by omega) (by omega) dL_tells_430 (by decide) (fun c_19 => ?_) (fun c_19 => False.elim (by omega))
        refine lv_iconst (v := bI (false)) hx hb dL_tells_437 (by decide) ?_
        refine lv_istore (lv' := [(14, .int (bI (false))), (9, .ref lz), (0, .ref (ad 0)), (1, .int (y)), (2, .ref (g 0)), (3, .ref (g 1)), (4, .ref (g 2)), (5, .ref (g 3)), (6, .ref (g 4)), (7, .ref (g 5)), (8, .ref (g 6)), (10, .int (oI (nxt mo la (fun q9 => (wl fw (nI q9) nj).length) (fun q9 => erl fw (nI q9) dl nj) n))), (13, .int (nI (dz)))]) hx hb dL_tells_438 hl (by decide) rfl (fun ls hl => ?_)
        refine lv_aload_n hx hb dL_tells_440 rfl (lv_at hl 2 rfl) ?_
        refine lv_iconst (v := nI (5)) hx hb dL_tells_441 (by decide) ?_
        refine lv_iload hx hb dL_tells_442 (lv_at hl 12 rfl) ?_
        refine lv_iconst (v := nI (0)) hx hb dL_tells_444 (by decide) ?_
        refine ze_H_i (n := 4) (mc := 1) (ms := 6) (ws := cw) (es := [(lz, zInts cA 20 Lf), (g 0, zInts cA 4 cf), (g 1, zInts cA 24 tf), (g 2, zInts cA 24 ff), (g 3, zInts cA 10 vf), (g 4, zInts cA 40 jj), (g 5, zInts cA 20 lt), (g 6, zInts cA 20 dd)]) (As := [.ref (ad 0), .int (nI (5)), .int (nI (dz)), .int (nI (0))]) (rest := []) hx hb hml hts hown hZ hX hN [0, 1, 2, 3, 4, 5, 6, 7] rfl rfl hP hD hS hA (c_L_told_5 l D cA _ cw (ad 0) _ l0 _ _ _ _ (k1 (ix (nI (dz)) nd)) (nI (dz)) (nI (0)) (fun sz9 => c_X4_clock l hlt D cA sz9 cw ad T Bd E PT PB PE n tr le sl mo la fc bo nd mk ck ct hd pq nj fw jf dl dn oc s8 s9 s10 s11 s12 hL hI (nI (dz))) (fun _ _ h => h)) gL_tells_L_told rfl ⟨rfl, rfl⟩ ⟨by decide +kernel, (Nat.le_of_ble_eq_true rfl), (Nat.le_of_ble_eq_true rfl)⟩ hl.1 rfl (Nat.le_of_ble_eq_true rfl) ⟨by show _ ≤ 96; omega, by show _ ≤ 700; omega⟩ rfl dL_tells_445 (fun r9 u9 H locs hp9 hP hD hS hz => ?_)
        rcases u9 with j9 | u9
        · dsimp only [zwP] at hp9
          obtain ⟨hjn, hv0, hr9⟩ := hp9
          have e9 := (nI_eq (by omega) (by omega)).mp hv0
          omega
        · dsimp only [zwP] at hp9
          obtain ⟨hr9, hK9, E9, hE9⟩ := hp9
          have hr9 : r9 = (-101) := by rw [hr9, show (k1 (ix (nI (dz)) nd)) = 1 from k1_1 (by rw [ix_nI (by omega), if_neg (by omega)])]; rfl
          subst hr9
          have hP : va_P D vwCl ((lz, zInts cA 20 Lf) :: (g 0, zInts cA 4 cf) :: (g 1, zInts cA 24 tf) :: (g 2, zInts cA 24 ff) :: (g 3, zInts cA 10 vf) :: (g 4, zInts cA 40 jj) :: (g 5, zInts cA 20 lt) :: (g 6, zInts cA 20 dd) :: cw) H := hP
          have hD : va_D A ((lz, zInts cA 20 Lf) :: (g 0, zInts cA 4 cf) :: (g 1, zInts cA 24 tf) :: (g 2, zInts cA 24 ff) :: (g 3, zInts cA 10 vf) :: (g 4, zInts cA 40 jj) :: (g 5, zInts cA 20 lt) :: (g 6, zInts cA 20 dd) :: cw) := hD
          refine lv_iload hx hb dL_tells_448 (lv_at hl 0 rfl) ?_
          refine zb_eq (tgt := 463) hx hb dL_tells_450 (by decide) (fun c_20 => ?_) (fun c_20 => Bool.noConfusion c_20)
          refine lv_bipush (v := (-101)) hx hb dL_tells_463 (by decide) ?_
          refine lv_icmp_ne (tgt := 513) hx hb dL_tells_465 (by decide) (fun c_21 => absurd rfl c_21) (fun c_21 => ?_)
          refine lv_aload_n hx hb dL_tells_468 rfl (lv_at hl 2 rfl) ?_
          refine lv_bipush (v := nI (6)) hx hb dL_tells_469 (by decide) ?_
          refine lv_iload hx hb dL_tells_471 (lv_at hl 12 rfl) ?_
          refine lv_iconst (v := nI (0)) hx hb dL_tells_473 (by decide) ?_
          refine ze_H_i (n := 4) (mc := 1) (ms := 6) (ws := cw) (es := [(lz, zInts cA 20 Lf), (g 0, zInts cA 4 cf), (g 1, zInts cA 24 tf), (g 2, zInts cA 24 ff), (g 3, zInts cA 10 vf), (g 4, zInts cA 40 jj), (g 5, zInts cA 20 lt), (g 6, zInts cA 20 dd)]) (As := [.ref (ad 0), .int (nI (6)), .int (nI (dz)), .int (nI (0))]) (rest := []) hx hb hml hts hown hZ hX hN [0, 1, 2, 3, 4, 5, 6, 7] rfl rfl hP hD hS hA (c_L_told_6 l D cA _ cw (ad 0) _ l0 _ _ _ _ (k1 (ix (nI (dz)) nd)) (nI (dz)) (nI (0)) (fun sz9 => c_X4_stands l hlt D cA sz9 cw ad T Bd E PT PB PE n tr le sl mo la fc bo nd mk ck ct hd pq nj fw jf dl dn oc s8 s9 s10 s11 s12 hL hI (nI (dz))) (fun _ _ h => h)) gL_tells_L_told rfl ⟨rfl, rfl⟩ ⟨by decide +kernel, (Nat.le_of_ble_eq_true rfl), (Nat.le_of_ble_eq_true rfl)⟩ hl.1 rfl (Nat.le_of_ble_eq_true rfl) ⟨by show _ ≤ 96; omega, by show _ ≤ 700; omega⟩ rfl dL_tells_474 (fun r9 u9 H locs hp9 hP hD hS hz => ?_)
          rcases u9 with j9 | u9
          · dsimp only [zwP] at hp9
            obtain ⟨hjn, hv0, hr9⟩ := hp9
            have e9 := (nI_eq (by omega) (by omega)).mp hv0
            omega
          · dsimp only [zwP] at hp9
            obtain ⟨hr9, hK9, E9, hE9⟩ := hp9
            have hr9 : r9 = (-101) := by rw [hr9, show (k1 (ix (nI (dz)) nd)) = 1 from k1_1 (by rw [ix_nI (by omega), if_neg (by omega)])]; rfl
            subst hr9
            have hP : va_P D vwCl ((lz, zInts cA 20 Lf) :: (g 0, zInts cA 4 cf) :: (g 1, zInts cA 24 tf) :: (g 2, zInts cA 24 ff) :: (g 3, zInts cA 10 vf) :: (g 4, zInts cA 40 jj) :: (g 5, zInts cA 20 lt) :: (g 6, zInts cA 20 dd) :: cw) H := hP
            have hD : va_D A ((lz, zInts cA 20 Lf) :: (g 0, zInts cA 4 cf) :: (g 1, zInts cA 24 tf) :: (g 2, zInts cA 24 ff) :: (g 3, zInts cA 10 vf) :: (g 4, zInts cA 40 jj) :: (g 5, zInts cA 20 lt) :: (g 6, zInts cA 20 dd) :: cw) := hD
            refine lv_iload hx hb dL_tells_477 (lv_at hl 0 rfl) ?_
            refine zb_ne (tgt := 487) hx hb dL_tells_479 (by decide) (fun c_22 => Bool.noConfusion c_22) (fun c_22 => ?_)
            refine lv_bipush (v := (-101)) hx hb dL_tells_482 (by decide) ?_
            refine lv_goto (tgt := 510) hx hb dL_tells_484 (by decide) ?_
            refine lv_icmp_eq (tgt := 515) hx hb dL_tells_510 (by decide) (fun c_23 => ?_) (fun c_23 => absurd rfl c_23)
            refine lv_iinc (v := nI (dz + 1)) (lv' := [(13, .int (nI (dz + 1))), (14, .int (bI (false))), (9, .ref lz), (0, .ref (ad 0)), (1, .int (y)), (2, .ref (g 0)), (3, .ref (g 1)), (4, .ref (g 2)), (5, .ref (g 3)), (6, .ref (g 4)), (7, .ref (g 5)), (8, .ref (g 6)), (10, .int (oI (nxt mo la (fun q9 => (wl fw (nI q9) nj).length) (fun q9 => erl fw (nI q9) dl nj) n)))]) hx hb dL_tells_515 hl (k := 12) rfl (zinc 1 _) (by decide) rfl (fun ls hl => ?_)
            refine lv_goto (tgt := 417) hx hb dL_tells_518 (by decide) ?_
            refine W.widen (k := 50 + 3 * ((dz + 1))) (n := 400 + 20 * ((dz + 1))) (by omega) (by omega) ?_
            exact ih417 ((dz + 1), ()) H locs ls (by first | omega | (dsimp only; omega)) ⟨lv_sub hl [2, 3, 4, 5, 6, 7, 8, 9, 10, 11, 12, 0] rfl, hP, hD, hS, by dsimp only; omega⟩
  · rcases Nat.lt_or_ge aa n with hat | hat
    · obtain ⟨qa1, qa2, qa3, qa4, qa5, qa6, qa7⟩ := qT aa hat
      obtain ⟨t1, t2, t3, t4, t5, t6, t7, t8, t9x, t10⟩ := hIT aa hat
      have hm8 : tr aa * le aa ≤ 8 * 200 := Nat.mul_le_mul t2 t4
      have hmin : min aa n = aa := by omega
      have hmi : min (aa + 1) n = aa + 1 := by omega
      rw [hmin] at hnx hfs
      have hw5 := qW aa hat
      refine lv_iload hx hb dL_tells_26 (lv_at hl 13 rfl) ?_
      refine lv_aload_n hx hb dL_tells_28 rfl (lv_at hl 3 rfl) ?_
      refine lv_iconst (v := nI (0)) hx hb dL_tells_29 (by decide) ?_
      refine va_iald hx hb hZ.1 hP 1 0 rfl rfl (vp_in_nI (show 0 < 4 by omega) (by omega)) dL_tells_30 ?_
      rw [nI_clamp (show 0 < 2 ^ 31 by omega)]
      refine zx_val (y := nI (n)) (c0) ?_
      refine zc_ge (tgt := 38) hx hb (by omega) (by omega) dL_tells_31 (by decide) (fun c_24 => False.elim (by omega)) (fun c_24 => ?_)
      refine lv_iconst (v := bI (true)) hx hb dL_tells_34 (by decide) ?_
      refine lv_goto (tgt := 39) hx hb dL_tells_35 (by decide) ?_
      refine lv_istore (lv' := [(14, .int (bI (true))), (9, .ref lz), (0, .ref (ad 0)), (1, .int (y)), (2, .ref (g 0)), (3, .ref (g 1)), (4, .ref (g 2)), (5, .ref (g 3)), (6, .ref (g 4)), (7, .ref (g 5)), (8, .ref (g 6)), (10, .int (nx)), (11, .int (fs)), (12, .int (ms9)), (13, .int (nI (aa)))]) hx hb dL_tells_39 hl (by decide) rfl (fun ls hl => ?_)
      refine lv_iload hx hb dL_tells_41 (lv_at hl 0 rfl) ?_
      refine zb_eq (tgt := 61) hx hb dL_tells_43 (by decide) (fun c_25 => Bool.noConfusion c_25) (fun c_25 => ?_)
      refine lv_aload_n hx hb dL_tells_46 rfl (lv_at hl 4 rfl) ?_
      refine lv_aload hx hb dL_tells_47 (lv_at hl 8 rfl) ?_
      refine lv_aload hx hb dL_tells_49 (lv_at hl 10 rfl) ?_
      refine lv_iload hx hb dL_tells_51 (lv_at hl 14 rfl) ?_
      refine lv_aload hx hb dL_tells_53 (lv_at hl 1 rfl) ?_
      refine zw_S_i (n := 5) (mc := 0) (ms := 0) (w1 := fun u : Unit => (lz, zInts cA 20 (colF Lf (wl fw (nI aa) nj))) :: (g 0, zInts cA 4 cf) :: (g 1, zInts cA 24 tf) :: (g 2, zInts cA 24 ff) :: (g 3, zInts cA 10 vf) :: (g 4, zInts cA 40 jj) :: (g 5, zInts cA 20 lt) :: (g 6, zInts cA 20 dd) :: cw) (As := [.ref (g 0), .ref (g 4), .ref (g 6), .int (nI (aa)), .ref lz]) (rest := []) hx hb hml hts hown hZ hP hD hS hA (c_L_listed l D cA _ ((lz, zInts cA 20 Lf) :: (g 0, zInts cA 4 cf) :: (g 1, zInts cA 24 tf) :: (g 2, zInts cA 24 ff) :: (g 3, zInts cA 10 vf) :: (g 4, zInts cA 40 jj) :: (g 5, zInts cA 20 lt) :: (g 6, zInts cA 20 dd) :: cw) 1 (g 0) cf rfl 5 (g 4) jj rfl 7 (g 6) dd rfl nj aa jt fin fw c2 hj20 (by omega) (hjob_of hp) 0 lz 20 Lf rfl (by have := qW aa (by omega); omega) (by decide) (by decide) (by decide) (by decide)) gL_tells_L_listed rfl ⟨rfl, rfl⟩ ⟨by decide +kernel, (Nat.le_of_ble_eq_true rfl), (Nat.le_of_ble_eq_true rfl)⟩ hl.1 rfl (Nat.le_of_ble_eq_true rfl) ⟨by show _ ≤ 96; omega, by show _ ≤ 700; omega⟩ rfl dL_tells_55 (fun r9 u9 H locs hp9 hP hD hS hz => ?_)
      obtain rfl := show r9 = nI ((wl fw (nI aa) nj).length) from hp9
      have hP : va_P D vwCl ((lz, zInts cA 20 (colF Lf (wl fw (nI aa) nj))) :: (g 0, zInts cA 4 cf) :: (g 1, zInts cA 24 tf) :: (g 2, zInts cA 24 ff) :: (g 3, zInts cA 10 vf) :: (g 4, zInts cA 40 jj) :: (g 5, zInts cA 20 lt) :: (g 6, zInts cA 20 dd) :: cw) H := hP
      have hD : va_D A ((lz, zInts cA 20 (colF Lf (wl fw (nI aa) nj))) :: (g 0, zInts cA 4 cf) :: (g 1, zInts cA 24 tf) :: (g 2, zInts cA 24 ff) :: (g 3, zInts cA 10 vf) :: (g 4, zInts cA 40 jj) :: (g 5, zInts cA 20 lt) :: (g 6, zInts cA 20 dd) :: cw) := hD
      refine lv_goto (tgt := 63) hx hb dL_tells_58 (by decide) ?_
      refine lv_istore (lv' := [(15, .int (nI ((wl fw (nI aa) nj).length))), (14, .int (bI (true))), (9, .ref lz), (0, .ref (ad 0)), (1, .int (y)), (2, .ref (g 0)), (3, .ref (g 1)), (4, .ref (g 2)), (5, .ref (g 3)), (6, .ref (g 4)), (7, .ref (g 5)), (8, .ref (g 6)), (10, .int (nx)), (11, .int (fs)), (12, .int (ms9)), (13, .int (nI (aa)))]) hx hb dL_tells_63 hl (by decide) rfl (fun ls hl => ?_)
      refine z_joinF (α := Unit) (pc' := 158) (1 + 8 * aa + 3) (20 + 60 * aa + 18) (fun _ H locs ls => lv_has ls 21 [(15, .int (nI ((wl fw (nI aa) nj).length))), (14, .int (bI (true))), (9, .ref lz), (0, .ref (ad 0)), (1, .int (y)), (2, .ref (g 0)), (3, .ref (g 1)), (4, .ref (g 2)), (5, .ref (g 3)), (6, .ref (g 4)), (7, .ref (g 5)), (8, .ref (g 6)), (10, .int (nx)), (11, .int (fs)), (12, .int (ms9)), (13, .int (nI (aa)))] ∧ va_P D vwCl ((lz, zInts cA 20 (colF Lf (wl fw (nI aa) nj))) :: (g 0, zInts cA 4 cf) :: (g 1, zInts cA 24 tf) :: (g 2, zInts cA 24 ff) :: (g 3, zInts cA 10 vf) :: (g 4, zInts cA 40 jj) :: (g 5, zInts cA 20 lt) :: (g 6, zInts cA 20 dd) :: cw) H ∧ va_D A ((lz, zInts cA 20 (colF Lf (wl fw (nI aa) nj))) :: (g 0, zInts cA 4 cf) :: (g 1, zInts cA 24 tf) :: (g 2, zInts cA 24 ff) :: (g 3, zInts cA 10 vf) :: (g 4, zInts cA 40 jj) :: (g 5, zInts cA 20 lt) :: (g 6, zInts cA 20 dd) :: cw) ∧ va_S A s.heap H locs) (fun _ => []) ?_ (fun J158 => ?_)
      · intro _ H locs ls hv
        obtain ⟨hl, hP, hD, hS⟩ := hv
        have hl : lv_has ls 21 [(15, .int (nI ((wl fw (nI aa) nj).length))), (14, .int (bI (true))), (9, .ref lz), (0, .ref (ad 0)), (1, .int (y)), (2, .ref (g 0)), (3, .ref (g 1)), (4, .ref (g 2)), (5, .ref (g 3)), (6, .ref (g 4)), (7, .ref (g 5)), (8, .ref (g 6)), (10, .int (nx)), (11, .int (fs)), (12, .int (ms9)), (13, .int (nI (aa)))] := hl
        refine lv_iload_n hx hb dL_tells_158 rfl (lv_at hl 4 rfl) ?_
        refine lv_iconst (v := nI (3)) hx hb dL_tells_159 (by decide) ?_
        refine lv_ishr hx hb dL_tells_160 ?_
        refine lv_bipush (v := nI (7)) hx hb dL_tells_161 (by decide) ?_
        refine zk_S_i (n := 2) (As := [.int ((y) >>> ((nI (3)) &&& 31)), .int (nI (7))]) (rest := []) hx hb hml hts hown hZ hP (c_L_some l D cA _ ((y) >>> ((nI (3)) &&& 31)) 7 (by omega) (by omega)) gL_tells_L_some rfl ⟨rfl, rfl⟩ ⟨by decide +kernel, (Nat.le_of_ble_eq_true rfl), (Nat.le_of_ble_eq_true rfl)⟩ hl.1 rfl (Nat.le_of_ble_eq_true rfl) ⟨by show _ ≤ 96; omega, by show _ ≤ 700; omega⟩ rfl dL_tells_163 (fun rf hrf => ?_)
        obtain ⟨qf, hqf, hbf⟩ : ∃ z, rf = nI z ∧ z < 7 := ⟨_, hrf, sm_lt (by omega)⟩
        subst hqf
        refine lv_istore (lv' := [(16, .int (nI (qf))), (15, .int (nI ((wl fw (nI aa) nj).length))), (14, .int (bI (true))), (9, .ref lz), (0, .ref (ad 0)), (1, .int (y)), (2, .ref (g 0)), (3, .ref (g 1)), (4, .ref (g 2)), (5, .ref (g 3)), (6, .ref (g 4)), (7, .ref (g 5)), (8, .ref (g 6)), (10, .int (nx)), (11, .int (fs)), (12, .int (ms9)), (13, .int (nI (aa)))]) hx hb dL_tells_166 hl (by decide) rfl (fun ls hl => ?_)
        refine lv_iload_n hx hb dL_tells_168 rfl (lv_at hl 5 rfl) ?_
        refine lv_iconst (v := nI (5)) hx hb dL_tells_169 (by decide) ?_
        refine lv_ishr hx hb dL_tells_170 ?_
        refine lv_bipush (v := nI (50)) hx hb dL_tells_171 (by decide) ?_
        refine zk_S_i (n := 2) (As := [.int ((y) >>> ((nI (5)) &&& 31)), .int (nI (50))]) (rest := []) hx hb hml hts hown hZ hP (c_L_some l D cA _ ((y) >>> ((nI (5)) &&& 31)) 50 (by omega) (by omega)) gL_tells_L_some rfl ⟨rfl, rfl⟩ ⟨by decide +kernel, (Nat.le_of_ble_eq_true rfl), (Nat.le_of_ble_eq_true rfl)⟩ hl.1 rfl (Nat.le_of_ble_eq_true rfl) ⟨by show _ ≤ 96; omega, by show _ ≤ 700; omega⟩ rfl dL_tells_173 (fun rp hrp => ?_)
        obtain ⟨qp, hqp, hbp⟩ : ∃ z, rp = nI z ∧ z < 50 := ⟨_, hrp, sm_lt (by omega)⟩
        subst hqp
        refine lv_iconst (v := nI (1)) hx hb dL_tells_176 (by decide) ?_
        obtain ⟨vp, hvp, hVp⟩ := ch_va (q := qp) (x := 1) (by omega)
        refine lv_isub hx hb dL_tells_177 ?_
        refine zx_val (y := vp) hvp ?_
        refine lv_istore (lv' := [(17, .int (vp)), (16, .int (nI (qf))), (15, .int (nI ((wl fw (nI aa) nj).length))), (14, .int (bI (true))), (9, .ref lz), (0, .ref (ad 0)), (1, .int (y)), (2, .ref (g 0)), (3, .ref (g 1)), (4, .ref (g 2)), (5, .ref (g 3)), (6, .ref (g 4)), (7, .ref (g 5)), (8, .ref (g 6)), (10, .int (nx)), (11, .int (fs)), (12, .int (ms9)), (13, .int (nI (aa)))]) hx hb dL_tells_178 hl (by decide) rfl (fun ls hl => ?_)
        refine z_joinF (α := Unit) (pc' := 292) (1 + 8 * aa + 7) (20 + 60 * aa + 42) (fun _ H locs ls => lv_has ls 21 [(15, .int (nI ((wl fw (nI aa) nj).length))), (14, .int (bI (true))), (9, .ref lz), (0, .ref (ad 0)), (1, .int (y)), (2, .ref (g 0)), (3, .ref (g 1)), (4, .ref (g 2)), (5, .ref (g 3)), (6, .ref (g 4)), (7, .ref (g 5)), (8, .ref (g 6)), (10, .int (nx)), (11, .int (fs)), (12, .int (ms9)), (13, .int (nI (aa)))] ∧ va_P D vwCl ((lz, zInts cA 20 (colF Lf (wl fw (nI aa) nj))) :: (g 0, zInts cA 4 cf) :: (g 1, zInts cA 24 tf) :: (g 2, zInts cA 24 ff) :: (g 3, zInts cA 10 vf) :: (g 4, zInts cA 40 jj) :: (g 5, zInts cA 20 lt) :: (g 6, zInts cA 20 dd) :: cw) H ∧ va_D A ((lz, zInts cA 20 (colF Lf (wl fw (nI aa) nj))) :: (g 0, zInts cA 4 cf) :: (g 1, zInts cA 24 tf) :: (g 2, zInts cA 24 ff) :: (g 3, zInts cA 10 vf) :: (g 4, zInts cA 40 jj) :: (g 5, zInts cA 20 lt) :: (g 6, zInts cA 20 dd) :: cw) ∧ va_S A s.heap H locs) (fun _ => []) ?_ (fun J292 => ?_)
        · intro _ H locs ls hv
          obtain ⟨hl, hP, hD, hS⟩ := hv
          have hl : lv_has ls 21 [(15, .int (nI ((wl fw (nI aa) nj).length))), (14, .int (bI (true))), (9, .ref lz), (0, .ref (ad 0)), (1, .int (y)), (2, .ref (g 0)), (3, .ref (g 1)), (4, .ref (g 2)), (5, .ref (g 3)), (6, .ref (g 4)), (7, .ref (g 5)), (8, .ref (g 6)), (10, .int (nx)), (11, .int (fs)), (12, .int (ms9)), (13, .int (nI (aa)))] := hl
          refine z_join (α := Int32 × Int32 × Int32) (pc' := 408) (fun v ls => lv_has ls 21 [(9, .ref lz), (0, .ref (ad 0)), (1, .int (y)), (2, .ref (g 0)), (3, .ref (g 1)), (4, .ref (g 2)), (5, .ref (g 3)), (6, .ref (g 4)), (7, .ref (g 5)), (8, .ref (g 6)), (13, .int (nI (aa))), (10, .int (v.1)), (11, .int (v.2.1)), (12, .int (v.2.2))] ∧ v.1 = oI (nxt mo la (fun q9 => (wl fw (nI q9) nj).length) (fun q9 => erl fw (nI q9) dl nj) (aa + 1)) ∧ (∀ b9, (nxt mo la (fun q9 => (wl fw (nI q9) nj).length) (fun q9 => erl fw (nI q9) dl nj) (aa + 1)) = some b9 → v.2.1 = nI (erl fw (nI b9) dl nj) ∧ v.2.2 = nI ((wl fw (nI b9) nj).length))) (fun _ => []) ?_ (fun J408 => ?_)
          · intro v ls hv
            obtain ⟨nx2, fs2, ms2⟩ := v
            obtain ⟨hl, hK1, hK2⟩ := hv
            have hl : lv_has ls 21 [(9, .ref lz), (0, .ref (ad 0)), (1, .int (y)), (2, .ref (g 0)), (3, .ref (g 1)), (4, .ref (g 2)), (5, .ref (g 3)), (6, .ref (g 4)), (7, .ref (g 5)), (8, .ref (g 6)), (13, .int (nI (aa))), (10, .int (nx2)), (11, .int (fs2)), (12, .int (ms2))] := hl
            refine lv_iinc (v := nI (aa + 1)) (lv' := [(13, .int (nI (aa + 1))), (9, .ref lz), (0, .ref (ad 0)), (1, .int (y)), (2, .ref (g 0)), (3, .ref (g 1)), (4, .ref (g 2)), (5, .ref (g 3)), (6, .ref (g 4)), (7, .ref (g 5)), (8, .ref (g 6)), (10, .int (nx2)), (11, .int (fs2)), (12, .int (ms2))]) hx hb dL_tells_408 hl (k := 10) rfl (zinc 1 _) (by decide) rfl (fun ls hl => ?_)
            refine lv_goto (tgt := 18) hx hb dL_tells_411 (by decide) ?_
            refine W.widen (k := 1 + 8 * (aa + 1)) (n := 20 + 60 * (aa + 1)) (by omega) (by omega) ?_
            exact ih18 (nx2, fs2, ms2, aa + 1, (colF Lf (wl fw (nI aa) nj))) H locs ls (by first | omega | (dsimp only; omega)) ⟨lv_sub hl [1, 2, 3, 4, 5, 6, 7, 8, 9, 10, 11, 12, 13, 0] rfl, hP, hD, hS, ⟨by dsimp only; omega, by dsimp only; rw [hmi]; exact hK1, by dsimp only; rw [hmi]; exact hK2⟩⟩
          · skip
            refine lv_iload hx hb dL_tells_292 (lv_at hl 1 rfl) ?_
            refine zb_eq (tgt := 408) hx hb dL_tells_294 (by decide) (fun c_26 => Bool.noConfusion c_26) (fun c_26 => ?_)
            refine lv_iload hx hb dL_tells_297 (lv_at hl 0 rfl) ?_
            refine zf_le (tgt := 408) hx hb (by omega) dL_tells_299 (by decide) (fun c_27 => ?_) (fun c_27 => ?_)
            · exact J408 (nx, fs, ms9) ls ⟨lv_sub hl [2, 3, 4, 5, 6, 7, 8, 9, 10, 11, 15, 12, 13, 14] rfl, by
                have e : (nxt mo la (fun q9 => (wl fw (nI q9) nj).length) (fun q9 => erl fw (nI q9) dl nj) (aa + 1)) = (nxt mo la (fun q9 => (wl fw (nI q9) nj).length) (fun q9 => erl fw (nI q9) dl nj) aa) := nxt_cw (by omega)
                rw [e]; exact ⟨hnx, hfs⟩⟩
            · rcases hmo : mo aa with _ | j0
              · have qm : tf (12 + aa) = -1 := by rw [qa4, hmo]; rfl
                cases hla : la aa
                · have qn : tf (16 + aa) = bI true := by rw [qa5, hla]; rfl
                  refine lv_aload_n hx hb dL_tells_302 rfl (lv_at hl 6 rfl) ?_
                  refine lv_bipush (v := nI (12)) hx hb dL_tells_303 (by decide) ?_
                  refine lv_iload hx hb dL_tells_305 (lv_at hl 15 rfl) ?_
                  refine zo_add hx hb dL_tells_307 ?_
                  refine va_iald hx hb hZ.1 hP 2 0 rfl rfl (vp_in_nI (show 12 + aa < 24 by omega) (by omega)) dL_tells_308 ?_
                  rw [nI_clamp (show 12 + aa < 2 ^ 31 by omega)]
                  refine zx_val (y := (-1)) (qm) ?_
                  refine lv_if_ge (tgt := 408) hx hb dL_tells_309 (by decide) (fun c_28 => absurd c_28 (by decide)) (fun c_28 => ?_)
                  refine lv_aload_n hx hb dL_tells_312 rfl (lv_at hl 6 rfl) ?_
                  refine lv_bipush (v := nI (16)) hx hb dL_tells_313 (by decide) ?_
                  refine lv_iload hx hb dL_tells_315 (lv_at hl 15 rfl) ?_
                  refine zo_add hx hb dL_tells_317 ?_
                  refine va_iald hx hb hZ.1 hP 2 0 rfl rfl (vp_in_nI (show 16 + aa < 24 by omega) (by omega)) dL_tells_318 ?_
                  rw [nI_clamp (show 16 + aa < 2 ^ 31 by omega)]
                  refine zx_val (y := bI (true)) (qn) ?_
                  refine zb_ne (tgt := 408) hx hb dL_tells_319 (by decide) (fun c_29 => ?_) (fun c_29 => Bool.noConfusion c_29)
                  exact J408 (nx, fs, ms9) ls ⟨lv_sub hl [2, 3, 4, 5, 6, 7, 8, 9, 10, 11, 15, 12, 13, 14] rfl, by
                    have e : (nxt mo la (fun q9 => (wl fw (nI q9) nj).length) (fun q9 => erl fw (nI q9) dl nj) (aa + 1)) = (nxt mo la (fun q9 => (wl fw (nI q9) nj).length) (fun q9 => erl fw (nI q9) dl nj) aa) := nxt_la hla
                    rw [e]; exact ⟨hnx, hfs⟩⟩
                · have qn : tf (16 + aa) = bI false := by rw [qa5, hla]; rfl
                  refine lv_aload_n hx hb dL_tells_302 rfl (lv_at hl 6 rfl) ?_
                  refine lv_bipush (v := nI (12)) hx hb dL_tells_303 (by decide) ?_
                  refine lv_iload hx hb dL_tells_305 (lv_at hl 15 rfl) ?_
                  refine zo_add hx hb dL_tells_307 ?_
                  refine va_iald hx hb hZ.1 hP 2 0 rfl rfl (vp_in_nI (show 12 + aa < 24 by omega) (by omega)) dL_tells_308 ?_
                  rw [nI_clamp (show 12 + aa < 2 ^ 31 by omega)]
                  refine zx_val (y := (-1)) (qm) ?_
                  refine lv_if_ge (tgt := 408) hx hb dL_tells_309 (by decide) (fun c_30 => absurd c_30 (by decide)) (fun c_30 => ?_)
                  refine lv_aload_n hx hb dL_tells_312 rfl (lv_at hl 6 rfl) ?_
                  refine lv_bipush (v := nI (16)) hx hb dL_tells_313 (by decide) ?_
                  refine lv_iload hx hb dL_tells_315 (lv_at hl 15 rfl) ?_
                  refine zo_add hx hb dL_tells_317 ?_
                  refine va_iald hx hb hZ.1 hP 2 0 rfl rfl (vp_in_nI (show 16 + aa < 24 by omega) (by omega)) dL_tells_318 ?_
                  rw [nI_clamp (show 16 + aa < 2 ^ 31 by omega)]
                  refine zx_val (y := bI (false)) (qn) ?_
                  refine zb_ne (tgt := 408) hx hb dL_tells_319 (by decide) (fun c_31 => Bool.noConfusion c_31) (fun c_31 => ?_)
                  have h0l : 0 < (wl fw (nI aa) nj).length := by omega
                  refine lv_ldc (v := nI 100000) hx hb hown (hts (.constant RL 146 100000) (by decide +kernel)) dL_tells_322 ?_
                  refine lv_istore (lv' := [(19, .int (nI (100000))), (15, .int (nI ((wl fw (nI aa) nj).length))), (14, .int (bI (true))), (9, .ref lz), (0, .ref (ad 0)), (1, .int (y)), (2, .ref (g 0)), (3, .ref (g 1)), (4, .ref (g 2)), (5, .ref (g 3)), (6, .ref (g 4)), (7, .ref (g 5)), (8, .ref (g 6)), (10, .int (nx)), (11, .int (fs)), (12, .int (ms9)), (13, .int (nI (aa)))]) hx hb dL_tells_324 hl (by decide) rfl (fun ls hl => ?_)
                  refine lv_iconst (v := nI (0)) hx hb dL_tells_326 (by decide) ?_
                  refine lv_istore (lv' := [(20, .int (nI (0))), (19, .int (nI (100000))), (15, .int (nI ((wl fw (nI aa) nj).length))), (14, .int (bI (true))), (9, .ref lz), (0, .ref (ad 0)), (1, .int (y)), (2, .ref (g 0)), (3, .ref (g 1)), (4, .ref (g 2)), (5, .ref (g 3)), (6, .ref (g 4)), (7, .ref (g 5)), (8, .ref (g 6)), (10, .int (nx)), (11, .int (fs)), (12, .int (ms9)), (13, .int (nI (aa)))]) hx hb dL_tells_327 hl (by decide) rfl (fun ls hl => ?_)
                  refine z_loop (α := Nat × Nat) (fun v => (wl fw (nI aa) nj).length - v.2) (fun v ls => lv_has ls 21 [(15, .int (nI ((wl fw (nI aa) nj).length))), (14, .int (bI (true))), (9, .ref lz), (0, .ref (ad 0)), (1, .int (y)), (2, .ref (g 0)), (3, .ref (g 1)), (4, .ref (g 2)), (5, .ref (g 3)), (6, .ref (g 4)), (7, .ref (g 5)), (8, .ref (g 6)), (10, .int (nx)), (11, .int (fs)), (12, .int (ms9)), (13, .int (nI (aa))), (19, .int (nI (v.1))), (20, .int (nI (v.2)))] ∧ v.1 = ear dl (wl fw (nI aa) nj) v.2 ∧ v.2 ≤ (wl fw (nI aa) nj).length) (fun _ => []) (100000, 0) ⟨lv_sub hl [2, 3, 4, 5, 6, 7, 8, 9, 10, 11, 12, 13, 14, 15, 16, 17, 1, 0] rfl, ⟨rfl, Nat.zero_le _⟩⟩ ?_
                  intro v ih329 ls hv
                  obtain ⟨er, k⟩ := v
                  obtain ⟨hl, hI⟩ := hv
                  have hl : lv_has ls 21 [(15, .int (nI ((wl fw (nI aa) nj).length))), (14, .int (bI (true))), (9, .ref lz), (0, .ref (ad 0)), (1, .int (y)), (2, .ref (g 0)), (3, .ref (g 1)), (4, .ref (g 2)), (5, .ref (g 3)), (6, .ref (g 4)), (7, .ref (g 5)), (8, .ref (g 6)), (10, .int (nx)), (11, .int (fs)), (12, .int (ms9)), (13, .int (nI (aa))), (19, .int (nI (er))), (20, .int (nI (k)))] := hl
                  have hI : er = ear dl (wl fw (nI aa) nj) k ∧ k ≤ (wl fw (nI aa) nj).length := hI
                  obtain ⟨her, hkl⟩ := hI
                  have hI := hIk
                  have hel := ear_le (dl := dl) k hkl
                  refine lv_iload hx hb dL_tells_329 (lv_at hl 17 rfl) ?_
                  refine lv_iload hx hb dL_tells_331 (lv_at hl 0 rfl) ?_
                  refine zc_ge (tgt := 370) hx hb (by omega) (by omega) dL_tells_333 (by decide) (fun c_32 => ?_) (fun c_32 => ?_)
                  · have her2 : er = (erl fw (nI aa) dl nj) := by rw [her, show k = (wl fw (nI aa) nj).length by omega]; exact ear_all h0l hIdl
                    rw [her2] at hl
                    have hela := erl_le (f := fw) (x := nI aa) (dl := dl) nj
                    rcases hnx9 : (nxt mo la (fun q9 => (wl fw (nI q9) nj).length) (fun q9 => erl fw (nI q9) dl nj) aa) with _ | b9
                    · have hnv : nx = -1 := by rw [hnx, hnx9]; rfl
                      rw [hnv] at hl
                      refine lv_iload hx hb dL_tells_370 (lv_at hl 12 rfl) ?_
                      refine lv_if_lt (tgt := 396) hx hb dL_tells_372 (by decide) (fun c_33 => ?_) (fun c_33 => absurd (by decide) c_33)
                      refine lv_iload hx hb dL_tells_396 (lv_at hl 15 rfl) ?_
                      refine lv_istore (lv' := [(10, .int (nI (aa))), (15, .int (nI ((wl fw (nI aa) nj).length))), (14, .int (bI (true))), (9, .ref lz), (0, .ref (ad 0)), (1, .int (y)), (2, .ref (g 0)), (3, .ref (g 1)), (4, .ref (g 2)), (5, .ref (g 3)), (6, .ref (g 4)), (7, .ref (g 5)), (8, .ref (g 6)), (11, .int (fs)), (12, .int (ms9)), (13, .int (nI (aa))), (19, .int (nI ((erl fw (nI aa) dl nj)))), (20, .int (nI (k)))]) hx hb dL_tells_398 hl (by decide) rfl (fun ls hl => ?_)
                      refine lv_iload hx hb dL_tells_400 (lv_at hl 16 rfl) ?_
                      refine lv_istore (lv' := [(11, .int (nI ((erl fw (nI aa) dl nj)))), (10, .int (nI (aa))), (15, .int (nI ((wl fw (nI aa) nj).length))), (14, .int (bI (true))), (9, .ref lz), (0, .ref (ad 0)), (1, .int (y)), (2, .ref (g 0)), (3, .ref (g 1)), (4, .ref (g 2)), (5, .ref (g 3)), (6, .ref (g 4)), (7, .ref (g 5)), (8, .ref (g 6)), (12, .int (ms9)), (13, .int (nI (aa))), (19, .int (nI ((erl fw (nI aa) dl nj)))), (20, .int (nI (k)))]) hx hb dL_tells_402 hl (by decide) rfl (fun ls hl => ?_)
                      refine lv_iload hx hb dL_tells_404 (lv_at hl 2 rfl) ?_
                      refine lv_istore (lv' := [(12, .int (nI ((wl fw (nI aa) nj).length))), (11, .int (nI ((erl fw (nI aa) dl nj)))), (10, .int (nI (aa))), (15, .int (nI ((wl fw (nI aa) nj).length))), (14, .int (bI (true))), (9, .ref lz), (0, .ref (ad 0)), (1, .int (y)), (2, .ref (g 0)), (3, .ref (g 1)), (4, .ref (g 2)), (5, .ref (g 3)), (6, .ref (g 4)), (7, .ref (g 5)), (8, .ref (g 6)), (13, .int (nI (aa))), (19, .int (nI ((erl fw (nI aa) dl nj)))), (20, .int (nI (k)))]) hx hb dL_tells_406 hl (by decide) rfl (fun ls hl => ?_)
                      exact J408 (nI (aa), nI ((erl fw (nI aa) dl nj)), nI ((wl fw (nI aa) nj).length)) ls ⟨lv_sub hl [5, 6, 7, 8, 9, 10, 11, 12, 13, 14, 15, 2, 1, 0] rfl, by
                        have e : (nxt mo la (fun q9 => (wl fw (nI q9) nj).length) (fun q9 => erl fw (nI q9) dl nj) (aa + 1)) = some aa := nxt_new (by rw [hmo]; rfl) hla h0l hnx9
                        rw [e]; exact ⟨rfl, fun b9 h => by cases h; exact ⟨rfl, rfl⟩⟩⟩
                    · have hnv : nx = nI b9 := by rw [hnx, hnx9]; rfl
                      obtain ⟨hf9, hm9⟩ := hfs b9 hnx9
                      rw [hnv, hf9, hm9] at hl
                      have hb9 := (nxt_b aa hnx9).1
                      have helb := erl_le (f := fw) (x := nI b9) (dl := dl) nj
                      have hwb := qW b9 (by omega)
                      refine lv_iload hx hb dL_tells_370 (lv_at hl 12 rfl) ?_
                      refine zf_lt (tgt := 396) hx hb (by omega) dL_tells_372 (by decide) ?_
                      refine lv_iload hx hb dL_tells_375 (lv_at hl 16 rfl) ?_
                      refine lv_iload hx hb dL_tells_377 (lv_at hl 13 rfl) ?_
                      refine zc_lt (tgt := 396) hx hb (by omega) (by omega) dL_tells_379 (by decide) (fun c_35 => ?_) (fun c_35 => ?_)
                      · refine lv_iload hx hb dL_tells_396 (lv_at hl 15 rfl) ?_
                        refine lv_istore (lv' := [(10, .int (nI (aa))), (15, .int (nI ((wl fw (nI aa) nj).length))), (14, .int (bI (true))), (9, .ref lz), (0, .ref (ad 0)), (1, .int (y)), (2, .ref (g 0)), (3, .ref (g 1)), (4, .ref (g 2)), (5, .ref (g 3)), (6, .ref (g 4)), (7, .ref (g 5)), (8, .ref (g 6)), (11, .int (nI ((erl fw (nI b9) dl nj)))), (12, .int (nI (((wl fw (nI b9) nj).length)))), (13, .int (nI (aa))), (19, .int (nI ((erl fw (nI aa) dl nj)))), (20, .int (nI (k)))]) hx hb dL_tells_398 hl (by decide) rfl (fun ls hl => ?_)
                        refine lv_iload hx hb dL_tells_400 (lv_at hl 16 rfl) ?_
                        refine lv_istore (lv' := [(11, .int (nI ((erl fw (nI aa) dl nj)))), (10, .int (nI (aa))), (15, .int (nI ((wl fw (nI aa) nj).length))), (14, .int (bI (true))), (9, .ref lz), (0, .ref (ad 0)), (1, .int (y)), (2, .ref (g 0)), (3, .ref (g 1)), (4, .ref (g 2)), (5, .ref (g 3)), (6, .ref (g 4)), (7, .ref (g 5)), (8, .ref (g 6)), (12, .int (nI (((wl fw (nI b9) nj).length)))), (13, .int (nI (aa))), (19, .int (nI ((erl fw (nI aa) dl nj)))), (20, .int (nI (k)))]) hx hb dL_tells_402 hl (by decide) rfl (fun ls hl => ?_)
                        refine lv_iload hx hb dL_tells_404 (lv_at hl 2 rfl) ?_
                        refine lv_istore (lv' := [(12, .int (nI ((wl fw (nI aa) nj).length))), (11, .int (nI ((erl fw (nI aa) dl nj)))), (10, .int (nI (aa))), (15, .int (nI ((wl fw (nI aa) nj).length))), (14, .int (bI (true))), (9, .ref lz), (0, .ref (ad 0)), (1, .int (y)), (2, .ref (g 0)), (3, .ref (g 1)), (4, .ref (g 2)), (5, .ref (g 3)), (6, .ref (g 4)), (7, .ref (g 5)), (8, .ref (g 6)), (13, .int (nI (aa))), (19, .int (nI ((erl fw (nI aa) dl nj)))), (20, .int (nI (k)))]) hx hb dL_tells_406 hl (by decide) rfl (fun ls hl => ?_)
                        exact J408 (nI (aa), nI ((erl fw (nI aa) dl nj)), nI ((wl fw (nI aa) nj).length)) ls ⟨lv_sub hl [5, 6, 7, 8, 9, 10, 11, 12, 13, 14, 15, 2, 1, 0] rfl, by
                          have e : (nxt mo la (fun q9 => (wl fw (nI q9) nj).length) (fun q9 => erl fw (nI q9) dl nj) (aa + 1)) = some aa := by first | exact nxt_lt (by rw [hmo]; rfl) hla h0l hnx9 (by omega) | exact nxt_eq (by rw [hmo]; rfl) hla h0l hnx9 (by omega) (by omega)
                          rw [e]; exact ⟨rfl, fun b9 h => by cases h; exact ⟨rfl, rfl⟩⟩⟩
                      · refine lv_iload hx hb dL_tells_382 (lv_at hl 16 rfl) ?_
                        refine lv_iload hx hb dL_tells_384 (lv_at hl 13 rfl) ?_
                        refine zc_ne (tgt := 408) hx hb (by omega) (by omega) dL_tells_386 (by decide) (fun c_36 => ?_) (fun c_36 => ?_)
                        · exact J408 (nI (b9), nI ((erl fw (nI b9) dl nj)), nI (((wl fw (nI b9) nj).length))) ls ⟨lv_sub hl [2, 3, 4, 5, 6, 7, 8, 9, 10, 11, 15, 12, 13, 14] rfl, by
                            have e : (nxt mo la (fun q9 => (wl fw (nI q9) nj).length) (fun q9 => erl fw (nI q9) dl nj) (aa + 1)) = (nxt mo la (fun q9 => (wl fw (nI q9) nj).length) (fun q9 => erl fw (nI q9) dl nj) aa) := nxt_no hnx9 (by omega) (fun _ => by omega)
                            rw [e, hnx9]; exact ⟨rfl, fun b9 h => by cases h; exact ⟨rfl, rfl⟩⟩⟩
                        · refine lv_iload hx hb dL_tells_389 (lv_at hl 0 rfl) ?_
                          refine lv_iload hx hb dL_tells_391 (lv_at hl 14 rfl) ?_
                          refine zc_le (tgt := 408) hx hb (by omega) (by omega) dL_tells_393 (by decide) (fun c_37 => ?_) (fun c_37 => ?_)
                          · exact J408 (nI (b9), nI ((erl fw (nI b9) dl nj)), nI (((wl fw (nI b9) nj).length))) ls ⟨lv_sub hl [2, 3, 4, 5, 6, 7, 8, 9, 10, 11, 15, 12, 13, 14] rfl, by
                              have e : (nxt mo la (fun q9 => (wl fw (nI q9) nj).length) (fun q9 => erl fw (nI q9) dl nj) (aa + 1)) = (nxt mo la (fun q9 => (wl fw (nI q9) nj).length) (fun q9 => erl fw (nI q9) dl nj) aa) := nxt_no hnx9 (by omega) (fun _ => by omega)
                              rw [e, hnx9]; exact ⟨rfl, fun b9 h => by cases h; exact ⟨rfl, rfl⟩⟩⟩
                          · refine lv_iload hx hb dL_tells_396 (lv_at hl 15 rfl) ?_
                            refine lv_istore (lv' := [(10, .int (nI (aa))), (15, .int (nI ((wl fw (nI aa) nj).length))), (14, .int (bI (true))), (9, .ref lz), (0, .ref (ad 0)), (1, .int (y)), (2, .ref (g 0)), (3, .ref (g 1)), (4, .ref (g 2)), (5, .ref (g 3)), (6, .ref (g 4)), (7, .ref (g 5)), (8, .ref (g 6)), (11, .int (nI ((erl fw (nI b9) dl nj)))), (12, .int (nI (((wl fw (nI b9) nj).length)))), (13, .int (nI (aa))), (19, .int (nI ((erl fw (nI aa) dl nj)))), (20, .int (nI (k)))]) hx hb dL_tells_398 hl (by decide) rfl (fun ls hl => ?_)
                            refine lv_iload hx hb dL_tells_400 (lv_at hl 16 rfl) ?_
                            refine lv_istore (lv' := [(11, .int (nI ((erl fw (nI aa) dl nj)))), (10, .int (nI (aa))), (15, .int (nI ((wl fw (nI aa) nj).length))), (14, .int (bI (true))), (9, .ref lz), (0, .ref (ad 0)), (1, .int (y)), (2, .ref (g 0)), (3, .ref (g 1)), (4, .ref (g 2)), (5, .ref (g 3)), (6, .ref (g 4)), (7, .ref (g 5)), (8, .ref (g 6)), (12, .int (nI (((wl fw (nI b9) nj).length)))), (13, .int (nI (aa))), (19, .int (nI ((erl fw (nI aa) dl nj)))), (20, .int (nI (k)))]) hx hb dL_tells_402 hl (by decide) rfl (fun ls hl => ?_)
                            refine lv_iload hx hb dL_tells_404 (lv_at hl 2 rfl) ?_
                            refine lv_istore (lv' := [(12, .int (nI ((wl fw (nI aa) nj).length))), (11, .int (nI ((erl fw (nI aa) dl nj)))), (10, .int (nI (aa))), (15, .int (nI ((wl fw (nI aa) nj).length))), (14, .int (bI (true))), (9, .ref lz), (0, .ref (ad 0)), (1, .int (y)), (2, .ref (g 0)), (3, .ref (g 1)), (4, .ref (g 2)), (5, .ref (g 3)), (6, .ref (g 4)), (7, .ref (g 5)), (8, .ref (g 6)), (13, .int (nI (aa))), (19, .int (nI ((erl fw (nI aa) dl nj)))), (20, .int (nI (k)))]) hx hb dL_tells_406 hl (by decide) rfl (fun ls hl => ?_)
                            exact J408 (nI (aa), nI ((erl fw (nI aa) dl nj)), nI ((wl fw (nI aa) nj).length)) ls ⟨lv_sub hl [5, 6, 7, 8, 9, 10, 11, 12, 13, 14, 15, 2, 1, 0] rfl, by
                              have e : (nxt mo la (fun q9 => (wl fw (nI q9) nj).length) (fun q9 => erl fw (nI q9) dl nj) (aa + 1)) = some aa := by first | exact nxt_lt (by rw [hmo]; rfl) hla h0l hnx9 (by omega) | exact nxt_eq (by rw [hmo]; rfl) hla h0l hnx9 (by omega) (by omega)
                              rw [e]; exact ⟨rfl, fun b9 h => by cases h; exact ⟨rfl, rfl⟩⟩⟩
                  · obtain ⟨x9, hxe⟩ : ∃ z, z = (wl fw (nI aa) nj).getD k 0 := ⟨_, rfl⟩
                    have hum : (colF Lf (wl fw (nI aa) nj)) k = nI x9 := by rw [hxe]; exact colF_in (by omega)
                    have hxn := (wl_mem (show x9 ∈ (wl fw (nI aa) nj) by rw [hxe]; exact getD_mem (by omega))).1
                    obtain ⟨xq1, xq2, xq3, xq4, xq5, xq6, xq7⟩ := qJ x9 hxn
                    have hd9 := hIdl x9
                    refine lv_aload hx hb dL_tells_336 (lv_at hl 10 rfl) ?_
                    refine lv_aload hx hb dL_tells_338 (lv_at hl 2 rfl) ?_
                    refine lv_iload hx hb dL_tells_340 (lv_at hl 17 rfl) ?_
                    refine va_iald hx hb hZ.1 hP 0 0 rfl rfl (vp_in_nI (show k < 20 by omega) (by omega)) dL_tells_342 ?_
                    rw [nI_clamp (show k < 2 ^ 31 by omega)]
                    refine zx_val (y := nI (x9)) (hum) ?_
                    refine va_iald hx hb hZ.1 hP 6 0 rfl rfl (vp_in_nI (show x9 < 20 by omega) (by omega)) dL_tells_343 ?_
                    rw [nI_clamp (show x9 < 2 ^ 31 by omega)]
                    refine zx_val (y := nI (dl x9)) (xq5) ?_
                    refine lv_iload hx hb dL_tells_344 (lv_at hl 16 rfl) ?_
                    refine z_join (α := Nat) (pc' := 362) (fun v ls => lv_has ls 21 [(15, .int (nI ((wl fw (nI aa) nj).length))), (14, .int (bI (true))), (9, .ref lz), (0, .ref (ad 0)), (1, .int (y)), (2, .ref (g 0)), (3, .ref (g 1)), (4, .ref (g 2)), (5, .ref (g 3)), (6, .ref (g 4)), (7, .ref (g 5)), (8, .ref (g 6)), (10, .int (nx)), (11, .int (fs)), (12, .int (ms9)), (13, .int (nI (aa))), (19, .int (nI (er))), (20, .int (nI (k)))] ∧ v = min er (dl x9)) (fun v => [.int (nI (v))]) ?_ (fun J362 => ?_)
                    · intro ev ls hv
                      obtain ⟨hl, hI362⟩ := hv
                      have hl : lv_has ls 21 [(15, .int (nI ((wl fw (nI aa) nj).length))), (14, .int (bI (true))), (9, .ref lz), (0, .ref (ad 0)), (1, .int (y)), (2, .ref (g 0)), (3, .ref (g 1)), (4, .ref (g 2)), (5, .ref (g 3)), (6, .ref (g 4)), (7, .ref (g 5)), (8, .ref (g 6)), (10, .int (nx)), (11, .int (fs)), (12, .int (ms9)), (13, .int (nI (aa))), (19, .int (nI (er))), (20, .int (nI (k)))] := hl
                      have hI362 : ev = min er (dl x9) := hI362
                      refine lv_istore (lv' := [(19, .int (nI (ev))), (15, .int (nI ((wl fw (nI aa) nj).length))), (14, .int (bI (true))), (9, .ref lz), (0, .ref (ad 0)), (1, .int (y)), (2, .ref (g 0)), (3, .ref (g 1)), (4, .ref (g 2)), (5, .ref (g 3)), (6, .ref (g 4)), (7, .ref (g 5)), (8, .ref (g 6)), (10, .int (nx)), (11, .int (fs)), (12, .int (ms9)), (13, .int (nI (aa))), (20, .int (nI (k)))]) hx hb dL_tells_362 hl (by decide) rfl (fun ls hl => ?_)
                      refine lv_iinc (v := nI (k + 1)) (lv' := [(20, .int (nI (k + 1))), (19, .int (nI (ev))), (15, .int (nI ((wl fw (nI aa) nj).length))), (14, .int (bI (true))), (9, .ref lz), (0, .ref (ad 0)), (1, .int (y)), (2, .ref (g 0)), (3, .ref (g 1)), (4, .ref (g 2)), (5, .ref (g 3)), (6, .ref (g 4)), (7, .ref (g 5)), (8, .ref (g 6)), (10, .int (nx)), (11, .int (fs)), (12, .int (ms9)), (13, .int (nI (aa)))]) hx hb dL_tells_364 hl (k := 17) rfl (zinc 1 _) (by decide) rfl (fun ls hl => ?_)
                      refine lv_goto (tgt := 329) hx hb dL_tells_367 (by decide) ?_
                      exact ih329 (ev, k + 1) ls (by first | omega | (dsimp only; omega)) ⟨lv_sub hl [2, 3, 4, 5, 6, 7, 8, 9, 10, 11, 12, 13, 14, 15, 16, 17, 1, 0] rfl, ⟨by dsimp only; rw [ear_s (by first | omega | (dsimp only; omega) | (dsimp only at *; omega)), ← her, ← hxe]; exact hI362, by dsimp only; omega⟩⟩
                    · skip
                      refine zc_ge (tgt := 360) hx hb (by omega) (by omega) dL_tells_346 (by decide) (fun c_38 => ?_) (fun c_38 => ?_)
                      · refine lv_iload hx hb dL_tells_360 (lv_at hl 16 rfl) ?_
                        exact J362 (er) ls ⟨lv_sub hl [0, 1, 2, 3, 4, 5, 6, 7, 8, 9, 10, 11, 12, 13, 14, 15, 16, 17] rfl, by omega⟩
                      · refine lv_aload hx hb dL_tells_349 (lv_at hl 10 rfl) ?_
                        refine lv_aload hx hb dL_tells_351 (lv_at hl 2 rfl) ?_
                        refine lv_iload hx hb dL_tells_353 (lv_at hl 17 rfl) ?_
                        refine va_iald hx hb hZ.1 hP 0 0 rfl rfl (vp_in_nI (show k < 20 by omega) (by omega)) dL_tells_355 ?_
                        rw [nI_clamp (show k < 2 ^ 31 by omega)]
                        refine zx_val (y := nI (x9)) (hum) ?_
                        refine va_iald hx hb hZ.1 hP 6 0 rfl rfl (vp_in_nI (show x9 < 20 by omega) (by omega)) dL_tells_356 ?_
                        rw [nI_clamp (show x9 < 2 ^ 31 by omega)]
                        refine zx_val (y := nI (dl x9)) (xq5) ?_
                        refine lv_goto (tgt := 362) hx hb dL_tells_357 (by decide) ?_
                        exact J362 (dl x9) ls ⟨lv_sub hl [0, 1, 2, 3, 4, 5, 6, 7, 8, 9, 10, 11, 12, 13, 14, 15, 16, 17] rfl, by omega⟩
              · have qm : tf (12 + aa) = nI j0 := by rw [qa4, hmo]; rfl
                have hj9 := (t6 j0 hmo).1
                refine lv_aload_n hx hb dL_tells_302 rfl (lv_at hl 6 rfl) ?_
                refine lv_bipush (v := nI (12)) hx hb dL_tells_303 (by decide) ?_
                refine lv_iload hx hb dL_tells_305 (lv_at hl 15 rfl) ?_
                refine zo_add hx hb dL_tells_307 ?_
                refine va_iald hx hb hZ.1 hP 2 0 rfl rfl (vp_in_nI (show 12 + aa < 24 by omega) (by omega)) dL_tells_308 ?_
                rw [nI_clamp (show 12 + aa < 2 ^ 31 by omega)]
                refine zx_val (y := nI (j0)) (qm) ?_
                refine zf_ge (tgt := 408) hx hb (by omega) dL_tells_309 (by decide) ?_
                exact J408 (nx, fs, ms9) ls ⟨lv_sub hl [2, 3, 4, 5, 6, 7, 8, 9, 10, 11, 15, 12, 13, 14] rfl, by
                  have e : (nxt mo la (fun q9 => (wl fw (nI q9) nj).length) (fun q9 => erl fw (nI q9) dl nj) (aa + 1)) = (nxt mo la (fun q9 => (wl fw (nI q9) nj).length) (fun q9 => erl fw (nI q9) dl nj) aa) := nxt_mo (by rw [hmo]; rfl)
                  rw [e]; exact ⟨hnx, hfs⟩⟩
        · skip
          rcases Nat.lt_or_ge qf (fc aa) with hqf | hqf
          · rcases hVp with hvp1 | ⟨pp, hpq9, hvp1⟩
            · rw [hvp1] at hl
              refine lv_iload hx hb dL_tells_180 (lv_at hl 3 rfl) ?_
              refine zb_eq (tgt := 210) hx hb dL_tells_182 (by decide) (fun c_40 => Bool.noConfusion c_40) (fun c_40 => ?_)
              refine lv_iload hx hb dL_tells_185 (lv_at hl 0 rfl) ?_
              refine lv_if_lt (tgt := 210) hx hb dL_tells_187 (by decide) (fun c_41 => ?_) (fun c_41 => absurd (by decide) c_41)
              refine lv_iconst (v := bI (false)) hx hb dL_tells_210 (by decide) ?_
              refine lv_istore (lv' := [(18, .int (bI (false))), (17, .int ((-1))), (16, .int (nI (qf))), (15, .int (nI ((wl fw (nI aa) nj).length))), (14, .int (bI (true))), (9, .ref lz), (0, .ref (ad 0)), (1, .int (y)), (2, .ref (g 0)), (3, .ref (g 1)), (4, .ref (g 2)), (5, .ref (g 3)), (6, .ref (g 4)), (7, .ref (g 5)), (8, .ref (g 6)), (10, .int (nx)), (11, .int (fs)), (12, .int (ms9)), (13, .int (nI (aa)))]) hx hb dL_tells_211 hl (by decide) rfl (fun ls hl => ?_)
              refine lv_aload_n hx hb dL_tells_213 rfl (lv_at hl 6 rfl) ?_
              refine lv_iconst (v := nI (2)) hx hb dL_tells_214 (by decide) ?_
              refine lv_iload hx hb dL_tells_215 (lv_at hl 18 rfl) ?_
              refine lv_iload hx hb dL_tells_217 (lv_at hl 2 rfl) ?_
              refine ze_H_i (n := 4) (mc := 2) (ms := 12) (ws := cw) (es := [(lz, zInts cA 20 (colF Lf (wl fw (nI aa) nj))), (g 0, zInts cA 4 cf), (g 1, zInts cA 24 tf), (g 2, zInts cA 24 ff), (g 3, zInts cA 10 vf), (g 4, zInts cA 40 jj), (g 5, zInts cA 20 lt), (g 6, zInts cA 20 dd)]) (As := [.ref (ad 0), .int (nI (2)), .int (nI (aa)), .int (nI (qf))]) (rest := []) hx hb hml hts hown hZ hX hN [0, 1, 2, 3, 4, 5, 6, 7] rfl rfl hP hD hS hA (c_L_told_2 l D cA _ cw (ad 0) _ l0 _ _ _ _ (k1b (ix (nI (aa)) n) (fun t => ix (nI (qf)) (fc t))) (nI (aa)) (nI (qf)) (fun sz9 => c_X4_start l hlt D cA sz9 cw ad T Bd E PT PB PE n tr le sl mo la fc bo nd mk ck ct hd pq nj fw jf dl dn oc s8 s9 s10 s11 s12 hL hI (nI (aa)) (nI (qf))) (fun _ _ h => h)) gL_tells_L_told rfl ⟨rfl, rfl⟩ ⟨by decide +kernel, (Nat.le_of_ble_eq_true rfl), (Nat.le_of_ble_eq_true rfl)⟩ hl.1 rfl (Nat.le_of_ble_eq_true rfl) ⟨by show _ ≤ 96; omega, by show _ ≤ 700; omega⟩ rfl dL_tells_219 (fun r9 u9 H locs hp9 hP hD hS hz => ?_)
              rcases u9 with ⟨t9, f9⟩ | u9
              · dsimp only [zwP] at hp9
                obtain ⟨htn, hv0, hfn, hv1, hr9⟩ := hp9
                have e9 := (nI_eq (by omega) (by omega)).mp hv0
                subst e9
                have e8 := (nI_eq (by omega) (by omega)).mp hv1
                subst e8; subst hr9
                have hP : va_P D vwCl ((lz, zInts cA 20 (colF Lf (wl fw (nI aa) nj))) :: (g 0, zInts cA 4 cf) :: (g 1, zInts cA 24 tf) :: (g 2, zInts cA 24 ff) :: (g 3, zInts cA 10 vf) :: (g 4, zInts cA 40 jj) :: (g 5, zInts cA 20 lt) :: (g 6, zInts cA 20 dd) :: cw) H := hP
                have hD : va_D A ((lz, zInts cA 20 (colF Lf (wl fw (nI aa) nj))) :: (g 0, zInts cA 4 cf) :: (g 1, zInts cA 24 tf) :: (g 2, zInts cA 24 ff) :: (g 3, zInts cA 10 vf) :: (g 4, zInts cA 40 jj) :: (g 5, zInts cA 20 lt) :: (g 6, zInts cA 20 dd) :: cw) := hD
                refine lv_iload hx hb dL_tells_222 (lv_at hl 4 rfl) ?_
                refine zb_eq (tgt := 251) hx hb dL_tells_224 (by decide) (fun c_42 => Bool.noConfusion c_42) (fun c_42 => ?_)
                refine lv_iload hx hb dL_tells_227 (lv_at hl 2 rfl) ?_
                refine lv_aload_n hx hb dL_tells_229 rfl (lv_at hl 9 rfl) ?_
                refine lv_bipush (v := nI (20)) hx hb dL_tells_230 (by decide) ?_
                refine lv_iload hx hb dL_tells_232 (lv_at hl 18 rfl) ?_
                refine zo_add hx hb dL_tells_234 ?_
                refine va_iald hx hb hZ.1 hP 2 0 rfl rfl (vp_in_nI (show 20 + aa < 24 by omega) (by omega)) dL_tells_235 ?_
                rw [nI_clamp (show 20 + aa < 2 ^ 31 by omega)]
                refine zx_val (y := nI (fc aa)) (qa6) ?_
                refine zc_ge (tgt := 251) hx hb (by omega) (by omega) dL_tells_236 (by decide) (fun c_43 => False.elim (by omega)) (fun c_43 => ?_)
                refine lv_aload hx hb dL_tells_239 (lv_at hl 10 rfl) ?_
                refine lv_iload hx hb dL_tells_241 (lv_at hl 18 rfl) ?_
                refine lv_iload hx hb dL_tells_243 (lv_at hl 2 rfl) ?_
                refine zk_S_i (n := 3) (As := [.ref (g 2), .int (nI (aa)), .int (nI (qf))]) (rest := [.int (nI (bo aa qf))]) hx hb hml hts hown hZ hP (c_L_start l D cA ((lz, zInts cA 20 (colF Lf (wl fw (nI aa) nj))) :: (g 0, zInts cA 4 cf) :: (g 1, zInts cA 24 tf) :: (g 2, zInts cA 24 ff) :: (g 3, zInts cA 10 vf) :: (g 4, zInts cA 40 jj) :: (g 5, zInts cA 20 lt) :: (g 6, zInts cA 20 dd) :: cw) 3 (g 2) ff rfl aa qf (bo aa) t8 (fun k hk => ⟨Nat.le_of_lt (t9x k (by omega)), qF aa hat k (by omega)⟩) (by omega)) gL_tells_L_start rfl ⟨rfl, rfl⟩ ⟨by decide +kernel, (Nat.le_of_ble_eq_true rfl), (Nat.le_of_ble_eq_true rfl)⟩ hl.1 rfl (Nat.le_of_ble_eq_true rfl) ⟨by show _ ≤ 96; omega, by show _ ≤ 700; omega⟩ rfl dL_tells_245 (fun r1 hr1 => ?_)
                obtain rfl := show r1 = nI (bo aa qf) from hr1
                refine lv_goto (tgt := 253) hx hb dL_tells_248 (by decide) ?_
                refine lv_icmp_ne (tgt := 290) hx hb dL_tells_253 (by decide) (fun c_44 => absurd rfl c_44) (fun c_44 => ?_)
                refine lv_aload_n hx hb dL_tells_256 rfl (lv_at hl 6 rfl) ?_
                refine lv_iconst (v := nI (3)) hx hb dL_tells_257 (by decide) ?_
                refine lv_iload hx hb dL_tells_258 (lv_at hl 18 rfl) ?_
                refine lv_iload hx hb dL_tells_260 (lv_at hl 1 rfl) ?_
                refine ze_H_i (n := 4) (mc := 2) (ms := 12) (ws := cw) (es := [(lz, zInts cA 20 (colF Lf (wl fw (nI aa) nj))), (g 0, zInts cA 4 cf), (g 1, zInts cA 24 tf), (g 2, zInts cA 24 ff), (g 3, zInts cA 10 vf), (g 4, zInts cA 40 jj), (g 5, zInts cA 20 lt), (g 6, zInts cA 20 dd)]) (As := [.ref (ad 0), .int (nI (3)), .int (nI (aa)), .int ((-1))]) (rest := []) hx hb hml hts hown hZ hX hN [0, 1, 2, 3, 4, 5, 6, 7] rfl rfl hP hD hS hA (c_L_told_3 l D cA _ cw (ad 0) _ l0 _ _ _ _ (k1b (ix (nI (aa)) n) (fun t => ix ((-1)) (tr t * le t))) (nI (aa)) ((-1)) (fun sz9 => c_X4_along l hlt D cA sz9 cw ad T Bd E PT PB PE n tr le sl mo la fc bo nd mk ck ct hd pq nj fw jf dl dn oc s8 s9 s10 s11 s12 hL hI (nI (aa)) ((-1))) (fun _ _ h => h)) gL_tells_L_told rfl ⟨rfl, rfl⟩ ⟨by decide +kernel, (Nat.le_of_ble_eq_true rfl), (Nat.le_of_ble_eq_true rfl)⟩ hl.1 rfl (Nat.le_of_ble_eq_true rfl) ⟨by show _ ≤ 96; omega, by show _ ≤ 700; omega⟩ rfl dL_tells_262 (fun r9 u9 H locs hp9 hP hD hS hz => ?_)
                rcases u9 with ⟨t9, q9⟩ | u9
                · dsimp only [zwP] at hp9
                  obtain ⟨htn, hv0, hqn, hv1, hr9⟩ := hp9
                  have e9 := (nI_eq (by omega) (by omega)).mp hv0
                  subst e9
                  exact absurd hv1.symm (nI_nm1 (by omega))
                · dsimp only [zwP] at hp9
                  obtain ⟨hr9, hK9, E9, hE9⟩ := hp9
                  have hr9 : r9 = (-101) := by rw [hr9, show (k1b (ix (nI (aa)) n) (fun t => ix ((-1)) (tr t * le t))) = 1 from k1b_2 (ix_in (by omega) hat) (ix_neg (by decide))]; rfl
                  subst hr9
                  have hP : va_P D vwCl ((lz, zInts cA 20 (colF Lf (wl fw (nI aa) nj))) :: (g 0, zInts cA 4 cf) :: (g 1, zInts cA 24 tf) :: (g 2, zInts cA 24 ff) :: (g 3, zInts cA 10 vf) :: (g 4, zInts cA 40 jj) :: (g 5, zInts cA 20 lt) :: (g 6, zInts cA 20 dd) :: cw) H := hP
                  have hD : va_D A ((lz, zInts cA 20 (colF Lf (wl fw (nI aa) nj))) :: (g 0, zInts cA 4 cf) :: (g 1, zInts cA 24 tf) :: (g 2, zInts cA 24 ff) :: (g 3, zInts cA 10 vf) :: (g 4, zInts cA 40 jj) :: (g 5, zInts cA 20 lt) :: (g 6, zInts cA 20 dd) :: cw) := hD
                  refine lv_iload hx hb dL_tells_265 (lv_at hl 0 rfl) ?_
                  refine zb_eq (tgt := 285) hx hb dL_tells_267 (by decide) (fun c_45 => ?_) (fun c_45 => Bool.noConfusion c_45)
                  refine lv_bipush (v := (-101)) hx hb dL_tells_285 (by decide) ?_
                  refine lv_icmp_eq (tgt := 292) hx hb dL_tells_287 (by decide) (fun c_46 => ?_) (fun c_46 => absurd rfl c_46)
                  refine W.widen (k := 1 + 8 * aa + 7) (n := 20 + 60 * aa + 42) (by omega) (by omega) ?_
                  exact J292 () H locs ls ⟨lv_sub hl [3, 4, 5, 6, 7, 8, 9, 10, 11, 12, 13, 14, 15, 16, 17, 18] rfl, hP, hD, hS⟩
              · exact absurd (show (k1b (ix (nI (aa)) n) (fun t => ix (nI (qf)) (fc t))) = 0 from k1b_0 (ix_in (by omega) hat) (ix_in (by omega) hqf)) hp9.2.1
            · rw [hvp1] at hl
              rcases Nat.lt_or_ge pp (tr aa * le aa) with hpp9 | hpp9
              · have hll := lies_le (tr := tr aa) (le := le aa) (p := pp) (by omega) (by omega) t4 t2
                obtain ⟨hlm, -⟩ := lies_mod (tr := tr aa) (le := le aa) (p := pp) (by omega) t4
                refine lv_iload hx hb dL_tells_180 (lv_at hl 3 rfl) ?_
                refine zb_eq (tgt := 210) hx hb dL_tells_182 (by decide) (fun c_47 => Bool.noConfusion c_47) (fun c_47 => ?_)
                refine lv_iload hx hb dL_tells_185 (lv_at hl 0 rfl) ?_
                refine zf_lt (tgt := 210) hx hb (by omega) dL_tells_187 (by decide) ?_
                refine lv_iload hx hb dL_tells_190 (lv_at hl 0 rfl) ?_
                refine lv_aload_n hx hb dL_tells_192 rfl (lv_at hl 8 rfl) ?_
                refine lv_iload hx hb dL_tells_193 (lv_at hl 17 rfl) ?_
                refine va_iald hx hb hZ.1 hP 2 0 rfl rfl (vp_in_nI (show aa < 24 by omega) (by omega)) dL_tells_195 ?_
                rw [nI_clamp (show aa < 2 ^ 31 by omega)]
                refine zx_val (y := nI (tr aa)) (qa1) ?_
                refine lv_aload_n hx hb dL_tells_196 rfl (lv_at hl 8 rfl) ?_
                refine lv_iconst (v := nI (4)) hx hb dL_tells_197 (by decide) ?_
                refine lv_iload hx hb dL_tells_198 (lv_at hl 17 rfl) ?_
                refine zo_add hx hb dL_tells_200 ?_
                refine va_iald hx hb hZ.1 hP 2 0 rfl rfl (vp_in_nI (show 4 + aa < 24 by omega) (by omega)) dL_tells_201 ?_
                rw [nI_clamp (show 4 + aa < 2 ^ 31 by omega)]
                refine zx_val (y := nI (le aa)) (qa2) ?_
                refine zo_mul hx hb dL_tells_202 ?_
                refine zc_ge (tgt := 210) hx hb (by omega) (by omega) dL_tells_203 (by decide) (fun c_49 => False.elim (by omega)) (fun c_49 => ?_)
                refine lv_iconst (v := bI (true)) hx hb dL_tells_206 (by decide) ?_
                refine lv_goto (tgt := 211) hx hb dL_tells_207 (by decide) ?_
                refine lv_istore (lv' := [(18, .int (bI (true))), (17, .int (nI (pp))), (16, .int (nI (qf))), (15, .int (nI ((wl fw (nI aa) nj).length))), (14, .int (bI (true))), (9, .ref lz), (0, .ref (ad 0)), (1, .int (y)), (2, .ref (g 0)), (3, .ref (g 1)), (4, .ref (g 2)), (5, .ref (g 3)), (6, .ref (g 4)), (7, .ref (g 5)), (8, .ref (g 6)), (10, .int (nx)), (11, .int (fs)), (12, .int (ms9)), (13, .int (nI (aa)))]) hx hb dL_tells_211 hl (by decide) rfl (fun ls hl => ?_)
                refine lv_aload_n hx hb dL_tells_213 rfl (lv_at hl 6 rfl) ?_
                refine lv_iconst (v := nI (2)) hx hb dL_tells_214 (by decide) ?_
                refine lv_iload hx hb dL_tells_215 (lv_at hl 18 rfl) ?_
                refine lv_iload hx hb dL_tells_217 (lv_at hl 2 rfl) ?_
                refine ze_H_i (n := 4) (mc := 2) (ms := 12) (ws := cw) (es := [(lz, zInts cA 20 (colF Lf (wl fw (nI aa) nj))), (g 0, zInts cA 4 cf), (g 1, zInts cA 24 tf), (g 2, zInts cA 24 ff), (g 3, zInts cA 10 vf), (g 4, zInts cA 40 jj), (g 5, zInts cA 20 lt), (g 6, zInts cA 20 dd)]) (As := [.ref (ad 0), .int (nI (2)), .int (nI (aa)), .int (nI (qf))]) (rest := []) hx hb hml hts hown hZ hX hN [0, 1, 2, 3, 4, 5, 6, 7] rfl rfl hP hD hS hA (c_L_told_2 l D cA _ cw (ad 0) _ l0 _ _ _ _ (k1b (ix (nI (aa)) n) (fun t => ix (nI (qf)) (fc t))) (nI (aa)) (nI (qf)) (fun sz9 => c_X4_start l hlt D cA sz9 cw ad T Bd E PT PB PE n tr le sl mo la fc bo nd mk ck ct hd pq nj fw jf dl dn oc s8 s9 s10 s11 s12 hL hI (nI (aa)) (nI (qf))) (fun _ _ h => h)) gL_tells_L_told rfl ⟨rfl, rfl⟩ ⟨by decide +kernel, (Nat.le_of_ble_eq_true rfl), (Nat.le_of_ble_eq_true rfl)⟩ hl.1 rfl (Nat.le_of_ble_eq_true rfl) ⟨by show _ ≤ 96; omega, by show _ ≤ 700; omega⟩ rfl dL_tells_219 (fun r9 u9 H locs hp9 hP hD hS hz => ?_)
                rcases u9 with ⟨t9, f9⟩ | u9
                · dsimp only [zwP] at hp9
                  obtain ⟨htn, hv0, hfn, hv1, hr9⟩ := hp9
                  have e9 := (nI_eq (by omega) (by omega)).mp hv0
                  subst e9
                  have e8 := (nI_eq (by omega) (by omega)).mp hv1
                  subst e8; subst hr9
                  have hP : va_P D vwCl ((lz, zInts cA 20 (colF Lf (wl fw (nI aa) nj))) :: (g 0, zInts cA 4 cf) :: (g 1, zInts cA 24 tf) :: (g 2, zInts cA 24 ff) :: (g 3, zInts cA 10 vf) :: (g 4, zInts cA 40 jj) :: (g 5, zInts cA 20 lt) :: (g 6, zInts cA 20 dd) :: cw) H := hP
                  have hD : va_D A ((lz, zInts cA 20 (colF Lf (wl fw (nI aa) nj))) :: (g 0, zInts cA 4 cf) :: (g 1, zInts cA 24 tf) :: (g 2, zInts cA 24 ff) :: (g 3, zInts cA 10 vf) :: (g 4, zInts cA 40 jj) :: (g 5, zInts cA 20 lt) :: (g 6, zInts cA 20 dd) :: cw) := hD
                  refine lv_iload hx hb dL_tells_222 (lv_at hl 4 rfl) ?_
                  refine zb_eq (tgt := 251) hx hb dL_tells_224 (by decide) (fun c_50 => Bool.noConfusion c_50) (fun c_50 => ?_)
                  refine lv_iload hx hb dL_tells_227 (lv_at hl 2 rfl) ?_
                  refine lv_aload_n hx hb dL_tells_229 rfl (lv_at hl 9 rfl) ?_
                  refine lv_bipush (v := nI (20)) hx hb dL_tells_230 (by decide) ?_
                  refine lv_iload hx hb dL_tells_232 (lv_at hl 18 rfl) ?_
                  refine zo_add hx hb dL_tells_234 ?_
                  refine va_iald hx hb hZ.1 hP 2 0 rfl rfl (vp_in_nI (show 20 + aa < 24 by omega) (by omega)) dL_tells_235 ?_
                  rw [nI_clamp (show 20 + aa < 2 ^ 31 by omega)]
                  refine zx_val (y := nI (fc aa)) (qa6) ?_
                  refine zc_ge (tgt := 251) hx hb (by omega) (by omega) dL_tells_236 (by decide) (fun c_51 => False.elim (by omega)) (fun c_51 => ?_)
                  refine lv_aload hx hb dL_tells_239 (lv_at hl 10 rfl) ?_
                  refine lv_iload hx hb dL_tells_241 (lv_at hl 18 rfl) ?_
                  refine lv_iload hx hb dL_tells_243 (lv_at hl 2 rfl) ?_
                  refine zk_S_i (n := 3) (As := [.ref (g 2), .int (nI (aa)), .int (nI (qf))]) (rest := [.int (nI (bo aa qf))]) hx hb hml hts hown hZ hP (c_L_start l D cA ((lz, zInts cA 20 (colF Lf (wl fw (nI aa) nj))) :: (g 0, zInts cA 4 cf) :: (g 1, zInts cA 24 tf) :: (g 2, zInts cA 24 ff) :: (g 3, zInts cA 10 vf) :: (g 4, zInts cA 40 jj) :: (g 5, zInts cA 20 lt) :: (g 6, zInts cA 20 dd) :: cw) 3 (g 2) ff rfl aa qf (bo aa) t8 (fun k hk => ⟨Nat.le_of_lt (t9x k (by omega)), qF aa hat k (by omega)⟩) (by omega)) gL_tells_L_start rfl ⟨rfl, rfl⟩ ⟨by decide +kernel, (Nat.le_of_ble_eq_true rfl), (Nat.le_of_ble_eq_true rfl)⟩ hl.1 rfl (Nat.le_of_ble_eq_true rfl) ⟨by show _ ≤ 96; omega, by show _ ≤ 700; omega⟩ rfl dL_tells_245 (fun r2 hr2 => ?_)
                  obtain rfl := show r2 = nI (bo aa qf) from hr2
                  refine lv_goto (tgt := 253) hx hb dL_tells_248 (by decide) ?_
                  refine lv_icmp_ne (tgt := 290) hx hb dL_tells_253 (by decide) (fun c_52 => absurd rfl c_52) (fun c_52 => ?_)
                  refine lv_aload_n hx hb dL_tells_256 rfl (lv_at hl 6 rfl) ?_
                  refine lv_iconst (v := nI (3)) hx hb dL_tells_257 (by decide) ?_
                  refine lv_iload hx hb dL_tells_258 (lv_at hl 18 rfl) ?_
                  refine lv_iload hx hb dL_tells_260 (lv_at hl 1 rfl) ?_
                  refine ze_H_i (n := 4) (mc := 2) (ms := 12) (ws := cw) (es := [(lz, zInts cA 20 (colF Lf (wl fw (nI aa) nj))), (g 0, zInts cA 4 cf), (g 1, zInts cA 24 tf), (g 2, zInts cA 24 ff), (g 3, zInts cA 10 vf), (g 4, zInts cA 40 jj), (g 5, zInts cA 20 lt), (g 6, zInts cA 20 dd)]) (As := [.ref (ad 0), .int (nI (3)), .int (nI (aa)), .int (nI (pp))]) (rest := []) hx hb hml hts hown hZ hX hN [0, 1, 2, 3, 4, 5, 6, 7] rfl rfl hP hD hS hA (c_L_told_3 l D cA _ cw (ad 0) _ l0 _ _ _ _ (k1b (ix (nI (aa)) n) (fun t => ix (nI (pp)) (tr t * le t))) (nI (aa)) (nI (pp)) (fun sz9 => c_X4_along l hlt D cA sz9 cw ad T Bd E PT PB PE n tr le sl mo la fc bo nd mk ck ct hd pq nj fw jf dl dn oc s8 s9 s10 s11 s12 hL hI (nI (aa)) (nI (pp))) (fun _ _ h => h)) gL_tells_L_told rfl ⟨rfl, rfl⟩ ⟨by decide +kernel, (Nat.le_of_ble_eq_true rfl), (Nat.le_of_ble_eq_true rfl)⟩ hl.1 rfl (Nat.le_of_ble_eq_true rfl) ⟨by show _ ≤ 96; omega, by show _ ≤ 700; omega⟩ rfl dL_tells_262 (fun r9 u9 H locs hp9 hP hD hS hz => ?_)
                  rcases u9 with ⟨t9, q9⟩ | u9
                  · dsimp only [zwP] at hp9
                    obtain ⟨htn, hv0, hqn, hv1, hr9⟩ := hp9
                    have e9 := (nI_eq (by omega) (by omega)).mp hv0
                    subst e9
                    have e8 := (nI_eq (by omega) (by omega)).mp hv1
                    subst e8; subst hr9
                    have hP : va_P D vwCl ((lz, zInts cA 20 (colF Lf (wl fw (nI aa) nj))) :: (g 0, zInts cA 4 cf) :: (g 1, zInts cA 24 tf) :: (g 2, zInts cA 24 ff) :: (g 3, zInts cA 10 vf) :: (g 4, zInts cA 40 jj) :: (g 5, zInts cA 20 lt) :: (g 6, zInts cA 20 dd) :: cw) H := hP
                    have hD : va_D A ((lz, zInts cA 20 (colF Lf (wl fw (nI aa) nj))) :: (g 0, zInts cA 4 cf) :: (g 1, zInts cA 24 tf) :: (g 2, zInts cA 24 ff) :: (g 3, zInts cA 10 vf) :: (g 4, zInts cA 40 jj) :: (g 5, zInts cA 20 lt) :: (g 6, zInts cA 20 dd) :: cw) := hD
                    refine lv_iload hx hb dL_tells_265 (lv_at hl 0 rfl) ?_
                    refine zb_eq (tgt := 285) hx hb dL_tells_267 (by decide) (fun c_53 => Bool.noConfusion c_53) (fun c_53 => ?_)
                    refine lv_aload_n hx hb dL_tells_270 rfl (lv_at hl 9 rfl) ?_
                    refine lv_iload hx hb dL_tells_271 (lv_at hl 18 rfl) ?_
                    refine lv_iload hx hb dL_tells_273 (lv_at hl 1 rfl) ?_
                    refine zk_S_i (n := 3) (As := [.ref (g 1), .int (nI (aa)), .int (nI (pp))]) (rest := [.int (nI (alo (tr aa) (le aa) pp))]) hx hb hml hts hown hZ hP (c_L_lies l D cA ((lz, zInts cA 20 (colF Lf (wl fw (nI aa) nj))) :: (g 0, zInts cA 4 cf) :: (g 1, zInts cA 24 tf) :: (g 2, zInts cA 24 ff) :: (g 3, zInts cA 10 vf) :: (g 4, zInts cA 40 jj) :: (g 5, zInts cA 20 lt) :: (g 6, zInts cA 20 dd) :: cw) 2 (g 1) tf rfl aa pp (tr aa) (le aa) qa1 qa2 t1 (by omega) t2 t4 (by omega) (by omega)) gL_tells_L_lies rfl ⟨rfl, rfl⟩ ⟨by decide +kernel, (Nat.le_of_ble_eq_true rfl), (Nat.le_of_ble_eq_true rfl)⟩ hl.1 rfl (Nat.le_of_ble_eq_true rfl) ⟨by show _ ≤ 96; omega, by show _ ≤ 700; omega⟩ rfl dL_tells_275 (fun r3 hr3 => ?_)
                    obtain rfl := show r3 = nI (lies (tr aa) (le aa) pp) from hr3
                    refine lv_sipush (v := nI (1000)) hx hb dL_tells_278 (by decide) ?_
                    refine zo_rem hx hb (by omega) (by omega) (by omega) dL_tells_281 ?_
                    refine zx_val (y := nI (alo (tr aa) (le aa) pp)) (by rw [hlm]) ?_
                    refine lv_goto (tgt := 287) hx hb dL_tells_282 (by decide) ?_
                    refine lv_icmp_eq (tgt := 292) hx hb dL_tells_287 (by decide) (fun c_54 => ?_) (fun c_54 => absurd rfl c_54)
                    refine W.widen (k := 1 + 8 * aa + 7) (n := 20 + 60 * aa + 42) (by omega) (by omega) ?_
                    exact J292 () H locs ls ⟨lv_sub hl [3, 4, 5, 6, 7, 8, 9, 10, 11, 12, 13, 14, 15, 16, 17, 18] rfl, hP, hD, hS⟩
                  · exact absurd (show (k1b (ix (nI (aa)) n) (fun t => ix (nI (pp)) (tr t * le t))) = 0 from k1b_0 (ix_in (by omega) hat) (ix_in (by omega) hpp9)) hp9.2.1
                · exact absurd (show (k1b (ix (nI (aa)) n) (fun t => ix (nI (qf)) (fc t))) = 0 from k1b_0 (ix_in (by omega) hat) (ix_in (by omega) hqf)) hp9.2.1
              · refine lv_iload hx hb dL_tells_180 (lv_at hl 3 rfl) ?_
                refine zb_eq (tgt := 210) hx hb dL_tells_182 (by decide) (fun c_55 => Bool.noConfusion c_55) (fun c_55 => ?_)
                refine lv_iload hx hb dL_tells_185 (lv_at hl 0 rfl) ?_
                refine zf_lt (tgt := 210) hx hb (by omega) dL_tells_187 (by decide) ?_
                refine lv_iload hx hb dL_tells_190 (lv_at hl 0 rfl) ?_
                refine lv_aload_n hx hb dL_tells_192 rfl (lv_at hl 8 rfl) ?_
                refine lv_iload hx hb dL_tells_193 (lv_at hl 17 rfl) ?_
                refine va_iald hx hb hZ.1 hP 2 0 rfl rfl (vp_in_nI (show aa < 24 by omega) (by omega)) dL_tells_195 ?_
                rw [nI_clamp (show aa < 2 ^ 31 by omega)]
                refine zx_val (y := nI (tr aa)) (qa1) ?_
                refine lv_aload_n hx hb dL_tells_196 rfl (lv_at hl 8 rfl) ?_
                refine lv_iconst (v := nI (4)) hx hb dL_tells_197 (by decide) ?_
                refine lv_iload hx hb dL_tells_198 (lv_at hl 17 rfl) ?_
                refine zo_add hx hb dL_tells_200 ?_
                refine va_iald hx hb hZ.1 hP 2 0 rfl rfl (vp_in_nI (show 4 + aa < 24 by omega) (by omega)) dL_tells_201 ?_
                rw [nI_clamp (show 4 + aa < 2 ^ 31 by omega)]
                refine zx_val (y := nI (le aa)) (qa2) ?_
                refine zo_mul hx hb dL_tells_202 ?_
                refine zc_ge (tgt := 210) hx hb (by omega) (by omega) dL_tells_203 (by decide) (fun c_57 => ?_) (fun c_57 => False.elim (by omega))
                refine lv_iconst (v := bI (false)) hx hb dL_tells_210 (by decide) ?_
                refine lv_istore (lv' := [(18, .int (bI (false))), (17, .int (nI (pp))), (16, .int (nI (qf))), (15, .int (nI ((wl fw (nI aa) nj).length))), (14, .int (bI (true))), (9, .ref lz), (0, .ref (ad 0)), (1, .int (y)), (2, .ref (g 0)), (3, .ref (g 1)), (4, .ref (g 2)), (5, .ref (g 3)), (6, .ref (g 4)), (7, .ref (g 5)), (8, .ref (g 6)), (10, .int (nx)), (11, .int (fs)), (12, .int (ms9)), (13, .int (nI (aa)))]) hx hb dL_tells_211 hl (by decide) rfl (fun ls hl => ?_)
                refine lv_aload_n hx hb dL_tells_213 rfl (lv_at hl 6 rfl) ?_
                refine lv_iconst (v := nI (2)) hx hb dL_tells_214 (by decide) ?_
                refine lv_iload hx hb dL_tells_215 (lv_at hl 18 rfl) ?_
                refine lv_iload hx hb dL_tells_217 (lv_at hl 2 rfl) ?_
                refine ze_H_i (n := 4) (mc := 2) (ms := 12) (ws := cw) (es := [(lz, zInts cA 20 (colF Lf (wl fw (nI aa) nj))), (g 0, zInts cA 4 cf), (g 1, zInts cA 24 tf), (g 2, zInts cA 24 ff), (g 3, zInts cA 10 vf), (g 4, zInts cA 40 jj), (g 5, zInts cA 20 lt), (g 6, zInts cA 20 dd)]) (As := [.ref (ad 0), .int (nI (2)), .int (nI (aa)), .int (nI (qf))]) (rest := []) hx hb hml hts hown hZ hX hN [0, 1, 2, 3, 4, 5, 6, 7] rfl rfl hP hD hS hA (c_L_told_2 l D cA _ cw (ad 0) _ l0 _ _ _ _ (k1b (ix (nI (aa)) n) (fun t => ix (nI (qf)) (fc t))) (nI (aa)) (nI (qf)) (fun sz9 => c_X4_start l hlt D cA sz9 cw ad T Bd E PT PB PE n tr le sl mo la fc bo nd mk ck ct hd pq nj fw jf dl dn oc s8 s9 s10 s11 s12 hL hI (nI (aa)) (nI (qf))) (fun _ _ h => h)) gL_tells_L_told rfl ⟨rfl, rfl⟩ ⟨by decide +kernel, (Nat.le_of_ble_eq_true rfl), (Nat.le_of_ble_eq_true rfl)⟩ hl.1 rfl (Nat.le_of_ble_eq_true rfl) ⟨by show _ ≤ 96; omega, by show _ ≤ 700; omega⟩ rfl dL_tells_219 (fun r9 u9 H locs hp9 hP hD hS hz => ?_)
                rcases u9 with ⟨t9, f9⟩ | u9
                · dsimp only [zwP] at hp9
                  obtain ⟨htn, hv0, hfn, hv1, hr9⟩ := hp9
                  have e9 := (nI_eq (by omega) (by omega)).mp hv0
                  subst e9
                  have e8 := (nI_eq (by omega) (by omega)).mp hv1
                  subst e8; subst hr9
                  have hP : va_P D vwCl ((lz, zInts cA 20 (colF Lf (wl fw (nI aa) nj))) :: (g 0, zInts cA 4 cf) :: (g 1, zInts cA 24 tf) :: (g 2, zInts cA 24 ff) :: (g 3, zInts cA 10 vf) :: (g 4, zInts cA 40 jj) :: (g 5, zInts cA 20 lt) :: (g 6, zInts cA 20 dd) :: cw) H := hP
                  have hD : va_D A ((lz, zInts cA 20 (colF Lf (wl fw (nI aa) nj))) :: (g 0, zInts cA 4 cf) :: (g 1, zInts cA 24 tf) :: (g 2, zInts cA 24 ff) :: (g 3, zInts cA 10 vf) :: (g 4, zInts cA 40 jj) :: (g 5, zInts cA 20 lt) :: (g 6, zInts cA 20 dd) :: cw) := hD
                  refine lv_iload hx hb dL_tells_222 (lv_at hl 4 rfl) ?_
                  refine zb_eq (tgt := 251) hx hb dL_tells_224 (by decide) (fun c_58 => Bool.noConfusion c_58) (fun c_58 => ?_)
                  refine lv_iload hx hb dL_tells_227 (lv_at hl 2 rfl) ?_
                  refine lv_aload_n hx hb dL_tells_229 rfl (lv_at hl 9 rfl) ?_
                  refine lv_bipush (v := nI (20)) hx hb dL_tells_230 (by decide) ?_
                  refine lv_iload hx hb dL_tells_232 (lv_at hl 18 rfl) ?_
                  refine zo_add hx hb dL_tells_234 ?_
                  refine va_iald hx hb hZ.1 hP 2 0 rfl rfl (vp_in_nI (show 20 + aa < 24 by omega) (by omega)) dL_tells_235 ?_
                  rw [nI_clamp (show 20 + aa < 2 ^ 31 by omega)]
                  refine zx_val (y := nI (fc aa)) (qa6) ?_
                  refine zc_ge (tgt := 251) hx hb (by omega) (by omega) dL_tells_236 (by decide) (fun c_59 => False.elim (by omega)) (fun c_59 => ?_)
                  refine lv_aload hx hb dL_tells_239 (lv_at hl 10 rfl) ?_
                  refine lv_iload hx hb dL_tells_241 (lv_at hl 18 rfl) ?_
                  refine lv_iload hx hb dL_tells_243 (lv_at hl 2 rfl) ?_
                  refine zk_S_i (n := 3) (As := [.ref (g 2), .int (nI (aa)), .int (nI (qf))]) (rest := [.int (nI (bo aa qf))]) hx hb hml hts hown hZ hP (c_L_start l D cA ((lz, zInts cA 20 (colF Lf (wl fw (nI aa) nj))) :: (g 0, zInts cA 4 cf) :: (g 1, zInts cA 24 tf) :: (g 2, zInts cA 24 ff) :: (g 3, zInts cA 10 vf) :: (g 4, zInts cA 40 jj) :: (g 5, zInts cA 20 lt) :: (g 6, zInts cA 20 dd) :: cw) 3 (g 2) ff rfl aa qf (bo aa) t8 (fun k hk => ⟨Nat.le_of_lt (t9x k (by omega)), qF aa hat k (by omega)⟩) (by omega)) gL_tells_L_start rfl ⟨rfl, rfl⟩ ⟨by decide +kernel, (Nat.le_of_ble_eq_true rfl), (Nat.le_of_ble_eq_true rfl)⟩ hl.1 rfl (Nat.le_of_ble_eq_true rfl) ⟨by show _ ≤ 96; omega, by show _ ≤ 700; omega⟩ rfl dL_tells_245 (fun r4 hr4 => ?_)
                  obtain rfl := show r4 = nI (bo aa qf) from hr4
                  refine lv_goto (tgt := 253) hx hb dL_tells_248 (by decide) ?_
                  refine lv_icmp_ne (tgt := 290) hx hb dL_tells_253 (by decide) (fun c_60 => absurd rfl c_60) (fun c_60 => ?_)
                  refine lv_aload_n hx hb dL_tells_256 rfl (lv_at hl 6 rfl) ?_
                  refine lv_iconst (v := nI (3)) hx hb dL_tells_257 (by decide) ?_
                  refine lv_iload hx hb dL_tells_258 (lv_at hl 18 rfl) ?_
                  refine lv_iload hx hb dL_tells_260 (lv_at hl 1 rfl) ?_
                  refine ze_H_i (n := 4) (mc := 2) (ms := 12) (ws := cw) (es := [(lz, zInts cA 20 (colF Lf (wl fw (nI aa) nj))), (g 0, zInts cA 4 cf), (g 1, zInts cA 24 tf), (g 2, zInts cA 24 ff), (g 3, zInts cA 10 vf), (g 4, zInts cA 40 jj), (g 5, zInts cA 20 lt), (g 6, zInts cA 20 dd)]) (As := [.ref (ad 0), .int (nI (3)), .int (nI (aa)), .int (nI (pp))]) (rest := []) hx hb hml hts hown hZ hX hN [0, 1, 2, 3, 4, 5, 6, 7] rfl rfl hP hD hS hA (c_L_told_3 l D cA _ cw (ad 0) _ l0 _ _ _ _ (k1b (ix (nI (aa)) n) (fun t => ix (nI (pp)) (tr t * le t))) (nI (aa)) (nI (pp)) (fun sz9 => c_X4_along l hlt D cA sz9 cw ad T Bd E PT PB PE n tr le sl mo la fc bo nd mk ck ct hd pq nj fw jf dl dn oc s8 s9 s10 s11 s12 hL hI (nI (aa)) (nI (pp))) (fun _ _ h => h)) gL_tells_L_told rfl ⟨rfl, rfl⟩ ⟨by decide +kernel, (Nat.le_of_ble_eq_true rfl), (Nat.le_of_ble_eq_true rfl)⟩ hl.1 rfl (Nat.le_of_ble_eq_true rfl) ⟨by show _ ≤ 96; omega, by show _ ≤ 700; omega⟩ rfl dL_tells_262 (fun r9 u9 H locs hp9 hP hD hS hz => ?_)
                  rcases u9 with ⟨t9, q9⟩ | u9
                  · dsimp only [zwP] at hp9
                    obtain ⟨htn, hv0, hqn, hv1, hr9⟩ := hp9
                    have e9 := (nI_eq (by omega) (by omega)).mp hv0
                    subst e9
                    have e8 := (nI_eq (by omega) (by omega)).mp hv1
                    omega
                  · dsimp only [zwP] at hp9
                    obtain ⟨hr9, hK9, E9, hE9⟩ := hp9
                    have hr9 : r9 = (-101) := by rw [hr9, show (k1b (ix (nI (aa)) n) (fun t => ix (nI (pp)) (tr t * le t))) = 1 from k1b_2 (ix_in (by omega) hat) (by rw [ix_nI (by omega), if_neg (by omega)])]; rfl
                    subst hr9
                    have hP : va_P D vwCl ((lz, zInts cA 20 (colF Lf (wl fw (nI aa) nj))) :: (g 0, zInts cA 4 cf) :: (g 1, zInts cA 24 tf) :: (g 2, zInts cA 24 ff) :: (g 3, zInts cA 10 vf) :: (g 4, zInts cA 40 jj) :: (g 5, zInts cA 20 lt) :: (g 6, zInts cA 20 dd) :: cw) H := hP
                    have hD : va_D A ((lz, zInts cA 20 (colF Lf (wl fw (nI aa) nj))) :: (g 0, zInts cA 4 cf) :: (g 1, zInts cA 24 tf) :: (g 2, zInts cA 24 ff) :: (g 3, zInts cA 10 vf) :: (g 4, zInts cA 40 jj) :: (g 5, zInts cA 20 lt) :: (g 6, zInts cA 20 dd) :: cw) := hD
                    refine lv_iload hx hb dL_tells_265 (lv_at hl 0 rfl) ?_
                    refine zb_eq (tgt := 285) hx hb dL_tells_267 (by decide) (fun c_61 => ?_) (fun c_61 => Bool.noConfusion c_61)
                    refine lv_bipush (v := (-101)) hx hb dL_tells_285 (by decide) ?_
                    refine lv_icmp_eq (tgt := 292) hx hb dL_tells_287 (by decide) (fun c_62 => ?_) (fun c_62 => absurd rfl c_62)
                    refine W.widen (k := 1 + 8 * aa + 7) (n := 20 + 60 * aa + 42) (by omega) (by omega) ?_
                    exact J292 () H locs ls ⟨lv_sub hl [3, 4, 5, 6, 7, 8, 9, 10, 11, 12, 13, 14, 15, 16, 17, 18] rfl, hP, hD, hS⟩
                · exact absurd (show (k1b (ix (nI (aa)) n) (fun t => ix (nI (qf)) (fc t))) = 0 from k1b_0 (ix_in (by omega) hat) (ix_in (by omega) hqf)) hp9.2.1
          · rcases hVp with hvp1 | ⟨pp, hpq9, hvp1⟩
            · rw [hvp1] at hl
              refine lv_iload hx hb dL_tells_180 (lv_at hl 3 rfl) ?_
              refine zb_eq (tgt := 210) hx hb dL_tells_182 (by decide) (fun c_63 => Bool.noConfusion c_63) (fun c_63 => ?_)
              refine lv_iload hx hb dL_tells_185 (lv_at hl 0 rfl) ?_
              refine lv_if_lt (tgt := 210) hx hb dL_tells_187 (by decide) (fun c_64 => ?_) (fun c_64 => absurd (by decide) c_64)
              refine lv_iconst (v := bI (false)) hx hb dL_tells_210 (by decide) ?_
              refine lv_istore (lv' := [(18, .int (bI (false))), (17, .int ((-1))), (16, .int (nI (qf))), (15, .int (nI ((wl fw (nI aa) nj).length))), (14, .int (bI (true))), (9, .ref lz), (0, .ref (ad 0)), (1, .int (y)), (2, .ref (g 0)), (3, .ref (g 1)), (4, .ref (g 2)), (5, .ref (g 3)), (6, .ref (g 4)), (7, .ref (g 5)), (8, .ref (g 6)), (10, .int (nx)), (11, .int (fs)), (12, .int (ms9)), (13, .int (nI (aa)))]) hx hb dL_tells_211 hl (by decide) rfl (fun ls hl => ?_)
              refine lv_aload_n hx hb dL_tells_213 rfl (lv_at hl 6 rfl) ?_
              refine lv_iconst (v := nI (2)) hx hb dL_tells_214 (by decide) ?_
              refine lv_iload hx hb dL_tells_215 (lv_at hl 18 rfl) ?_
              refine lv_iload hx hb dL_tells_217 (lv_at hl 2 rfl) ?_
              refine ze_H_i (n := 4) (mc := 2) (ms := 12) (ws := cw) (es := [(lz, zInts cA 20 (colF Lf (wl fw (nI aa) nj))), (g 0, zInts cA 4 cf), (g 1, zInts cA 24 tf), (g 2, zInts cA 24 ff), (g 3, zInts cA 10 vf), (g 4, zInts cA 40 jj), (g 5, zInts cA 20 lt), (g 6, zInts cA 20 dd)]) (As := [.ref (ad 0), .int (nI (2)), .int (nI (aa)), .int (nI (qf))]) (rest := []) hx hb hml hts hown hZ hX hN [0, 1, 2, 3, 4, 5, 6, 7] rfl rfl hP hD hS hA (c_L_told_2 l D cA _ cw (ad 0) _ l0 _ _ _ _ (k1b (ix (nI (aa)) n) (fun t => ix (nI (qf)) (fc t))) (nI (aa)) (nI (qf)) (fun sz9 => c_X4_start l hlt D cA sz9 cw ad T Bd E PT PB PE n tr le sl mo la fc bo nd mk ck ct hd pq nj fw jf dl dn oc s8 s9 s10 s11 s12 hL hI (nI (aa)) (nI (qf))) (fun _ _ h => h)) gL_tells_L_told rfl ⟨rfl, rfl⟩ ⟨by decide +kernel, (Nat.le_of_ble_eq_true rfl), (Nat.le_of_ble_eq_true rfl)⟩ hl.1 rfl (Nat.le_of_ble_eq_true rfl) ⟨by show _ ≤ 96; omega, by show _ ≤ 700; omega⟩ rfl dL_tells_219 (fun r9 u9 H locs hp9 hP hD hS hz => ?_)
              rcases u9 with ⟨t9, f9⟩ | u9
              · dsimp only [zwP] at hp9
                obtain ⟨htn, hv0, hfn, hv1, hr9⟩ := hp9
                have e9 := (nI_eq (by omega) (by omega)).mp hv0
                subst e9
                have e8 := (nI_eq (by omega) (by omega)).mp hv1
                omega
              · dsimp only [zwP] at hp9
                obtain ⟨hr9, hK9, E9, hE9⟩ := hp9
                have hr9 : r9 = (-101) := by rw [hr9, show (k1b (ix (nI (aa)) n) (fun t => ix (nI (qf)) (fc t))) = 1 from k1b_2 (ix_in (by omega) hat) (by rw [ix_nI (by omega), if_neg (by omega)])]; rfl
                subst hr9
                have hP : va_P D vwCl ((lz, zInts cA 20 (colF Lf (wl fw (nI aa) nj))) :: (g 0, zInts cA 4 cf) :: (g 1, zInts cA 24 tf) :: (g 2, zInts cA 24 ff) :: (g 3, zInts cA 10 vf) :: (g 4, zInts cA 40 jj) :: (g 5, zInts cA 20 lt) :: (g 6, zInts cA 20 dd) :: cw) H := hP
                have hD : va_D A ((lz, zInts cA 20 (colF Lf (wl fw (nI aa) nj))) :: (g 0, zInts cA 4 cf) :: (g 1, zInts cA 24 tf) :: (g 2, zInts cA 24 ff) :: (g 3, zInts cA 10 vf) :: (g 4, zInts cA 40 jj) :: (g 5, zInts cA 20 lt) :: (g 6, zInts cA 20 dd) :: cw) := hD
                refine lv_iload hx hb dL_tells_222 (lv_at hl 4 rfl) ?_
                refine zb_eq (tgt := 251) hx hb dL_tells_224 (by decide) (fun c_65 => Bool.noConfusion c_65) (fun c_65 => ?_)
                refine lv_iload hx hb dL_tells_227 (lv_at hl 2 rfl) ?_
                refine lv_aload_n hx hb dL_tells_229 rfl (lv_at hl 9 rfl) ?_
                refine lv_bipush (v := nI (20)) hx hb dL_tells_230 (by decide) ?_
                refine lv_iload hx hb dL_tells_232 (lv_at hl 18 rfl) ?_
                refine zo_add hx hb dL_tells_234 ?_
                refine va_iald hx hb hZ.1 hP 2 0 rfl rfl (vp_in_nI (show 20 + aa < 24 by omega) (by omega)) dL_tells_235 ?_
                rw [nI_clamp (show 20 + aa < 2 ^ 31 by omega)]
                refine zx_val (y := nI (fc aa)) (qa6) ?_
                refine zc_ge (tgt := 251) hx hb (by omega) (by omega) dL_tells_236 (by decide) (fun c_66 => ?_) (fun c_66 => False.elim (by omega))
                refine lv_bipush (v := (-101)) hx hb dL_tells_251 (by decide) ?_
                refine lv_icmp_ne (tgt := 290) hx hb dL_tells_253 (by decide) (fun c_67 => absurd rfl c_67) (fun c_67 => ?_)
                refine lv_aload_n hx hb dL_tells_256 rfl (lv_at hl 6 rfl) ?_
                refine lv_iconst (v := nI (3)) hx hb dL_tells_257 (by decide) ?_
                refine lv_iload hx hb dL_tells_258 (lv_at hl 18 rfl) ?_
                refine lv_iload hx hb dL_tells_260 (lv_at hl 1 rfl) ?_
                refine ze_H_i (n := 4) (mc := 2) (ms := 12) (ws := cw) (es := [(lz, zInts cA 20 (colF Lf (wl fw (nI aa) nj))), (g 0, zInts cA 4 cf), (g 1, zInts cA 24 tf), (g 2, zInts cA 24 ff), (g 3, zInts cA 10 vf), (g 4, zInts cA 40 jj), (g 5, zInts cA 20 lt), (g 6, zInts cA 20 dd)]) (As := [.ref (ad 0), .int (nI (3)), .int (nI (aa)), .int ((-1))]) (rest := []) hx hb hml hts hown hZ hX hN [0, 1, 2, 3, 4, 5, 6, 7] rfl rfl hP hD hS hA (c_L_told_3 l D cA _ cw (ad 0) _ l0 _ _ _ _ (k1b (ix (nI (aa)) n) (fun t => ix ((-1)) (tr t * le t))) (nI (aa)) ((-1)) (fun sz9 => c_X4_along l hlt D cA sz9 cw ad T Bd E PT PB PE n tr le sl mo la fc bo nd mk ck ct hd pq nj fw jf dl dn oc s8 s9 s10 s11 s12 hL hI (nI (aa)) ((-1))) (fun _ _ h => h)) gL_tells_L_told rfl ⟨rfl, rfl⟩ ⟨by decide +kernel, (Nat.le_of_ble_eq_true rfl), (Nat.le_of_ble_eq_true rfl)⟩ hl.1 rfl (Nat.le_of_ble_eq_true rfl) ⟨by show _ ≤ 96; omega, by show _ ≤ 700; omega⟩ rfl dL_tells_262 (fun r9 u9 H locs hp9 hP hD hS hz => ?_)
                rcases u9 with ⟨t9, q9⟩ | u9
                · dsimp only [zwP] at hp9
                  obtain ⟨htn, hv0, hqn, hv1, hr9⟩ := hp9
                  have e9 := (nI_eq (by omega) (by omega)).mp hv0
                  subst e9
                  exact absurd hv1.symm (nI_nm1 (by omega))
                · dsimp only [zwP] at hp9
                  obtain ⟨hr9, hK9, E9, hE9⟩ := hp9
                  have hr9 : r9 = (-101) := by rw [hr9, show (k1b (ix (nI (aa)) n) (fun t => ix ((-1)) (tr t * le t))) = 1 from k1b_2 (ix_in (by omega) hat) (ix_neg (by decide))]; rfl
                  subst hr9
                  have hP : va_P D vwCl ((lz, zInts cA 20 (colF Lf (wl fw (nI aa) nj))) :: (g 0, zInts cA 4 cf) :: (g 1, zInts cA 24 tf) :: (g 2, zInts cA 24 ff) :: (g 3, zInts cA 10 vf) :: (g 4, zInts cA 40 jj) :: (g 5, zInts cA 20 lt) :: (g 6, zInts cA 20 dd) :: cw) H := hP
                  have hD : va_D A ((lz, zInts cA 20 (colF Lf (wl fw (nI aa) nj))) :: (g 0, zInts cA 4 cf) :: (g 1, zInts cA 24 tf) :: (g 2, zInts cA 24 ff) :: (g 3, zInts cA 10 vf) :: (g 4, zInts cA 40 jj) :: (g 5, zInts cA 20 lt) :: (g 6, zInts cA 20 dd) :: cw) := hD
                  refine lv_iload hx hb dL_tells_265 (lv_at hl 0 rfl) ?_
                  refine zb_eq (tgt := 285) hx hb dL_tells_267 (by decide) (fun c_68 => ?_) (fun c_68 => Bool.noConfusion c_68)
                  refine lv_bipush (v := (-101)) hx hb dL_tells_285 (by decide) ?_
                  refine lv_icmp_eq (tgt := 292) hx hb dL_tells_287 (by decide) (fun c_69 => ?_) (fun c_69 => absurd rfl c_69)
                  refine W.widen (k := 1 + 8 * aa + 7) (n := 20 + 60 * aa + 42) (by omega) (by omega) ?_
                  exact J292 () H locs ls ⟨lv_sub hl [3, 4, 5, 6, 7, 8, 9, 10, 11, 12, 13, 14, 15, 16, 17, 18] rfl, hP, hD, hS⟩
            · rw [hvp1] at hl
              rcases Nat.lt_or_ge pp (tr aa * le aa) with hpp9 | hpp9
              · have hll := lies_le (tr := tr aa) (le := le aa) (p := pp) (by omega) (by omega) t4 t2
                obtain ⟨hlm, -⟩ := lies_mod (tr := tr aa) (le := le aa) (p := pp) (by omega) t4
                refine lv_iload hx hb dL_tells_180 (lv_at hl 3 rfl) ?_
                refine zb_eq (tgt := 210) hx hb dL_tells_182 (by decide) (fun c_70 => Bool.noConfusion c_70) (fun c_70 => ?_)
                refine lv_iload hx hb dL_tells_185 (lv_at hl 0 rfl) ?_
                refine zf_lt (tgt := 210) hx hb (by omega) dL_tells_187 (by decide) ?_
                refine lv_iload hx hb dL_tells_190 (lv_at hl 0 rfl) ?_
                refine lv_aload_n hx hb dL_tells_192 rfl (lv_at hl 8 rfl) ?_
                refine lv_iload hx hb dL_tells_193 (lv_at hl 17 rfl) ?_
                refine va_iald hx hb hZ.1 hP 2 0 rfl rfl (vp_in_nI (show aa < 24 by omega) (by omega)) dL_tells_195 ?_
                rw [nI_clamp (show aa < 2 ^ 31 by omega)]
                refine zx_val (y := nI (tr aa)) (qa1) ?_
                refine lv_aload_n hx hb dL_tells_196 rfl (lv_at hl 8 rfl) ?_
                refine lv_iconst (v := nI (4)) hx hb dL_tells_197 (by decide) ?_
                refine lv_iload hx hb dL_tells_198 (lv_at hl 17 rfl) ?_
                refine zo_add hx hb dL_tells_200 ?_
                refine va_iald hx hb hZ.1 hP 2 0 rfl rfl (vp_in_nI (show 4 + aa < 24 by omega) (by omega)) dL_tells_201 ?_
                rw [nI_clamp (show 4 + aa < 2 ^ 31 by omega)]
                refine zx_val (y := nI (le aa)) (qa2) ?_
                refine zo_mul hx hb dL_tells_202 ?_
                refine zc_ge (tgt := 210) hx hb (by omega) (by omega) dL_tells_203 (by decide) (fun c_72 => False.elim (by omega)) (fun c_72 => ?_)
                refine lv_iconst (v := bI (true)) hx hb dL_tells_206 (by decide) ?_
                refine lv_goto (tgt := 211) hx hb dL_tells_207 (by decide) ?_
                refine lv_istore (lv' := [(18, .int (bI (true))), (17, .int (nI (pp))), (16, .int (nI (qf))), (15, .int (nI ((wl fw (nI aa) nj).length))), (14, .int (bI (true))), (9, .ref lz), (0, .ref (ad 0)), (1, .int (y)), (2, .ref (g 0)), (3, .ref (g 1)), (4, .ref (g 2)), (5, .ref (g 3)), (6, .ref (g 4)), (7, .ref (g 5)), (8, .ref (g 6)), (10, .int (nx)), (11, .int (fs)), (12, .int (ms9)), (13, .int (nI (aa)))]) hx hb dL_tells_211 hl (by decide) rfl (fun ls hl => ?_)
                refine lv_aload_n hx hb dL_tells_213 rfl (lv_at hl 6 rfl) ?_
                refine lv_iconst (v := nI (2)) hx hb dL_tells_214 (by decide) ?_
                refine lv_iload hx hb dL_tells_215 (lv_at hl 18 rfl) ?_
                refine lv_iload hx hb dL_tells_217 (lv_at hl 2 rfl) ?_
                refine ze_H_i (n := 4) (mc := 2) (ms := 12) (ws := cw) (es := [(lz, zInts cA 20 (colF Lf (wl fw (nI aa) nj))), (g 0, zInts cA 4 cf), (g 1, zInts cA 24 tf), (g 2, zInts cA 24 ff), (g 3, zInts cA 10 vf), (g 4, zInts cA 40 jj), (g 5, zInts cA 20 lt), (g 6, zInts cA 20 dd)]) (As := [.ref (ad 0), .int (nI (2)), .int (nI (aa)), .int (nI (qf))]) (rest := []) hx hb hml hts hown hZ hX hN [0, 1, 2, 3, 4, 5, 6, 7] rfl rfl hP hD hS hA (c_L_told_2 l D cA _ cw (ad 0) _ l0 _ _ _ _ (k1b (ix (nI (aa)) n) (fun t => ix (nI (qf)) (fc t))) (nI (aa)) (nI (qf)) (fun sz9 => c_X4_start l hlt D cA sz9 cw ad T Bd E PT PB PE n tr le sl mo la fc bo nd mk ck ct hd pq nj fw jf dl dn oc s8 s9 s10 s11 s12 hL hI (nI (aa)) (nI (qf))) (fun _ _ h => h)) gL_tells_L_told rfl ⟨rfl, rfl⟩ ⟨by decide +kernel, (Nat.le_of_ble_eq_true rfl), (Nat.le_of_ble_eq_true rfl)⟩ hl.1 rfl (Nat.le_of_ble_eq_true rfl) ⟨by show _ ≤ 96; omega, by show _ ≤ 700; omega⟩ rfl dL_tells_219 (fun r9 u9 H locs hp9 hP hD hS hz => ?_)
                rcases u9 with ⟨t9, f9⟩ | u9
                · dsimp only [zwP] at hp9
                  obtain ⟨htn, hv0, hfn, hv1, hr9⟩ := hp9
                  have e9 := (nI_eq (by omega) (by omega)).mp hv0
                  subst e9
                  have e8 := (nI_eq (by omega) (by omega)).mp hv1
                  omega
                · dsimp only [zwP] at hp9
                  obtain ⟨hr9, hK9, E9, hE9⟩ := hp9
                  have hr9 : r9 = (-101) := by rw [hr9, show (k1b (ix (nI (aa)) n) (fun t => ix (nI (qf)) (fc t))) = 1 from k1b_2 (ix_in (by omega) hat) (by rw [ix_nI (by omega), if_neg (by omega)])]; rfl
                  subst hr9
                  have hP : va_P D vwCl ((lz, zInts cA 20 (colF Lf (wl fw (nI aa) nj))) :: (g 0, zInts cA 4 cf) :: (g 1, zInts cA 24 tf) :: (g 2, zInts cA 24 ff) :: (g 3, zInts cA 10 vf) :: (g 4, zInts cA 40 jj) :: (g 5, zInts cA 20 lt) :: (g 6, zInts cA 20 dd) :: cw) H := hP
                  have hD : va_D A ((lz, zInts cA 20 (colF Lf (wl fw (nI aa) nj))) :: (g 0, zInts cA 4 cf) :: (g 1, zInts cA 24 tf) :: (g 2, zInts cA 24 ff) :: (g 3, zInts cA 10 vf) :: (g 4, zInts cA 40 jj) :: (g 5, zInts cA 20 lt) :: (g 6, zInts cA 20 dd) :: cw) := hD
                  refine lv_iload hx hb dL_tells_222 (lv_at hl 4 rfl) ?_
                  refine zb_eq (tgt := 251) hx hb dL_tells_224 (by decide) (fun c_73 => Bool.noConfusion c_73) (fun c_73 => ?_)
                  refine lv_iload hx hb dL_tells_227 (lv_at hl 2 rfl) ?_
                  refine lv_aload_n hx hb dL_tells_229 rfl (lv_at hl 9 rfl) ?_
                  refine lv_bipush (v := nI (20)) hx hb dL_tells_230 (by decide) ?_
                  refine lv_iload hx hb dL_tells_232 (lv_at hl 18 rfl) ?_
                  refine zo_add hx hb dL_tells_234 ?_
                  refine va_iald hx hb hZ.1 hP 2 0 rfl rfl (vp_in_nI (show 20 + aa < 24 by omega) (by omega)) dL_tells_235 ?_
                  rw [nI_clamp (show 20 + aa < 2 ^ 31 by omega)]
                  refine zx_val (y := nI (fc aa)) (qa6) ?_
                  refine zc_ge (tgt := 251) hx hb (by omega) (by omega) dL_tells_236 (by decide) (fun c_74 => ?_) (fun c_74 => False.elim (by omega))
                  refine lv_bipush (v := (-101)) hx hb dL_tells_251 (by decide) ?_
                  refine lv_icmp_ne (tgt := 290) hx hb dL_tells_253 (by decide) (fun c_75 => absurd rfl c_75) (fun c_75 => ?_)
                  refine lv_aload_n hx hb dL_tells_256 rfl (lv_at hl 6 rfl) ?_
                  refine lv_iconst (v := nI (3)) hx hb dL_tells_257 (by decide) ?_
                  refine lv_iload hx hb dL_tells_258 (lv_at hl 18 rfl) ?_
                  refine lv_iload hx hb dL_tells_260 (lv_at hl 1 rfl) ?_
                  refine ze_H_i (n := 4) (mc := 2) (ms := 12) (ws := cw) (es := [(lz, zInts cA 20 (colF Lf (wl fw (nI aa) nj))), (g 0, zInts cA 4 cf), (g 1, zInts cA 24 tf), (g 2, zInts cA 24 ff), (g 3, zInts cA 10 vf), (g 4, zInts cA 40 jj), (g 5, zInts cA 20 lt), (g 6, zInts cA 20 dd)]) (As := [.ref (ad 0), .int (nI (3)), .int (nI (aa)), .int (nI (pp))]) (rest := []) hx hb hml hts hown hZ hX hN [0, 1, 2, 3, 4, 5, 6, 7] rfl rfl hP hD hS hA (c_L_told_3 l D cA _ cw (ad 0) _ l0 _ _ _ _ (k1b (ix (nI (aa)) n) (fun t => ix (nI (pp)) (tr t * le t))) (nI (aa)) (nI (pp)) (fun sz9 => c_X4_along l hlt D cA sz9 cw ad T Bd E PT PB PE n tr le sl mo la fc bo nd mk ck ct hd pq nj fw jf dl dn oc s8 s9 s10 s11 s12 hL hI (nI (aa)) (nI (pp))) (fun _ _ h => h)) gL_tells_L_told rfl ⟨rfl, rfl⟩ ⟨by decide +kernel, (Nat.le_of_ble_eq_true rfl), (Nat.le_of_ble_eq_true rfl)⟩ hl.1 rfl (Nat.le_of_ble_eq_true rfl) ⟨by show _ ≤ 96; omega, by show _ ≤ 700; omega⟩ rfl dL_tells_262 (fun r9 u9 H locs hp9 hP hD hS hz => ?_)
                  rcases u9 with ⟨t9, q9⟩ | u9
                  · dsimp only [zwP] at hp9
                    obtain ⟨htn, hv0, hqn, hv1, hr9⟩ := hp9
                    have e9 := (nI_eq (by omega) (by omega)).mp hv0
                    subst e9
                    have e8 := (nI_eq (by omega) (by omega)).mp hv1
                    subst e8; subst hr9
                    have hP : va_P D vwCl ((lz, zInts cA 20 (colF Lf (wl fw (nI aa) nj))) :: (g 0, zInts cA 4 cf) :: (g 1, zInts cA 24 tf) :: (g 2, zInts cA 24 ff) :: (g 3, zInts cA 10 vf) :: (g 4, zInts cA 40 jj) :: (g 5, zInts cA 20 lt) :: (g 6, zInts cA 20 dd) :: cw) H := hP
                    have hD : va_D A ((lz, zInts cA 20 (colF Lf (wl fw (nI aa) nj))) :: (g 0, zInts cA 4 cf) :: (g 1, zInts cA 24 tf) :: (g 2, zInts cA 24 ff) :: (g 3, zInts cA 10 vf) :: (g 4, zInts cA 40 jj) :: (g 5, zInts cA 20 lt) :: (g 6, zInts cA 20 dd) :: cw) := hD
                    refine lv_iload hx hb dL_tells_265 (lv_at hl 0 rfl) ?_
                    refine zb_eq (tgt := 285) hx hb dL_tells_267 (by decide) (fun c_76 => Bool.noConfusion c_76) (fun c_76 => ?_)
                    refine lv_aload_n hx hb dL_tells_270 rfl (lv_at hl 9 rfl) ?_
                    refine lv_iload hx hb dL_tells_271 (lv_at hl 18 rfl) ?_
                    refine lv_iload hx hb dL_tells_273 (lv_at hl 1 rfl) ?_
                    refine zk_S_i (n := 3) (As := [.ref (g 1), .int (nI (aa)), .int (nI (pp))]) (rest := [.int (nI (alo (tr aa) (le aa) pp))]) hx hb hml hts hown hZ hP (c_L_lies l D cA ((lz, zInts cA 20 (colF Lf (wl fw (nI aa) nj))) :: (g 0, zInts cA 4 cf) :: (g 1, zInts cA 24 tf) :: (g 2, zInts cA 24 ff) :: (g 3, zInts cA 10 vf) :: (g 4, zInts cA 40 jj) :: (g 5, zInts cA 20 lt) :: (g 6, zInts cA 20 dd) :: cw) 2 (g 1) tf rfl aa pp (tr aa) (le aa) qa1 qa2 t1 (by omega) t2 t4 (by omega) (by omega)) gL_tells_L_lies rfl ⟨rfl, rfl⟩ ⟨by decide +kernel, (Nat.le_of_ble_eq_true rfl), (Nat.le_of_ble_eq_true rfl)⟩ hl.1 rfl (Nat.le_of_ble_eq_true rfl) ⟨by show _ ≤ 96; omega, by show _ ≤ 700; omega⟩ rfl dL_tells_275 (fun r5 hr5 => ?_)
                    obtain rfl := show r5 = nI (lies (tr aa) (le aa) pp) from hr5
                    refine lv_sipush (v := nI (1000)) hx hb dL_tells_278 (by decide) ?_
                    refine zo_rem hx hb (by omega) (by omega) (by omega) dL_tells_281 ?_
                    refine zx_val (y := nI (alo (tr aa) (le aa) pp)) (by rw [hlm]) ?_
                    refine lv_goto (tgt := 287) hx hb dL_tells_282 (by decide) ?_
                    refine lv_icmp_eq (tgt := 292) hx hb dL_tells_287 (by decide) (fun c_77 => ?_) (fun c_77 => absurd rfl c_77)
                    refine W.widen (k := 1 + 8 * aa + 7) (n := 20 + 60 * aa + 42) (by omega) (by omega) ?_
                    exact J292 () H locs ls ⟨lv_sub hl [3, 4, 5, 6, 7, 8, 9, 10, 11, 12, 13, 14, 15, 16, 17, 18] rfl, hP, hD, hS⟩
                  · exact absurd (show (k1b (ix (nI (aa)) n) (fun t => ix (nI (pp)) (tr t * le t))) = 0 from k1b_0 (ix_in (by omega) hat) (ix_in (by omega) hpp9)) hp9.2.1
              · refine lv_iload hx hb dL_tells_180 (lv_at hl 3 rfl) ?_
                refine zb_eq (tgt := 210) hx hb dL_tells_182 (by decide) (fun c_78 => Bool.noConfusion c_78) (fun c_78 => ?_)
                refine lv_iload hx hb dL_tells_185 (lv_at hl 0 rfl) ?_
                refine zf_lt (tgt := 210) hx hb (by omega) dL_tells_187 (by decide) ?_
                refine lv_iload hx hb dL_tells_190 (lv_at hl 0 rfl) ?_
                refine lv_aload_n hx hb dL_tells_192 rfl (lv_at hl 8 rfl) ?_
                refine lv_iload hx hb dL_tells_193 (lv_at hl 17 rfl) ?_
                refine va_iald hx hb hZ.1 hP 2 0 rfl rfl (vp_in_nI (show aa < 24 by omega) (by omega)) dL_tells_195 ?_
                rw [nI_clamp (show aa < 2 ^ 31 by omega)]
                refine zx_val (y := nI (tr aa)) (qa1) ?_
                refine lv_aload_n hx hb dL_tells_196 rfl (lv_at hl 8 rfl) ?_
                refine lv_iconst (v := nI (4)) hx hb dL_tells_197 (by decide) ?_
                refine lv_iload hx hb dL_tells_198 (lv_at hl 17 rfl) ?_
                refine zo_add hx hb dL_tells_200 ?_
                refine va_iald hx hb hZ.1 hP 2 0 rfl rfl (vp_in_nI (show 4 + aa < 24 by omega) (by omega)) dL_tells_201 ?_
                rw [nI_clamp (show 4 + aa < 2 ^ 31 by omega)]
                refine zx_val (y := nI (le aa)) (qa2) ?_
                refine zo_mul hx hb dL_tells_202 ?_
                refine zc_ge (tgt := 210) hx hb (by omega) (by omega) dL_tells_203 (by decide) (fun c_80 => ?_) (fun c_80 => False.elim (by omega))
                refine lv_iconst (v := bI (false)) hx hb dL_tells_210 (by decide) ?_
                refine lv_istore (lv' := [(18, .int (bI (false))), (17, .int (nI (pp))), (16, .int (nI (qf))), (15, .int (nI ((wl fw (nI aa) nj).length))), (14, .int (bI (true))), (9, .ref lz), (0, .ref (ad 0)), (1, .int (y)), (2, .ref (g 0)), (3, .ref (g 1)), (4, .ref (g 2)), (5, .ref (g 3)), (6, .ref (g 4)), (7, .ref (g 5)), (8, .ref (g 6)), (10, .int (nx)), (11, .int (fs)), (12, .int (ms9)), (13, .int (nI (aa)))]) hx hb dL_tells_211 hl (by decide) rfl (fun ls hl => ?_)
                refine lv_aload_n hx hb dL_tells_213 rfl (lv_at hl 6 rfl) ?_
                refine lv_iconst (v := nI (2)) hx hb dL_tells_214 (by decide) ?_
                refine lv_iload hx hb dL_tells_215 (lv_at hl 18 rfl) ?_
                refine lv_iload hx hb dL_tells_217 (lv_at hl 2 rfl) ?_
                refine ze_H_i (n := 4) (mc := 2) (ms := 12) (ws := cw) (es := [(lz, zInts cA 20 (colF Lf (wl fw (nI aa) nj))), (g 0, zInts cA 4 cf), (g 1, zInts cA 24 tf), (g 2, zInts cA 24 ff), (g 3, zInts cA 10 vf), (g 4, zInts cA 40 jj), (g 5, zInts cA 20 lt), (g 6, zInts cA 20 dd)]) (As := [.ref (ad 0), .int (nI (2)), .int (nI (aa)), .int (nI (qf))]) (rest := []) hx hb hml hts hown hZ hX hN [0, 1, 2, 3, 4, 5, 6, 7] rfl rfl hP hD hS hA (c_L_told_2 l D cA _ cw (ad 0) _ l0 _ _ _ _ (k1b (ix (nI (aa)) n) (fun t => ix (nI (qf)) (fc t))) (nI (aa)) (nI (qf)) (fun sz9 => c_X4_start l hlt D cA sz9 cw ad T Bd E PT PB PE n tr le sl mo la fc bo nd mk ck ct hd pq nj fw jf dl dn oc s8 s9 s10 s11 s12 hL hI (nI (aa)) (nI (qf))) (fun _ _ h => h)) gL_tells_L_told rfl ⟨rfl, rfl⟩ ⟨by decide +kernel, (Nat.le_of_ble_eq_true rfl), (Nat.le_of_ble_eq_true rfl)⟩ hl.1 rfl (Nat.le_of_ble_eq_true rfl) ⟨by show _ ≤ 96; omega, by show _ ≤ 700; omega⟩ rfl dL_tells_219 (fun r9 u9 H locs hp9 hP hD hS hz => ?_)
                rcases u9 with ⟨t9, f9⟩ | u9
                · dsimp only [zwP] at hp9
                  obtain ⟨htn, hv0, hfn, hv1, hr9⟩ := hp9
                  have e9 := (nI_eq (by omega) (by omega)).mp hv0
                  subst e9
                  have e8 := (nI_eq (by omega) (by omega)).mp hv1
                  omega
                · dsimp only [zwP] at hp9
                  obtain ⟨hr9, hK9, E9, hE9⟩ := hp9
                  have hr9 : r9 = (-101) := by rw [hr9, show (k1b (ix (nI (aa)) n) (fun t => ix (nI (qf)) (fc t))) = 1 from k1b_2 (ix_in (by omega) hat) (by rw [ix_nI (by omega), if_neg (by omega)])]; rfl
                  subst hr9
                  have hP : va_P D vwCl ((lz, zInts cA 20 (colF Lf (wl fw (nI aa) nj))) :: (g 0, zInts cA 4 cf) :: (g 1, zInts cA 24 tf) :: (g 2, zInts cA 24 ff) :: (g 3, zInts cA 10 vf) :: (g 4, zInts cA 40 jj) :: (g 5, zInts cA 20 lt) :: (g 6, zInts cA 20 dd) :: cw) H := hP
                  have hD : va_D A ((lz, zInts cA 20 (colF Lf (wl fw (nI aa) nj))) :: (g 0, zInts cA 4 cf) :: (g 1, zInts cA 24 tf) :: (g 2, zInts cA 24 ff) :: (g 3, zInts cA 10 vf) :: (g 4, zInts cA 40 jj) :: (g 5, zInts cA 20 lt) :: (g 6, zInts cA 20 dd) :: cw) := hD
                  refine lv_iload hx hb dL_tells_222 (lv_at hl 4 rfl) ?_
                  refine zb_eq (tgt := 251) hx hb dL_tells_224 (by decide) (fun c_81 => Bool.noConfusion c_81) (fun c_81 => ?_)
                  refine lv_iload hx hb dL_tells_227 (lv_at hl 2 rfl) ?_
                  refine lv_aload_n hx hb dL_tells_229 rfl (lv_at hl 9 rfl) ?_
                  refine lv_bipush (v := nI (20)) hx hb dL_tells_230 (by decide) ?_
                  refine lv_iload hx hb dL_tells_232 (lv_at hl 18 rfl) ?_
                  refine zo_add hx hb dL_tells_234 ?_
                  refine va_iald hx hb hZ.1 hP 2 0 rfl rfl (vp_in_nI (show 20 + aa < 24 by omega) (by omega)) dL_tells_235 ?_
                  rw [nI_clamp (show 20 + aa < 2 ^ 31 by omega)]
                  refine zx_val (y := nI (fc aa)) (qa6) ?_
                  refine zc_ge (tgt := 251) hx hb (by omega) (by omega) dL_tells_236 (by decide) (fun c_82 => ?_) (fun c_82 => False.elim (by omega))
                  refine lv_bipush (v := (-101)) hx hb dL_tells_251 (by decide) ?_
                  refine lv_icmp_ne (tgt := 290) hx hb dL_tells_253 (by decide) (fun c_83 => absurd rfl c_83) (fun c_83 => ?_)
                  refine lv_aload_n hx hb dL_tells_256 rfl (lv_at hl 6 rfl) ?_
                  refine lv_iconst (v := nI (3)) hx hb dL_tells_257 (by decide) ?_
                  refine lv_iload hx hb dL_tells_258 (lv_at hl 18 rfl) ?_
                  refine lv_iload hx hb dL_tells_260 (lv_at hl 1 rfl) ?_
                  refine ze_H_i (n := 4) (mc := 2) (ms := 12) (ws := cw) (es := [(lz, zInts cA 20 (colF Lf (wl fw (nI aa) nj))), (g 0, zInts cA 4 cf), (g 1, zInts cA 24 tf), (g 2, zInts cA 24 ff), (g 3, zInts cA 10 vf), (g 4, zInts cA 40 jj), (g 5, zInts cA 20 lt), (g 6, zInts cA 20 dd)]) (As := [.ref (ad 0), .int (nI (3)), .int (nI (aa)), .int (nI (pp))]) (rest := []) hx hb hml hts hown hZ hX hN [0, 1, 2, 3, 4, 5, 6, 7] rfl rfl hP hD hS hA (c_L_told_3 l D cA _ cw (ad 0) _ l0 _ _ _ _ (k1b (ix (nI (aa)) n) (fun t => ix (nI (pp)) (tr t * le t))) (nI (aa)) (nI (pp)) (fun sz9 => c_X4_along l hlt D cA sz9 cw ad T Bd E PT PB PE n tr le sl mo la fc bo nd mk ck ct hd pq nj fw jf dl dn oc s8 s9 s10 s11 s12 hL hI (nI (aa)) (nI (pp))) (fun _ _ h => h)) gL_tells_L_told rfl ⟨rfl, rfl⟩ ⟨by decide +kernel, (Nat.le_of_ble_eq_true rfl), (Nat.le_of_ble_eq_true rfl)⟩ hl.1 rfl (Nat.le_of_ble_eq_true rfl) ⟨by show _ ≤ 96; omega, by show _ ≤ 700; omega⟩ rfl dL_tells_262 (fun r9 u9 H locs hp9 hP hD hS hz => ?_)
                  rcases u9 with ⟨t9, q9⟩ | u9
                  · dsimp only [zwP] at hp9
                    obtain ⟨htn, hv0, hqn, hv1, hr9⟩ := hp9
                    have e9 := (nI_eq (by omega) (by omega)).mp hv0
                    subst e9
                    have e8 := (nI_eq (by omega) (by omega)).mp hv1
                    omega
                  · dsimp only [zwP] at hp9
                    obtain ⟨hr9, hK9, E9, hE9⟩ := hp9
                    have hr9 : r9 = (-101) := by rw [hr9, show (k1b (ix (nI (aa)) n) (fun t => ix (nI (pp)) (tr t * le t))) = 1 from k1b_2 (ix_in (by omega) hat) (by rw [ix_nI (by omega), if_neg (by omega)])]; rfl
                    subst hr9
                    have hP : va_P D vwCl ((lz, zInts cA 20 (colF Lf (wl fw (nI aa) nj))) :: (g 0, zInts cA 4 cf) :: (g 1, zInts cA 24 tf) :: (g 2, zInts cA 24 ff) :: (g 3, zInts cA 10 vf) :: (g 4, zInts cA 40 jj) :: (g 5, zInts cA 20 lt) :: (g 6, zInts cA 20 dd) :: cw) H := hP
                    have hD : va_D A ((lz, zInts cA 20 (colF Lf (wl fw (nI aa) nj))) :: (g 0, zInts cA 4 cf) :: (g 1, zInts cA 24 tf) :: (g 2, zInts cA 24 ff) :: (g 3, zInts cA 10 vf) :: (g 4, zInts cA 40 jj) :: (g 5, zInts cA 20 lt) :: (g 6, zInts cA 20 dd) :: cw) := hD
                    refine lv_iload hx hb dL_tells_265 (lv_at hl 0 rfl) ?_
                    refine zb_eq (tgt := 285) hx hb dL_tells_267 (by decide) (fun c_84 => ?_) (fun c_84 => Bool.noConfusion c_84)
                    refine lv_bipush (v := (-101)) hx hb dL_tells_285 (by decide) ?_
                    refine lv_icmp_eq (tgt := 292) hx hb dL_tells_287 (by decide) (fun c_85 => ?_) (fun c_85 => absurd rfl c_85)
                    refine W.widen (k := 1 + 8 * aa + 7) (n := 20 + 60 * aa + 42) (by omega) (by omega) ?_
                    exact J292 () H locs ls ⟨lv_sub hl [3, 4, 5, 6, 7, 8, 9, 10, 11, 12, 13, 14, 15, 16, 17, 18] rfl, hP, hD, hS⟩
      · skip
        rcases hmo : mo aa with _ | j0
        · have qm : tf (12 + aa) = -1 := by rw [qa4, hmo]; rfl
          refine lv_aload_n hx hb dL_tells_65 rfl (lv_at hl 3 rfl) ?_
          refine lv_iconst (v := nI (0)) hx hb dL_tells_66 (by decide) ?_
          refine lv_iload hx hb dL_tells_67 (lv_at hl 15 rfl) ?_
          refine lv_iconst (v := nI (0)) hx hb dL_tells_69 (by decide) ?_
          refine ze_H_i (n := 4) (mc := 1) (ms := 6) (ws := cw) (es := [(lz, zInts cA 20 (colF Lf (wl fw (nI aa) nj))), (g 0, zInts cA 4 cf), (g 1, zInts cA 24 tf), (g 2, zInts cA 24 ff), (g 3, zInts cA 10 vf), (g 4, zInts cA 40 jj), (g 5, zInts cA 20 lt), (g 6, zInts cA 20 dd)]) (As := [.ref (ad 0), .int (nI (0)), .int (nI (aa)), .int (nI (0))]) (rest := []) hx hb hml hts hown hZ hX hN [0, 1, 2, 3, 4, 5, 6, 7] rfl rfl hP hD hS hA (c_L_told_0 l D cA _ cw (ad 0) _ l0 _ _ _ _ (k1 (ix (nI (aa)) n)) (nI (aa)) (nI (0)) (fun sz9 => c_X4_placeOf l hlt D cA sz9 cw ad T Bd E PT PB PE n tr le sl mo la fc bo nd mk ck ct hd pq nj fw jf dl dn oc s8 s9 s10 s11 s12 hL hI (nI (aa))) (fun _ _ h => h)) gL_tells_L_told rfl ⟨rfl, rfl⟩ ⟨by decide +kernel, (Nat.le_of_ble_eq_true rfl), (Nat.le_of_ble_eq_true rfl)⟩ hl.1 rfl (Nat.le_of_ble_eq_true rfl) ⟨by show _ ≤ 96; omega, by show _ ≤ 700; omega⟩ rfl dL_tells_70 (fun r9 u9 H locs hp9 hP hD hS hz => ?_)
          rcases u9 with t9 | u9
          · dsimp only [zwP] at hp9
            obtain ⟨htn, hv0, hr9⟩ := hp9
            have e9 := (nI_eq (by omega) (by omega)).mp hv0
            subst e9
            have hpr : placeR mo sl aa = nI (sl aa) := by unfold placeR; rw [hmo]; rfl
            rw [hpr] at hr9
            subst hr9
            have hP : va_P D vwCl ((lz, zInts cA 20 (colF Lf (wl fw (nI aa) nj))) :: (g 0, zInts cA 4 cf) :: (g 1, zInts cA 24 tf) :: (g 2, zInts cA 24 ff) :: (g 3, zInts cA 10 vf) :: (g 4, zInts cA 40 jj) :: (g 5, zInts cA 20 lt) :: (g 6, zInts cA 20 dd) :: cw) H := hP
            have hD : va_D A ((lz, zInts cA 20 (colF Lf (wl fw (nI aa) nj))) :: (g 0, zInts cA 4 cf) :: (g 1, zInts cA 24 tf) :: (g 2, zInts cA 24 ff) :: (g 3, zInts cA 10 vf) :: (g 4, zInts cA 40 jj) :: (g 5, zInts cA 20 lt) :: (g 6, zInts cA 20 dd) :: cw) := hD
            refine lv_iload hx hb dL_tells_73 (lv_at hl 1 rfl) ?_
            refine zb_ne (tgt := 83) hx hb dL_tells_75 (by decide) (fun c_86 => ?_) (fun c_86 => Bool.noConfusion c_86)
            refine lv_aload_n hx hb dL_tells_83 rfl (lv_at hl 6 rfl) ?_
            refine lv_bipush (v := nI (12)) hx hb dL_tells_84 (by decide) ?_
            refine lv_iload hx hb dL_tells_86 (lv_at hl 15 rfl) ?_
            refine zo_add hx hb dL_tells_88 ?_
            refine va_iald hx hb hZ.1 hP 2 0 rfl rfl (vp_in_nI (show 12 + aa < 24 by omega) (by omega)) dL_tells_89 ?_
            rw [nI_clamp (show 12 + aa < 2 ^ 31 by omega)]
            refine zx_val (y := (-1)) (qm) ?_
            refine lv_if_ge (tgt := 103) hx hb dL_tells_90 (by decide) (fun c_87 => absurd c_87 (by decide)) (fun c_87 => ?_)
            refine lv_aload_n hx hb dL_tells_93 rfl (lv_at hl 6 rfl) ?_
            refine lv_bipush (v := nI (8)) hx hb dL_tells_94 (by decide) ?_
            refine lv_iload hx hb dL_tells_96 (lv_at hl 15 rfl) ?_
            refine zo_add hx hb dL_tells_98 ?_
            refine va_iald hx hb hZ.1 hP 2 0 rfl rfl (vp_in_nI (show 8 + aa < 24 by omega) (by omega)) dL_tells_99 ?_
            rw [nI_clamp (show 8 + aa < 2 ^ 31 by omega)]
            refine zx_val (y := nI (sl aa)) (qa3) ?_
            refine lv_goto (tgt := 112) hx hb dL_tells_100 (by decide) ?_
            refine lv_icmp_ne (tgt := 156) hx hb dL_tells_112 (by decide) (fun c_88 => absurd rfl c_88) (fun c_88 => ?_)
            refine lv_aload_n hx hb dL_tells_115 rfl (lv_at hl 3 rfl) ?_
            refine lv_iconst (v := nI (1)) hx hb dL_tells_116 (by decide) ?_
            refine lv_iload hx hb dL_tells_117 (lv_at hl 15 rfl) ?_
            refine lv_iconst (v := nI (0)) hx hb dL_tells_119 (by decide) ?_
            refine ze_H_i (n := 4) (mc := 1) (ms := 6) (ws := cw) (es := [(lz, zInts cA 20 (colF Lf (wl fw (nI aa) nj))), (g 0, zInts cA 4 cf), (g 1, zInts cA 24 tf), (g 2, zInts cA 24 ff), (g 3, zInts cA 10 vf), (g 4, zInts cA 40 jj), (g 5, zInts cA 20 lt), (g 6, zInts cA 20 dd)]) (As := [.ref (ad 0), .int (nI (1)), .int (nI (aa)), .int (nI (0))]) (rest := []) hx hb hml hts hown hZ hX hN [0, 1, 2, 3, 4, 5, 6, 7] rfl rfl hP hD hS hA (c_L_told_1 l D cA _ cw (ad 0) _ l0 _ _ _ _ (k1 (ix (nI (aa)) n)) (nI (aa)) (nI (0)) (fun sz9 => c_X4_files l hlt D cA sz9 cw ad T Bd E PT PB PE n tr le sl mo la fc bo nd mk ck ct hd pq nj fw jf dl dn oc s8 s9 s10 s11 s12 hL hI (nI (aa))) (fun _ _ h => h)) gL_tells_L_told rfl ⟨rfl, rfl⟩ ⟨by decide +kernel, (Nat.le_of_ble_eq_true rfl), (Nat.le_of_ble_eq_true rfl)⟩ hl.1 rfl (Nat.le_of_ble_eq_true rfl) ⟨by show _ ≤ 96; omega, by show _ ≤ 700; omega⟩ rfl dL_tells_120 (fun r9 u9 H locs hp9 hP hD hS hz => ?_)
            rcases u9 with t9 | u9
            · dsimp only [zwP] at hp9
              obtain ⟨htn, hv0, hr9⟩ := hp9
              have e9 := (nI_eq (by omega) (by omega)).mp hv0
              subst e9
              subst hr9
              have hP : va_P D vwCl ((lz, zInts cA 20 (colF Lf (wl fw (nI aa) nj))) :: (g 0, zInts cA 4 cf) :: (g 1, zInts cA 24 tf) :: (g 2, zInts cA 24 ff) :: (g 3, zInts cA 10 vf) :: (g 4, zInts cA 40 jj) :: (g 5, zInts cA 20 lt) :: (g 6, zInts cA 20 dd) :: cw) H := hP
              have hD : va_D A ((lz, zInts cA 20 (colF Lf (wl fw (nI aa) nj))) :: (g 0, zInts cA 4 cf) :: (g 1, zInts cA 24 tf) :: (g 2, zInts cA 24 ff) :: (g 3, zInts cA 10 vf) :: (g 4, zInts cA 40 jj) :: (g 5, zInts cA 20 lt) :: (g 6, zInts cA 20 dd) :: cw) := hD
              refine lv_iload hx hb dL_tells_123 (lv_at hl 1 rfl) ?_
              refine zb_eq (tgt := 138) hx hb dL_tells_125 (by decide) (fun c_89 => Bool.noConfusion c_89) (fun c_89 => ?_)
              refine lv_aload_n hx hb dL_tells_128 rfl (lv_at hl 6 rfl) ?_
              refine lv_bipush (v := nI (20)) hx hb dL_tells_129 (by decide) ?_
              refine lv_iload hx hb dL_tells_131 (lv_at hl 15 rfl) ?_
              refine zo_add hx hb dL_tells_133 ?_
              refine va_iald hx hb hZ.1 hP 2 0 rfl rfl (vp_in_nI (show 20 + aa < 24 by omega) (by omega)) dL_tells_134 ?_
              rw [nI_clamp (show 20 + aa < 2 ^ 31 by omega)]
              refine zx_val (y := nI (fc aa)) (qa6) ?_
              refine lv_goto (tgt := 140) hx hb dL_tells_135 (by decide) ?_
              refine lv_icmp_ne (tgt := 156) hx hb dL_tells_140 (by decide) (fun c_90 => absurd rfl c_90) (fun c_90 => ?_)
              refine lv_aload_n hx hb dL_tells_143 rfl (lv_at hl 3 rfl) ?_
              refine lv_iconst (v := nI (4)) hx hb dL_tells_144 (by decide) ?_
              refine lv_iload hx hb dL_tells_145 (lv_at hl 15 rfl) ?_
              refine lv_iconst (v := nI (0)) hx hb dL_tells_147 (by decide) ?_
              refine ze_H_i (n := 4) (mc := 1) (ms := 6) (ws := cw) (es := [(lz, zInts cA 20 (colF Lf (wl fw (nI aa) nj))), (g 0, zInts cA 4 cf), (g 1, zInts cA 24 tf), (g 2, zInts cA 24 ff), (g 3, zInts cA 10 vf), (g 4, zInts cA 40 jj), (g 5, zInts cA 20 lt), (g 6, zInts cA 20 dd)]) (As := [.ref (ad 0), .int (nI (4)), .int (nI (aa)), .int (nI (0))]) (rest := []) hx hb hml hts hown hZ hX hN [0, 1, 2, 3, 4, 5, 6, 7] rfl rfl hP hD hS hA (c_L_told_4 l D cA _ cw (ad 0) _ l0 _ _ _ _ (k1 (ix (nI (aa)) n)) (nI (aa)) (nI (0)) (fun sz9 => c_X4_waiting l hlt D cA sz9 cw ad T Bd E PT PB PE n tr le sl mo la fc bo nd mk ck ct hd pq nj fw jf dl dn oc s8 s9 s10 s11 s12 hL hI (nI (aa))) (fun _ _ h => h)) gL_tells_L_told rfl ⟨rfl, rfl⟩ ⟨by decide +kernel, (Nat.le_of_ble_eq_true rfl), (Nat.le_of_ble_eq_true rfl)⟩ hl.1 rfl (Nat.le_of_ble_eq_true rfl) ⟨by show _ ≤ 96; omega, by show _ ≤ 700; omega⟩ rfl dL_tells_148 (fun r9 u9 H locs hp9 hP hD hS hz => ?_)
              rcases u9 with t9 | u9
              · dsimp only [zwP] at hp9
                obtain ⟨htn, hv0, hr9⟩ := hp9
                have e9 := (nI_eq (by omega) (by omega)).mp hv0
                subst e9
                subst hr9
                have hP : va_P D vwCl ((lz, zInts cA 20 (colF Lf (wl fw (nI aa) nj))) :: (g 0, zInts cA 4 cf) :: (g 1, zInts cA 24 tf) :: (g 2, zInts cA 24 ff) :: (g 3, zInts cA 10 vf) :: (g 4, zInts cA 40 jj) :: (g 5, zInts cA 20 lt) :: (g 6, zInts cA 20 dd) :: cw) H := hP
                have hD : va_D A ((lz, zInts cA 20 (colF Lf (wl fw (nI aa) nj))) :: (g 0, zInts cA 4 cf) :: (g 1, zInts cA 24 tf) :: (g 2, zInts cA 24 ff) :: (g 3, zInts cA 10 vf) :: (g 4, zInts cA 40 jj) :: (g 5, zInts cA 20 lt) :: (g 6, zInts cA 20 dd) :: cw) := hD
                refine lv_iload hx hb dL_tells_151 (lv_at hl 0 rfl) ?_
                refine lv_icmp_eq (tgt := 158) hx hb dL_tells_153 (by decide) (fun c_91 => ?_) (fun c_91 => absurd rfl c_91)
                refine W.widen (k := 1 + 8 * aa + 3) (n := 20 + 60 * aa + 18) (by omega) (by omega) ?_
                exact J158 () H locs ls ⟨lv_sub hl [0, 1, 2, 3, 4, 5, 6, 7, 8, 9, 10, 11, 12, 13, 14, 15] rfl, hP, hD, hS⟩
              · exact absurd (show (k1 (ix (nI (aa)) n)) = 0 from k1_0 (ix_in (by omega) hat)) hp9.2.1
            · exact absurd (show (k1 (ix (nI (aa)) n)) = 0 from k1_0 (ix_in (by omega) hat)) hp9.2.1
          · exact absurd (show (k1 (ix (nI (aa)) n)) = 0 from k1_0 (ix_in (by omega) hat)) hp9.2.1
        · have qm : tf (12 + aa) = nI j0 := by rw [qa4, hmo]; rfl
          have hj9 := (t6 j0 hmo).1
          refine lv_aload_n hx hb dL_tells_65 rfl (lv_at hl 3 rfl) ?_
          refine lv_iconst (v := nI (0)) hx hb dL_tells_66 (by decide) ?_
          refine lv_iload hx hb dL_tells_67 (lv_at hl 15 rfl) ?_
          refine lv_iconst (v := nI (0)) hx hb dL_tells_69 (by decide) ?_
          refine ze_H_i (n := 4) (mc := 1) (ms := 6) (ws := cw) (es := [(lz, zInts cA 20 (colF Lf (wl fw (nI aa) nj))), (g 0, zInts cA 4 cf), (g 1, zInts cA 24 tf), (g 2, zInts cA 24 ff), (g 3, zInts cA 10 vf), (g 4, zInts cA 40 jj), (g 5, zInts cA 20 lt), (g 6, zInts cA 20 dd)]) (As := [.ref (ad 0), .int (nI (0)), .int (nI (aa)), .int (nI (0))]) (rest := []) hx hb hml hts hown hZ hX hN [0, 1, 2, 3, 4, 5, 6, 7] rfl rfl hP hD hS hA (c_L_told_0 l D cA _ cw (ad 0) _ l0 _ _ _ _ (k1 (ix (nI (aa)) n)) (nI (aa)) (nI (0)) (fun sz9 => c_X4_placeOf l hlt D cA sz9 cw ad T Bd E PT PB PE n tr le sl mo la fc bo nd mk ck ct hd pq nj fw jf dl dn oc s8 s9 s10 s11 s12 hL hI (nI (aa))) (fun _ _ h => h)) gL_tells_L_told rfl ⟨rfl, rfl⟩ ⟨by decide +kernel, (Nat.le_of_ble_eq_true rfl), (Nat.le_of_ble_eq_true rfl)⟩ hl.1 rfl (Nat.le_of_ble_eq_true rfl) ⟨by show _ ≤ 96; omega, by show _ ≤ 700; omega⟩ rfl dL_tells_70 (fun r9 u9 H locs hp9 hP hD hS hz => ?_)
          rcases u9 with t9 | u9
          · dsimp only [zwP] at hp9
            obtain ⟨htn, hv0, hr9⟩ := hp9
            have e9 := (nI_eq (by omega) (by omega)).mp hv0
            subst e9
            have hpr : placeR mo sl aa = (-1) - nI j0 := by unfold placeR; rw [hmo]; rfl
            rw [hpr] at hr9
            subst hr9
            have hP : va_P D vwCl ((lz, zInts cA 20 (colF Lf (wl fw (nI aa) nj))) :: (g 0, zInts cA 4 cf) :: (g 1, zInts cA 24 tf) :: (g 2, zInts cA 24 ff) :: (g 3, zInts cA 10 vf) :: (g 4, zInts cA 40 jj) :: (g 5, zInts cA 20 lt) :: (g 6, zInts cA 20 dd) :: cw) H := hP
            have hD : va_D A ((lz, zInts cA 20 (colF Lf (wl fw (nI aa) nj))) :: (g 0, zInts cA 4 cf) :: (g 1, zInts cA 24 tf) :: (g 2, zInts cA 24 ff) :: (g 3, zInts cA 10 vf) :: (g 4, zInts cA 40 jj) :: (g 5, zInts cA 20 lt) :: (g 6, zInts cA 20 dd) :: cw) := hD
            refine lv_iload hx hb dL_tells_73 (lv_at hl 1 rfl) ?_
            refine zb_ne (tgt := 83) hx hb dL_tells_75 (by decide) (fun c_92 => ?_) (fun c_92 => Bool.noConfusion c_92)
            refine lv_aload_n hx hb dL_tells_83 rfl (lv_at hl 6 rfl) ?_
            refine lv_bipush (v := nI (12)) hx hb dL_tells_84 (by decide) ?_
            refine lv_iload hx hb dL_tells_86 (lv_at hl 15 rfl) ?_
            refine zo_add hx hb dL_tells_88 ?_
            refine va_iald hx hb hZ.1 hP 2 0 rfl rfl (vp_in_nI (show 12 + aa < 24 by omega) (by omega)) dL_tells_89 ?_
            rw [nI_clamp (show 12 + aa < 2 ^ 31 by omega)]
            refine zx_val (y := nI (j0)) (qm) ?_
            refine zf_ge (tgt := 103) hx hb (by omega) dL_tells_90 (by decide) ?_
            refine lv_iconst (v := (-1)) hx hb dL_tells_103 (by decide) ?_
            refine lv_aload_n hx hb dL_tells_104 rfl (lv_at hl 6 rfl) ?_
            refine lv_bipush (v := nI (12)) hx hb dL_tells_105 (by decide) ?_
            refine lv_iload hx hb dL_tells_107 (lv_at hl 15 rfl) ?_
            refine zo_add hx hb dL_tells_109 ?_
            refine va_iald hx hb hZ.1 hP 2 0 rfl rfl (vp_in_nI (show 12 + aa < 24 by omega) (by omega)) dL_tells_110 ?_
            rw [nI_clamp (show 12 + aa < 2 ^ 31 by omega)]
            refine zx_val (y := nI (j0)) (qm) ?_
            refine lv_isub hx hb dL_tells_111 ?_
            refine lv_icmp_ne (tgt := 156) hx hb dL_tells_112 (by decide) (fun c_94 => absurd rfl c_94) (fun c_94 => ?_)
            refine lv_aload_n hx hb dL_tells_115 rfl (lv_at hl 3 rfl) ?_
            refine lv_iconst (v := nI (1)) hx hb dL_tells_116 (by decide) ?_
            refine lv_iload hx hb dL_tells_117 (lv_at hl 15 rfl) ?_
            refine lv_iconst (v := nI (0)) hx hb dL_tells_119 (by decide) ?_
            refine ze_H_i (n := 4) (mc := 1) (ms := 6) (ws := cw) (es := [(lz, zInts cA 20 (colF Lf (wl fw (nI aa) nj))), (g 0, zInts cA 4 cf), (g 1, zInts cA 24 tf), (g 2, zInts cA 24 ff), (g 3, zInts cA 10 vf), (g 4, zInts cA 40 jj), (g 5, zInts cA 20 lt), (g 6, zInts cA 20 dd)]) (As := [.ref (ad 0), .int (nI (1)), .int (nI (aa)), .int (nI (0))]) (rest := []) hx hb hml hts hown hZ hX hN [0, 1, 2, 3, 4, 5, 6, 7] rfl rfl hP hD hS hA (c_L_told_1 l D cA _ cw (ad 0) _ l0 _ _ _ _ (k1 (ix (nI (aa)) n)) (nI (aa)) (nI (0)) (fun sz9 => c_X4_files l hlt D cA sz9 cw ad T Bd E PT PB PE n tr le sl mo la fc bo nd mk ck ct hd pq nj fw jf dl dn oc s8 s9 s10 s11 s12 hL hI (nI (aa))) (fun _ _ h => h)) gL_tells_L_told rfl ⟨rfl, rfl⟩ ⟨by decide +kernel, (Nat.le_of_ble_eq_true rfl), (Nat.le_of_ble_eq_true rfl)⟩ hl.1 rfl (Nat.le_of_ble_eq_true rfl) ⟨by show _ ≤ 96; omega, by show _ ≤ 700; omega⟩ rfl dL_tells_120 (fun r9 u9 H locs hp9 hP hD hS hz => ?_)
            rcases u9 with t9 | u9
            · dsimp only [zwP] at hp9
              obtain ⟨htn, hv0, hr9⟩ := hp9
              have e9 := (nI_eq (by omega) (by omega)).mp hv0
              subst e9
              subst hr9
              have hP : va_P D vwCl ((lz, zInts cA 20 (colF Lf (wl fw (nI aa) nj))) :: (g 0, zInts cA 4 cf) :: (g 1, zInts cA 24 tf) :: (g 2, zInts cA 24 ff) :: (g 3, zInts cA 10 vf) :: (g 4, zInts cA 40 jj) :: (g 5, zInts cA 20 lt) :: (g 6, zInts cA 20 dd) :: cw) H := hP
              have hD : va_D A ((lz, zInts cA 20 (colF Lf (wl fw (nI aa) nj))) :: (g 0, zInts cA 4 cf) :: (g 1, zInts cA 24 tf) :: (g 2, zInts cA 24 ff) :: (g 3, zInts cA 10 vf) :: (g 4, zInts cA 40 jj) :: (g 5, zInts cA 20 lt) :: (g 6, zInts cA 20 dd) :: cw) := hD
              refine lv_iload hx hb dL_tells_123 (lv_at hl 1 rfl) ?_
              refine zb_eq (tgt := 138) hx hb dL_tells_125 (by decide) (fun c_95 => Bool.noConfusion c_95) (fun c_95 => ?_)
              refine lv_aload_n hx hb dL_tells_128 rfl (lv_at hl 6 rfl) ?_
              refine lv_bipush (v := nI (20)) hx hb dL_tells_129 (by decide) ?_
              refine lv_iload hx hb dL_tells_131 (lv_at hl 15 rfl) ?_
              refine zo_add hx hb dL_tells_133 ?_
              refine va_iald hx hb hZ.1 hP 2 0 rfl rfl (vp_in_nI (show 20 + aa < 24 by omega) (by omega)) dL_tells_134 ?_
              rw [nI_clamp (show 20 + aa < 2 ^ 31 by omega)]
              refine zx_val (y := nI (fc aa)) (qa6) ?_
              refine lv_goto (tgt := 140) hx hb dL_tells_135 (by decide) ?_
              refine lv_icmp_ne (tgt := 156) hx hb dL_tells_140 (by decide) (fun c_96 => absurd rfl c_96) (fun c_96 => ?_)
              refine lv_aload_n hx hb dL_tells_143 rfl (lv_at hl 3 rfl) ?_
              refine lv_iconst (v := nI (4)) hx hb dL_tells_144 (by decide) ?_
              refine lv_iload hx hb dL_tells_145 (lv_at hl 15 rfl) ?_
              refine lv_iconst (v := nI (0)) hx hb dL_tells_147 (by decide) ?_
              refine ze_H_i (n := 4) (mc := 1) (ms := 6) (ws := cw) (es := [(lz, zInts cA 20 (colF Lf (wl fw (nI aa) nj))), (g 0, zInts cA 4 cf), (g 1, zInts cA 24 tf), (g 2, zInts cA 24 ff), (g 3, zInts cA 10 vf), (g 4, zInts cA 40 jj), (g 5, zInts cA 20 lt), (g 6, zInts cA 20 dd)]) (As := [.ref (ad 0), .int (nI (4)), .int (nI (aa)), .int (nI (0))]) (rest := []) hx hb hml hts hown hZ hX hN [0, 1, 2, 3, 4, 5, 6, 7] rfl rfl hP hD hS hA (c_L_told_4 l D cA _ cw (ad 0) _ l0 _ _ _ _ (k1 (ix (nI (aa)) n)) (nI (aa)) (nI (0)) (fun sz9 => c_X4_waiting l hlt D cA sz9 cw ad T Bd E PT PB PE n tr le sl mo la fc bo nd mk ck ct hd pq nj fw jf dl dn oc s8 s9 s10 s11 s12 hL hI (nI (aa))) (fun _ _ h => h)) gL_tells_L_told rfl ⟨rfl, rfl⟩ ⟨by decide +kernel, (Nat.le_of_ble_eq_true rfl), (Nat.le_of_ble_eq_true rfl)⟩ hl.1 rfl (Nat.le_of_ble_eq_true rfl) ⟨by show _ ≤ 96; omega, by show _ ≤ 700; omega⟩ rfl dL_tells_148 (fun r9 u9 H locs hp9 hP hD hS hz => ?_)
              rcases u9 with t9 | u9
              · dsimp only [zwP] at hp9
                obtain ⟨htn, hv0, hr9⟩ := hp9
                have e9 := (nI_eq (by omega) (by omega)).mp hv0
                subst e9
                subst hr9
                have hP : va_P D vwCl ((lz, zInts cA 20 (colF Lf (wl fw (nI aa) nj))) :: (g 0, zInts cA 4 cf) :: (g 1, zInts cA 24 tf) :: (g 2, zInts cA 24 ff) :: (g 3, zInts cA 10 vf) :: (g 4, zInts cA 40 jj) :: (g 5, zInts cA 20 lt) :: (g 6, zInts cA 20 dd) :: cw) H := hP
                have hD : va_D A ((lz, zInts cA 20 (colF Lf (wl fw (nI aa) nj))) :: (g 0, zInts cA 4 cf) :: (g 1, zInts cA 24 tf) :: (g 2, zInts cA 24 ff) :: (g 3, zInts cA 10 vf) :: (g 4, zInts cA 40 jj) :: (g 5, zInts cA 20 lt) :: (g 6, zInts cA 20 dd) :: cw) := hD
                refine lv_iload hx hb dL_tells_151 (lv_at hl 0 rfl) ?_
                refine lv_icmp_eq (tgt := 158) hx hb dL_tells_153 (by decide) (fun c_97 => ?_) (fun c_97 => absurd rfl c_97)
                refine W.widen (k := 1 + 8 * aa + 3) (n := 20 + 60 * aa + 18) (by omega) (by omega) ?_
                exact J158 () H locs ls ⟨lv_sub hl [0, 1, 2, 3, 4, 5, 6, 7, 8, 9, 10, 11, 12, 13, 14, 15] rfl, hP, hD, hS⟩
              · exact absurd (show (k1 (ix (nI (aa)) n)) = 0 from k1_0 (ix_in (by omega) hat)) hp9.2.1
            · exact absurd (show (k1 (ix (nI (aa)) n)) = 0 from k1_0 (ix_in (by omega) hat)) hp9.2.1
          · exact absurd (show (k1 (ix (nI (aa)) n)) = 0 from k1_0 (ix_in (by omega) hat)) hp9.2.1
    · have hmin : min aa n = n := by omega
      have hmi : min (aa + 1) n = n := by omega
      rw [hmin] at hnx hfs
      have hK1 := hnx
      have hK2 := hfs
      refine lv_iload hx hb dL_tells_26 (lv_at hl 13 rfl) ?_
      refine lv_aload_n hx hb dL_tells_28 rfl (lv_at hl 3 rfl) ?_
      refine lv_iconst (v := nI (0)) hx hb dL_tells_29 (by decide) ?_
      refine va_iald hx hb hZ.1 hP 1 0 rfl rfl (vp_in_nI (show 0 < 4 by omega) (by omega)) dL_tells_30 ?_
      rw [nI_clamp (show 0 < 2 ^ 31 by omega)]
      refine zx_val (y := nI (n)) (c0) ?_
      refine zc_ge (tgt := 38) hx hb (by omega) (by omega) dL_tells_31 (by decide) (fun c_98 => ?_) (fun c_98 => False.elim (by omega))
      refine lv_iconst (v := bI (false)) hx hb dL_tells_38 (by decide) ?_
      refine lv_istore (lv' := [(14, .int (bI (false))), (9, .ref lz), (0, .ref (ad 0)), (1, .int (y)), (2, .ref (g 0)), (3, .ref (g 1)), (4, .ref (g 2)), (5, .ref (g 3)), (6, .ref (g 4)), (7, .ref (g 5)), (8, .ref (g 6)), (10, .int (nx)), (11, .int (fs)), (12, .int (ms9)), (13, .int (nI (aa)))]) hx hb dL_tells_39 hl (by decide) rfl (fun ls hl => ?_)
      refine lv_iload hx hb dL_tells_41 (lv_at hl 0 rfl) ?_
      refine zb_eq (tgt := 61) hx hb dL_tells_43 (by decide) (fun c_99 => ?_) (fun c_99 => Bool.noConfusion c_99)
      refine lv_bipush (v := (-101)) hx hb dL_tells_61 (by decide) ?_
      refine lv_istore (lv' := [(15, .int ((-101))), (14, .int (bI (false))), (9, .ref lz), (0, .ref (ad 0)), (1, .int (y)), (2, .ref (g 0)), (3, .ref (g 1)), (4, .ref (g 2)), (5, .ref (g 3)), (6, .ref (g 4)), (7, .ref (g 5)), (8, .ref (g 6)), (10, .int (nx)), (11, .int (fs)), (12, .int (ms9)), (13, .int (nI (aa)))]) hx hb dL_tells_63 hl (by decide) rfl (fun ls hl => ?_)
      refine lv_aload_n hx hb dL_tells_65 rfl (lv_at hl 3 rfl) ?_
      refine lv_iconst (v := nI (0)) hx hb dL_tells_66 (by decide) ?_
      refine lv_iload hx hb dL_tells_67 (lv_at hl 15 rfl) ?_
      refine lv_iconst (v := nI (0)) hx hb dL_tells_69 (by decide) ?_
      refine ze_H_i (n := 4) (mc := 1) (ms := 6) (ws := cw) (es := [(lz, zInts cA 20 Lf), (g 0, zInts cA 4 cf), (g 1, zInts cA 24 tf), (g 2, zInts cA 24 ff), (g 3, zInts cA 10 vf), (g 4, zInts cA 40 jj), (g 5, zInts cA 20 lt), (g 6, zInts cA 20 dd)]) (As := [.ref (ad 0), .int (nI (0)), .int (nI (aa)), .int (nI (0))]) (rest := []) hx hb hml hts hown hZ hX hN [0, 1, 2, 3, 4, 5, 6, 7] rfl rfl hP hD hS hA (c_L_told_0 l D cA _ cw (ad 0) _ l0 _ _ _ _ (k1 (ix (nI (aa)) n)) (nI (aa)) (nI (0)) (fun sz9 => c_X4_placeOf l hlt D cA sz9 cw ad T Bd E PT PB PE n tr le sl mo la fc bo nd mk ck ct hd pq nj fw jf dl dn oc s8 s9 s10 s11 s12 hL hI (nI (aa))) (fun _ _ h => h)) gL_tells_L_told rfl ⟨rfl, rfl⟩ ⟨by decide +kernel, (Nat.le_of_ble_eq_true rfl), (Nat.le_of_ble_eq_true rfl)⟩ hl.1 rfl (Nat.le_of_ble_eq_true rfl) ⟨by show _ ≤ 96; omega, by show _ ≤ 700; omega⟩ rfl dL_tells_70 (fun r9 u9 H locs hp9 hP hD hS hz => ?_)
      rcases u9 with t9 | u9
      · dsimp only [zwP] at hp9
        obtain ⟨htn, hv0, hr9⟩ := hp9
        have e9 := (nI_eq (by omega) (by omega)).mp hv0
        omega
      · dsimp only [zwP] at hp9
        obtain ⟨hr9, hK9, E9, hE9⟩ := hp9
        have hr9 : r9 = (-101) := by rw [hr9, show (k1 (ix (nI (aa)) n)) = 1 from k1_1 (by rw [ix_nI (by omega), if_neg (by omega)])]; rfl
        subst hr9
        have hP : va_P D vwCl ((lz, zInts cA 20 Lf) :: (g 0, zInts cA 4 cf) :: (g 1, zInts cA 24 tf) :: (g 2, zInts cA 24 ff) :: (g 3, zInts cA 10 vf) :: (g 4, zInts cA 40 jj) :: (g 5, zInts cA 20 lt) :: (g 6, zInts cA 20 dd) :: cw) H := hP
        have hD : va_D A ((lz, zInts cA 20 Lf) :: (g 0, zInts cA 4 cf) :: (g 1, zInts cA 24 tf) :: (g 2, zInts cA 24 ff) :: (g 3, zInts cA 10 vf) :: (g 4, zInts cA 40 jj) :: (g 5, zInts cA 20 lt) :: (g 6, zInts cA 20 dd) :: cw) := hD
        refine lv_iload hx hb dL_tells_73 (lv_at hl 1 rfl) ?_
        refine zb_ne (tgt := 83) hx hb dL_tells_75 (by decide) (fun c_100 => Bool.noConfusion c_100) (fun c_100 => ?_)
        refine lv_bipush (v := (-101)) hx hb dL_tells_78 (by decide) ?_
        refine lv_goto (tgt := 112) hx hb dL_tells_80 (by decide) ?_
        refine lv_icmp_ne (tgt := 156) hx hb dL_tells_112 (by decide) (fun c_101 => absurd rfl c_101) (fun c_101 => ?_)
        refine lv_aload_n hx hb dL_tells_115 rfl (lv_at hl 3 rfl) ?_
        refine lv_iconst (v := nI (1)) hx hb dL_tells_116 (by decide) ?_
        refine lv_iload hx hb dL_tells_117 (lv_at hl 15 rfl) ?_
        refine lv_iconst (v := nI (0)) hx hb dL_tells_119 (by decide) ?_
        refine ze_H_i (n := 4) (mc := 1) (ms := 6) (ws := cw) (es := [(lz, zInts cA 20 Lf), (g 0, zInts cA 4 cf), (g 1, zInts cA 24 tf), (g 2, zInts cA 24 ff), (g 3, zInts cA 10 vf), (g 4, zInts cA 40 jj), (g 5, zInts cA 20 lt), (g 6, zInts cA 20 dd)]) (As := [.ref (ad 0), .int (nI (1)), .int (nI (aa)), .int (nI (0))]) (rest := []) hx hb hml hts hown hZ hX hN [0, 1, 2, 3, 4, 5, 6, 7] rfl rfl hP hD hS hA (c_L_told_1 l D cA _ cw (ad 0) _ l0 _ _ _ _ (k1 (ix (nI (aa)) n)) (nI (aa)) (nI (0)) (fun sz9 => c_X4_files l hlt D cA sz9 cw ad T Bd E PT PB PE n tr le sl mo la fc bo nd mk ck ct hd pq nj fw jf dl dn oc s8 s9 s10 s11 s12 hL hI (nI (aa))) (fun _ _ h => h)) gL_tells_L_told rfl ⟨rfl, rfl⟩ ⟨by decide +kernel, (Nat.le_of_ble_eq_true rfl), (Nat.le_of_ble_eq_true rfl)⟩ hl.1 rfl (Nat.le_of_ble_eq_true rfl) ⟨by show _ ≤ 96; omega, by show _ ≤ 700; omega⟩ rfl dL_tells_120 (fun r9 u9 H locs hp9 hP hD hS hz => ?_)
        rcases u9 with t9 | u9
        · dsimp only [zwP] at hp9
          obtain ⟨htn, hv0, hr9⟩ := hp9
          have e9 := (nI_eq (by omega) (by omega)).mp hv0
          omega
        · dsimp only [zwP] at hp9
          obtain ⟨hr9, hK9, E9, hE9⟩ := hp9
          have hr9 : r9 = (-101) := by rw [hr9, show (k1 (ix (nI (aa)) n)) = 1 from k1_1 (by rw [ix_nI (by omega), if_neg (by omega)])]; rfl
          subst hr9
          have hP : va_P D vwCl ((lz, zInts cA 20 Lf) :: (g 0, zInts cA 4 cf) :: (g 1, zInts cA 24 tf) :: (g 2, zInts cA 24 ff) :: (g 3, zInts cA 10 vf) :: (g 4, zInts cA 40 jj) :: (g 5, zInts cA 20 lt) :: (g 6, zInts cA 20 dd) :: cw) H := hP
          have hD : va_D A ((lz, zInts cA 20 Lf) :: (g 0, zInts cA 4 cf) :: (g 1, zInts cA 24 tf) :: (g 2, zInts cA 24 ff) :: (g 3, zInts cA 10 vf) :: (g 4, zInts cA 40 jj) :: (g 5, zInts cA 20 lt) :: (g 6, zInts cA 20 dd) :: cw) := hD
          refine lv_iload hx hb dL_tells_123 (lv_at hl 1 rfl) ?_
          refine zb_eq (tgt := 138) hx hb dL_tells_125 (by decide) (fun c_102 => ?_) (fun c_102 => Bool.noConfusion c_102)
          refine lv_bipush (v := (-101)) hx hb dL_tells_138 (by decide) ?_
          refine lv_icmp_ne (tgt := 156) hx hb dL_tells_140 (by decide) (fun c_103 => absurd rfl c_103) (fun c_103 => ?_)
          refine lv_aload_n hx hb dL_tells_143 rfl (lv_at hl 3 rfl) ?_
          refine lv_iconst (v := nI (4)) hx hb dL_tells_144 (by decide) ?_
          refine lv_iload hx hb dL_tells_145 (lv_at hl 15 rfl) ?_
          refine lv_iconst (v := nI (0)) hx hb dL_tells_147 (by decide) ?_
          refine ze_H_i (n := 4) (mc := 1) (ms := 6) (ws := cw) (es := [(lz, zInts cA 20 Lf), (g 0, zInts cA 4 cf), (g 1, zInts cA 24 tf), (g 2, zInts cA 24 ff), (g 3, zInts cA 10 vf), (g 4, zInts cA 40 jj), (g 5, zInts cA 20 lt), (g 6, zInts cA 20 dd)]) (As := [.ref (ad 0), .int (nI (4)), .int (nI (aa)), .int (nI (0))]) (rest := []) hx hb hml hts hown hZ hX hN [0, 1, 2, 3, 4, 5, 6, 7] rfl rfl hP hD hS hA (c_L_told_4 l D cA _ cw (ad 0) _ l0 _ _ _ _ (k1 (ix (nI (aa)) n)) (nI (aa)) (nI (0)) (fun sz9 => c_X4_waiting l hlt D cA sz9 cw ad T Bd E PT PB PE n tr le sl mo la fc bo nd mk ck ct hd pq nj fw jf dl dn oc s8 s9 s10 s11 s12 hL hI (nI (aa))) (fun _ _ h => h)) gL_tells_L_told rfl ⟨rfl, rfl⟩ ⟨by decide +kernel, (Nat.le_of_ble_eq_true rfl), (Nat.le_of_ble_eq_true rfl)⟩ hl.1 rfl (Nat.le_of_ble_eq_true rfl) ⟨by show _ ≤ 96; omega, by show _ ≤ 700; omega⟩ rfl dL_tells_148 (fun r9 u9 H locs hp9 hP hD hS hz => ?_)
          rcases u9 with t9 | u9
          · dsimp only [zwP] at hp9
            obtain ⟨htn, hv0, hr9⟩ := hp9
            have e9 := (nI_eq (by omega) (by omega)).mp hv0
            omega
          · dsimp only [zwP] at hp9
            obtain ⟨hr9, hK9, E9, hE9⟩ := hp9
            have hr9 : r9 = (-101) := by rw [hr9, show (k1 (ix (nI (aa)) n)) = 1 from k1_1 (by rw [ix_nI (by omega), if_neg (by omega)])]; rfl
            subst hr9
            have hP : va_P D vwCl ((lz, zInts cA 20 Lf) :: (g 0, zInts cA 4 cf) :: (g 1, zInts cA 24 tf) :: (g 2, zInts cA 24 ff) :: (g 3, zInts cA 10 vf) :: (g 4, zInts cA 40 jj) :: (g 5, zInts cA 20 lt) :: (g 6, zInts cA 20 dd) :: cw) H := hP
            have hD : va_D A ((lz, zInts cA 20 Lf) :: (g 0, zInts cA 4 cf) :: (g 1, zInts cA 24 tf) :: (g 2, zInts cA 24 ff) :: (g 3, zInts cA 10 vf) :: (g 4, zInts cA 40 jj) :: (g 5, zInts cA 20 lt) :: (g 6, zInts cA 20 dd) :: cw) := hD
            refine lv_iload hx hb dL_tells_151 (lv_at hl 0 rfl) ?_
            refine lv_icmp_eq (tgt := 158) hx hb dL_tells_153 (by decide) (fun c_104 => ?_) (fun c_104 => absurd rfl c_104)
            refine lv_iload_n hx hb dL_tells_158 rfl (lv_at hl 4 rfl) ?_
            refine lv_iconst (v := nI (3)) hx hb dL_tells_159 (by decide) ?_
            refine lv_ishr hx hb dL_tells_160 ?_
            refine lv_bipush (v := nI (7)) hx hb dL_tells_161 (by decide) ?_
            refine zk_S_i (n := 2) (As := [.int ((y) >>> ((nI (3)) &&& 31)), .int (nI (7))]) (rest := []) hx hb hml hts hown hZ hP (c_L_some l D cA _ ((y) >>> ((nI (3)) &&& 31)) 7 (by omega) (by omega)) gL_tells_L_some rfl ⟨rfl, rfl⟩ ⟨by decide +kernel, (Nat.le_of_ble_eq_true rfl), (Nat.le_of_ble_eq_true rfl)⟩ hl.1 rfl (Nat.le_of_ble_eq_true rfl) ⟨by show _ ≤ 96; omega, by show _ ≤ 700; omega⟩ rfl dL_tells_163 (fun rf hrf => ?_)
            obtain ⟨qf, hqf, hbf⟩ : ∃ z, rf = nI z ∧ z < 7 := ⟨_, hrf, sm_lt (by omega)⟩
            subst hqf
            refine lv_istore (lv' := [(16, .int (nI (qf))), (15, .int ((-101))), (14, .int (bI (false))), (9, .ref lz), (0, .ref (ad 0)), (1, .int (y)), (2, .ref (g 0)), (3, .ref (g 1)), (4, .ref (g 2)), (5, .ref (g 3)), (6, .ref (g 4)), (7, .ref (g 5)), (8, .ref (g 6)), (10, .int (nx)), (11, .int (fs)), (12, .int (ms9)), (13, .int (nI (aa)))]) hx hb dL_tells_166 hl (by decide) rfl (fun ls hl => ?_)
            refine lv_iload_n hx hb dL_tells_168 rfl (lv_at hl 5 rfl) ?_
            refine lv_iconst (v := nI (5)) hx hb dL_tells_169 (by decide) ?_
            refine lv_ishr hx hb dL_tells_170 ?_
            refine lv_bipush (v := nI (50)) hx hb dL_tells_171 (by decide) ?_
            refine zk_S_i (n := 2) (As := [.int ((y) >>> ((nI (5)) &&& 31)), .int (nI (50))]) (rest := []) hx hb hml hts hown hZ hP (c_L_some l D cA _ ((y) >>> ((nI (5)) &&& 31)) 50 (by omega) (by omega)) gL_tells_L_some rfl ⟨rfl, rfl⟩ ⟨by decide +kernel, (Nat.le_of_ble_eq_true rfl), (Nat.le_of_ble_eq_true rfl)⟩ hl.1 rfl (Nat.le_of_ble_eq_true rfl) ⟨by show _ ≤ 96; omega, by show _ ≤ 700; omega⟩ rfl dL_tells_173 (fun rp hrp => ?_)
            obtain ⟨qp, hqp, hbp⟩ : ∃ z, rp = nI z ∧ z < 50 := ⟨_, hrp, sm_lt (by omega)⟩
            subst hqp
            refine lv_iconst (v := nI (1)) hx hb dL_tells_176 (by decide) ?_
            obtain ⟨vp, hvp, hVp⟩ := ch_va (q := qp) (x := 1) (by omega)
            refine lv_isub hx hb dL_tells_177 ?_
            refine zx_val (y := vp) hvp ?_
            refine lv_istore (lv' := [(17, .int (vp)), (16, .int (nI (qf))), (15, .int ((-101))), (14, .int (bI (false))), (9, .ref lz), (0, .ref (ad 0)), (1, .int (y)), (2, .ref (g 0)), (3, .ref (g 1)), (4, .ref (g 2)), (5, .ref (g 3)), (6, .ref (g 4)), (7, .ref (g 5)), (8, .ref (g 6)), (10, .int (nx)), (11, .int (fs)), (12, .int (ms9)), (13, .int (nI (aa)))]) hx hb dL_tells_178 hl (by decide) rfl (fun ls hl => ?_)
            refine lv_iload hx hb dL_tells_180 (lv_at hl 3 rfl) ?_
            refine zb_eq (tgt := 210) hx hb dL_tells_182 (by decide) (fun c_105 => ?_) (fun c_105 => Bool.noConfusion c_105)
            refine lv_iconst (v := bI (false)) hx hb dL_tells_210 (by decide) ?_
            refine lv_istore (lv' := [(18, .int (bI (false))), (17, .int (vp)), (16, .int (nI (qf))), (15, .int ((-101))), (14, .int (bI (false))), (9, .ref lz), (0, .ref (ad 0)), (1, .int (y)), (2, .ref (g 0)), (3, .ref (g 1)), (4, .ref (g 2)), (5, .ref (g 3)), (6, .ref (g 4)), (7, .ref (g 5)), (8, .ref (g 6)), (10, .int (nx)), (11, .int (fs)), (12, .int (ms9)), (13, .int (nI (aa)))]) hx hb dL_tells_211 hl (by decide) rfl (fun ls hl => ?_)
            refine lv_aload_n hx hb dL_tells_213 rfl (lv_at hl 6 rfl) ?_
            refine lv_iconst (v := nI (2)) hx hb dL_tells_214 (by decide) ?_
            refine lv_iload hx hb dL_tells_215 (lv_at hl 18 rfl) ?_
            refine lv_iload hx hb dL_tells_217 (lv_at hl 2 rfl) ?_
            refine ze_H_i (n := 4) (mc := 2) (ms := 12) (ws := cw) (es := [(lz, zInts cA 20 Lf), (g 0, zInts cA 4 cf), (g 1, zInts cA 24 tf), (g 2, zInts cA 24 ff), (g 3, zInts cA 10 vf), (g 4, zInts cA 40 jj), (g 5, zInts cA 20 lt), (g 6, zInts cA 20 dd)]) (As := [.ref (ad 0), .int (nI (2)), .int (nI (aa)), .int (nI (qf))]) (rest := []) hx hb hml hts hown hZ hX hN [0, 1, 2, 3, 4, 5, 6, 7] rfl rfl hP hD hS hA (c_L_told_2 l D cA _ cw (ad 0) _ l0 _ _ _ _ (k1b (ix (nI (aa)) n) (fun t => ix (nI (qf)) (fc t))) (nI (aa)) (nI (qf)) (fun sz9 => c_X4_start l hlt D cA sz9 cw ad T Bd E PT PB PE n tr le sl mo la fc bo nd mk ck ct hd pq nj fw jf dl dn oc s8 s9 s10 s11 s12 hL hI (nI (aa)) (nI (qf))) (fun _ _ h => h)) gL_tells_L_told rfl ⟨rfl, rfl⟩ ⟨by decide +kernel, (Nat.le_of_ble_eq_true rfl), (Nat.le_of_ble_eq_true rfl)⟩ hl.1 rfl (Nat.le_of_ble_eq_true rfl) ⟨by show _ ≤ 96; omega, by show _ ≤ 700; omega⟩ rfl dL_tells_219 (fun r9 u9 H locs hp9 hP hD hS hz => ?_)
            rcases u9 with ⟨t9, f9⟩ | u9
            · dsimp only [zwP] at hp9
              obtain ⟨htn, hv0, hfn, hv1, hr9⟩ := hp9
              have e9 := (nI_eq (by omega) (by omega)).mp hv0
              omega
            · dsimp only [zwP] at hp9
              obtain ⟨hr9, hK9, E9, hE9⟩ := hp9
              have hr9 : r9 = (-101) := by rw [hr9, show (k1b (ix (nI (aa)) n) (fun t => ix (nI (qf)) (fc t))) = 1 from k1b_1 (by rw [ix_nI (by omega), if_neg (by omega)])]; rfl
              subst hr9
              have hP : va_P D vwCl ((lz, zInts cA 20 Lf) :: (g 0, zInts cA 4 cf) :: (g 1, zInts cA 24 tf) :: (g 2, zInts cA 24 ff) :: (g 3, zInts cA 10 vf) :: (g 4, zInts cA 40 jj) :: (g 5, zInts cA 20 lt) :: (g 6, zInts cA 20 dd) :: cw) H := hP
              have hD : va_D A ((lz, zInts cA 20 Lf) :: (g 0, zInts cA 4 cf) :: (g 1, zInts cA 24 tf) :: (g 2, zInts cA 24 ff) :: (g 3, zInts cA 10 vf) :: (g 4, zInts cA 40 jj) :: (g 5, zInts cA 20 lt) :: (g 6, zInts cA 20 dd) :: cw) := hD
              refine lv_iload hx hb dL_tells_222 (lv_at hl 4 rfl) ?_
              refine zb_eq (tgt := 251) hx hb dL_tells_224 (by decide) (fun c_106 => ?_) (fun c_106 => Bool.noConfusion c_106)
              refine lv_bipush (v := (-101)) hx hb dL_tells_251 (by decide) ?_
              refine lv_icmp_ne (tgt := 290) hx hb dL_tells_253 (by decide) (fun c_107 => absurd rfl c_107) (fun c_107 => ?_)
              refine lv_aload_n hx hb dL_tells_256 rfl (lv_at hl 6 rfl) ?_
              refine lv_iconst (v := nI (3)) hx hb dL_tells_257 (by decide) ?_
              refine lv_iload hx hb dL_tells_258 (lv_at hl 18 rfl) ?_
              refine lv_iload hx hb dL_tells_260 (lv_at hl 1 rfl) ?_
              refine ze_H_i (n := 4) (mc := 2) (ms := 12) (ws := cw) (es := [(lz, zInts cA 20 Lf), (g 0, zInts cA 4 cf), (g 1, zInts cA 24 tf), (g 2, zInts cA 24 ff), (g 3, zInts cA 10 vf), (g 4, zInts cA 40 jj), (g 5, zInts cA 20 lt), (g 6, zInts cA 20 dd)]) (As := [.ref (ad 0), .int (nI (3)), .int (nI (aa)), .int (vp)]) (rest := []) hx hb hml hts hown hZ hX hN [0, 1, 2, 3, 4, 5, 6, 7] rfl rfl hP hD hS hA (c_L_told_3 l D cA _ cw (ad 0) _ l0 _ _ _ _ (k1b (ix (nI (aa)) n) (fun t => ix vp (tr t * le t))) (nI (aa)) vp (fun sz9 => c_X4_along l hlt D cA sz9 cw ad T Bd E PT PB PE n tr le sl mo la fc bo nd mk ck ct hd pq nj fw jf dl dn oc s8 s9 s10 s11 s12 hL hI (nI (aa)) vp) (fun _ _ h => h)) gL_tells_L_told rfl ⟨rfl, rfl⟩ ⟨by decide +kernel, (Nat.le_of_ble_eq_true rfl), (Nat.le_of_ble_eq_true rfl)⟩ hl.1 rfl (Nat.le_of_ble_eq_true rfl) ⟨by show _ ≤ 96; omega, by show _ ≤ 700; omega⟩ rfl dL_tells_262 (fun r9 u9 H locs hp9 hP hD hS hz => ?_)
              rcases u9 with ⟨t9, q9⟩ | u9
              · dsimp only [zwP] at hp9
                obtain ⟨htn, hv0, hqn, hv1, hr9⟩ := hp9
                have e9 := (nI_eq (by omega) (by omega)).mp hv0
                omega
              · dsimp only [zwP] at hp9
                obtain ⟨hr9, hK9, E9, hE9⟩ := hp9
                have hr9 : r9 = (-101) := by rw [hr9, show (k1b (ix (nI (aa)) n) (fun t => ix vp (tr t * le t))) = 1 from k1b_1 (by rw [ix_nI (by omega), if_neg (by omega)])]; rfl
                subst hr9
                have hP : va_P D vwCl ((lz, zInts cA 20 Lf) :: (g 0, zInts cA 4 cf) :: (g 1, zInts cA 24 tf) :: (g 2, zInts cA 24 ff) :: (g 3, zInts cA 10 vf) :: (g 4, zInts cA 40 jj) :: (g 5, zInts cA 20 lt) :: (g 6, zInts cA 20 dd) :: cw) H := hP
                have hD : va_D A ((lz, zInts cA 20 Lf) :: (g 0, zInts cA 4 cf) :: (g 1, zInts cA 24 tf) :: (g 2, zInts cA 24 ff) :: (g 3, zInts cA 10 vf) :: (g 4, zInts cA 40 jj) :: (g 5, zInts cA 20 lt) :: (g 6, zInts cA 20 dd) :: cw) := hD
                refine lv_iload hx hb dL_tells_265 (lv_at hl 0 rfl) ?_
                refine zb_eq (tgt := 285) hx hb dL_tells_267 (by decide) (fun c_108 => ?_) (fun c_108 => Bool.noConfusion c_108)
                refine lv_bipush (v := (-101)) hx hb dL_tells_285 (by decide) ?_
                refine lv_icmp_eq (tgt := 292) hx hb dL_tells_287 (by decide) (fun c_109 => ?_) (fun c_109 => absurd rfl c_109)
                refine lv_iload hx hb dL_tells_292 (lv_at hl 4 rfl) ?_
                refine zb_eq (tgt := 408) hx hb dL_tells_294 (by decide) (fun c_110 => ?_) (fun c_110 => Bool.noConfusion c_110)
                refine lv_iinc (v := nI (aa + 1)) (lv' := [(13, .int (nI (aa + 1))), (18, .int (bI (false))), (17, .int (vp)), (16, .int (nI (qf))), (15, .int ((-101))), (14, .int (bI (false))), (9, .ref lz), (0, .ref (ad 0)), (1, .int (y)), (2, .ref (g 0)), (3, .ref (g 1)), (4, .ref (g 2)), (5, .ref (g 3)), (6, .ref (g 4)), (7, .ref (g 5)), (8, .ref (g 6)), (10, .int (nx)), (11, .int (fs)), (12, .int (ms9))]) hx hb dL_tells_408 hl (k := 18) rfl (zinc 1 _) (by decide) rfl (fun ls hl => ?_)
                refine lv_goto (tgt := 18) hx hb dL_tells_411 (by decide) ?_
                refine W.widen (k := 1 + 8 * (aa + 1)) (n := 20 + 60 * (aa + 1)) (by omega) (by omega) ?_
                exact ih18 (nx, fs, ms9, aa + 1, Lf) H locs ls (by first | omega | (dsimp only; omega)) ⟨lv_sub hl [6, 7, 8, 9, 10, 11, 12, 13, 14, 15, 16, 17, 18, 0] rfl, hP, hD, hS, ⟨by dsimp only; omega, by dsimp only; rw [hmi]; exact hK1, by dsimp only; rw [hmi]; exact hK2⟩⟩
