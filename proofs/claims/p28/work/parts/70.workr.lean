set_option maxHeartbeats 4000000 in
set_option maxRecDepth 100000 in
theorem c_L_works_r (l : Launch) (hlt : l.stackTraces = false) (D : va_G) (cA : Nat → ClassId) (sz : Nat) (ad : Nat → Nat) (T : Nat → Nat) (Bd : Nat → Nat) (E : Nat → Nat) (PT : Nat → Nat) (PB : Nat → Nat) (PE : Nat → Nat) (n : Nat) (tr : Nat → Nat) (le : Nat → Nat) (sl : Nat → Nat) (mo : Nat → Option Nat) (la : Nat → Bool) (fc : Nat → Nat) (bo : Nat → Nat → Nat) (nd : Nat) (mk : Nat → Nat) (ck : Nat → Int32) (ct : Nat → Nat) (hd : Nat → Option Nat) (pq : Nat → Int32) (nj : Nat) (fw : Nat → Int32) (jf : Nat → Nat) (dl : Nat → Nat) (dn : Nat) (oc : Nat) (s8 : Nat → Int32) (s9 : Nat → Int32) (s10 : Nat → Int32) (s11 : Nat → Int32) (s12 : Nat → Int32) (cf : Nat → Int32) (tf : Nat → Int32) (ff : Nat → Int32) (vf : Nat → Int32) (jj : Nat → Int32) (lt : Nat → Int32) (dd : Nat → Int32) (jt : Nat → Nat) (fin : Nat → Bool) (g : Nat → Nat) (cw : va_W) (hL : zL cA cw ad T Bd E PT PB PE n tr le sl mo la fc bo nd mk ck ct hd pq nj fw jf dl dn oc s8 s9 s10 s11 s12) (hI : zI n tr le sl mo fc bo nd mk ct hd pq nj fw jf dl) (hp : pL n tr le sl mo la fc bo nd mk ck ct hd pq nj fw jf dl dn cf tf ff vf jj lt dd jt fin) (y : Int32) : Met l yL_works wsL_works ({ frames := 10, cells := 12, slots := 128, locals := 194 }) (va_Pc [.ref (ad 0), .int (nI (3)), .int (y), .ref (g 0), .ref (g 1), .ref (g 2), .ref (g 3), .ref (g 4), .ref (g 5), .ref (g 6)] (zMW D cA ((g 0, zInts cA 4 cf) :: (g 1, zInts cA 24 tf) :: (g 2, zInts cA 24 ff) :: (g 3, zInts cA 10 vf) :: (g 4, zInts cA 40 jj) :: (g 5, zInts cA 20 lt) :: (g 6, zInts cA 20 dd) :: cw) sz)) (va_Qi (fun (r : Int32) (u : va_W) => r = bI true ∧ LV cA ad g u) (fun u => zB D (va_A ((g 0, zInts cA 4 cf) :: (g 1, zInts cA 24 tf) :: (g 2, zInts cA 24 ff) :: (g 3, zInts cA 10 vf) :: (g 4, zInts cA 40 jj) :: (g 5, zInts cA 20 lt) :: (g 6, zInts cA 20 dd) :: cw) sz) u) (va_A ((g 0, zInts cA 4 cf) :: (g 1, zInts cA 24 tf) :: (g 2, zInts cA 24 ff) :: (g 3, zInts cA 10 vf) :: (g 4, zInts cA 40 jj) :: (g 5, zInts cA 20 lt) :: (g 6, zInts cA 20 dd) :: cw) sz)) 12 128 (va_A ((g 0, zInts cA 4 cf) :: (g 1, zInts cA 24 tf) :: (g 2, zInts cA 24 ff) :: (g 3, zInts cA 10 vf) :: (g 4, zInts cA 40 jj) :: (g 5, zInts cA 20 lt) :: (g 6, zInts cA 20 dd) :: cw) sz) := by
  refine zOpen (cc := cL_works) (maxL := 21) (ret := (some .boolean)) (own := RL) (by decide) rfl rfl (Nat.le_of_ble_eq_true rfl) ?_
  intro p e s m below meth c ls hx hb hr hml hts hown hlocks hnm ⟨⟨⟨hZ, hP, hD0, hsz⟩, hX⟩, hN⟩ hl
  subst hsz
  have hD := hD0.self (sz := s.heap.size)
  generalize hAe : va_A ((g 0, zInts cA 4 cf) :: (g 1, zInts cA 24 tf) :: (g 2, zInts cA 24 ff) :: (g 3, zInts cA 10 vf) :: (g 4, zInts cA 40 jj) :: (g 5, zInts cA 20 lt) :: (g 6, zInts cA 20 dd) :: cw) s.heap.size = A at hD hX ⊢
  have hA : ∀ q : Nat, s.heap.size ≤ q → A q := fun q h => by rw [← hAe]; exact Or.inr h
  have hS : va_S A s.heap s.heap [] := va_S.rf
  have hl : lv_has ls 21 [(0, .ref (ad 0)), (1, .int (nI (3))), (2, .int (y)), (3, .ref (g 0)), (4, .ref (g 1)), (5, .ref (g 2)), (6, .ref (g 3)), (7, .ref (g 4)), (8, .ref (g 5)), (9, .ref (g 6))] := hl
  have hL0 := hL
  have l0 := hL.1.1
  obtain ⟨hn8, hd3, hj60, hIT, hID, hIJ, hIdl, hIw⟩ := id hI
  obtain ⟨⟨hn4, hd2, hj20⟩, ⟨c0, c1, c2, c3⟩, qT, qT0, qF, qV, qV0, qJ, qJ0, qW⟩ := id hp
  refine lv_iload_n hx hb dL_works_0 rfl (lv_at hl 2 rfl) ?_
  refine lv_iconst (v := nI (3)) hx hb dL_works_1 (by decide) ?_
  refine lv_ishr hx hb dL_works_2 ?_
  refine lv_aload_n hx hb dL_works_3 rfl (lv_at hl 3 rfl) ?_
  refine lv_iconst (v := nI (1)) hx hb dL_works_4 (by decide) ?_
  refine va_iald hx hb hZ.1 hP 0 0 rfl rfl (vp_in_nI (show 1 < 4 by omega) (by omega)) dL_works_5 ?_
  rw [nI_clamp (show 1 < 2 ^ 31 by omega)]
  refine zx_val (y := nI (nd)) (c1) ?_
  refine lv_iload_n hx hb dL_works_6 rfl (lv_at hl 2 rfl) ?_
  refine lv_bipush (v := nI (7)) hx hb dL_works_7 (by decide) ?_
  refine lv_ishr hx hb dL_works_9 ?_
  refine lv_bipush (v := nI (9)) hx hb dL_works_10 (by decide) ?_
  refine zk_S_i (n := 2) (As := [.int ((y) >>> ((nI (7)) &&& 31)), .int (nI (9))]) (rest := [.int (nI (nd)), .int ((y) >>> ((nI (3)) &&& 31))]) hx hb hml hts hown hZ hP (c_L_some l D cA _ ((y) >>> ((nI (7)) &&& 31)) 9 (by omega) (by omega)) gL_works_L_some rfl ⟨rfl, rfl⟩ ⟨by decide +kernel, (Nat.le_of_ble_eq_true rfl), (Nat.le_of_ble_eq_true rfl)⟩ hl.1 rfl (Nat.le_of_ble_eq_true rfl) ⟨(Nat.le_of_ble_eq_true rfl), (Nat.le_of_ble_eq_true rfl)⟩ rfl dL_works_12 (fun r1 hr1 => ?_)
  obtain ⟨q1, hq1, hb1⟩ : ∃ z, r1 = nI z ∧ z < 9 := ⟨_, hr1, sm_lt (by omega)⟩
  subst hq1
  refine z_join (α := Nat) (pc' := 29) (fun v ls => lv_has ls 21 [(0, .ref (ad 0)), (1, .int (nI (3))), (2, .int (y)), (3, .ref (g 0)), (4, .ref (g 1)), (5, .ref (g 2)), (6, .ref (g 3)), (7, .ref (g 4)), (8, .ref (g 5)), (9, .ref (g 6))] ∧ v ≤ 1 ∧ (nd = 0 → v = 1)) (fun v => [.int (nI (v)), .int (nI (nd)), .int ((y) >>> ((nI (3)) &&& 31))]) ?_ (fun J29 => ?_)
  · intro x2 ls hv
    obtain ⟨hl, hI29⟩ := hv
    have hl : lv_has ls 21 [(0, .ref (ad 0)), (1, .int (nI (3))), (2, .int (y)), (3, .ref (g 0)), (4, .ref (g 1)), (5, .ref (g 2)), (6, .ref (g 3)), (7, .ref (g 4)), (8, .ref (g 5)), (9, .ref (g 6))] := hl
    have hI29 : x2 ≤ 1 ∧ (nd = 0 → x2 = 1) := hI29
    refine zo_add hx hb dL_works_29 ?_
    obtain ⟨hx2, hx20⟩ := hI29
    refine zk_S_i (n := 2) (As := [.int ((y) >>> ((nI (3)) &&& 31)), .int (nI (nd + x2))]) (rest := []) hx hb hml hts hown hZ hP (c_L_some l D cA _ ((y) >>> ((nI (3)) &&& 31)) (nd + x2) (by omega) (by omega)) gL_works_L_some rfl ⟨rfl, rfl⟩ ⟨by decide +kernel, (Nat.le_of_ble_eq_true rfl), (Nat.le_of_ble_eq_true rfl)⟩ hl.1 rfl (Nat.le_of_ble_eq_true rfl) ⟨(Nat.le_of_ble_eq_true rfl), (Nat.le_of_ble_eq_true rfl)⟩ rfl dL_works_30 (fun r2 hr2 => ?_)
    obtain ⟨q2, hq2, hb2⟩ : ∃ z, r2 = nI z ∧ z < (nd + x2) := ⟨_, hr2, sm_lt (by omega)⟩
    subst hq2
    refine lv_istore (lv' := [(10, .int (nI (q2))), (0, .ref (ad 0)), (1, .int (nI (3))), (2, .int (y)), (3, .ref (g 0)), (4, .ref (g 1)), (5, .ref (g 2)), (6, .ref (g 3)), (7, .ref (g 4)), (8, .ref (g 5)), (9, .ref (g 6))]) hx hb dL_works_33 hl (by decide) rfl (fun ls hl => ?_)
    refine z_join (α := Bool) (pc' := 48) (fun v ls => lv_has ls 21 [(0, .ref (ad 0)), (1, .int (nI (3))), (2, .int (y)), (3, .ref (g 0)), (4, .ref (g 1)), (5, .ref (g 2)), (6, .ref (g 3)), (7, .ref (g 4)), (8, .ref (g 5)), (9, .ref (g 6)), (10, .int (nI (q2)))] ∧ v = decide (q2 < nd)) (fun v => [.int (bI (v))]) ?_ (fun J48 => ?_)
    · intro bD ls hv
      obtain ⟨hl, hI48⟩ := hv
      have hl : lv_has ls 21 [(0, .ref (ad 0)), (1, .int (nI (3))), (2, .int (y)), (3, .ref (g 0)), (4, .ref (g 1)), (5, .ref (g 2)), (6, .ref (g 3)), (7, .ref (g 4)), (8, .ref (g 5)), (9, .ref (g 6)), (10, .int (nI (q2)))] := hl
      have hI48 : bD = decide (q2 < nd) := hI48
      have hDd : q2 ≤ nd := by omega
      refine lv_istore (lv' := [(11, .int (bI (bD))), (0, .ref (ad 0)), (1, .int (nI (3))), (2, .int (y)), (3, .ref (g 0)), (4, .ref (g 1)), (5, .ref (g 2)), (6, .ref (g 3)), (7, .ref (g 4)), (8, .ref (g 5)), (9, .ref (g 6)), (10, .int (nI (q2)))]) hx hb dL_works_48 hl (by decide) rfl (fun ls hl => ?_)
      rcases Nat.lt_or_ge q2 nd with hdn | hdn
      · obtain rfl : bD = true := by rw [hI48]; exact decide_eq_true hdn
        obtain ⟨qv1, qv2, qv3, qv4, qv5⟩ := qV q2 hdn
        obtain ⟨hmk1, hct1, hpn1, hps1⟩ := hID q2 hdn
        rcases hhd : hd q2 with _ | t
        · have qv6 : vf (6 + q2) = -1 := by rw [qv4, hhd]; rfl
          refine lv_iload hx hb dL_works_50 (lv_at hl 0 rfl) ?_
          refine zb_eq (tgt := 70) hx hb dL_works_52 (by decide) (fun c_1 => Bool.noConfusion c_1) (fun c_1 => ?_)
          refine lv_aload hx hb dL_works_55 (lv_at hl 7 rfl) ?_
          refine lv_bipush (v := nI (6)) hx hb dL_works_57 (by decide) ?_
          refine lv_iload hx hb dL_works_59 (lv_at hl 11 rfl) ?_
          refine zo_add hx hb dL_works_61 ?_
          refine va_iald hx hb hZ.1 hP 3 0 rfl rfl (vp_in_nI (show 6 + q2 < 10 by omega) (by omega)) dL_works_62 ?_
          rw [nI_clamp (show 6 + q2 < 2 ^ 31 by omega)]
          refine zx_val (y := (-1)) (qv6) ?_
          refine lv_if_lt (tgt := 70) hx hb dL_works_63 (by decide) (fun c_2 => ?_) (fun c_2 => absurd (by decide) c_2)
          refine lv_iconst (v := bI (false)) hx hb dL_works_70 (by decide) ?_
          refine lv_istore (lv' := [(12, .int (bI (false))), (11, .int (bI (true))), (0, .ref (ad 0)), (1, .int (nI (3))), (2, .int (y)), (3, .ref (g 0)), (4, .ref (g 1)), (5, .ref (g 2)), (6, .ref (g 3)), (7, .ref (g 4)), (8, .ref (g 5)), (9, .ref (g 6)), (10, .int (nI (q2)))]) hx hb dL_works_71 hl (by decide) rfl (fun ls hl => ?_)
          refine lv_iload hx hb dL_works_73 (lv_at hl 0 rfl) ?_
          refine zb_eq (tgt := 89) hx hb dL_works_75 (by decide) (fun c_3 => ?_) (fun c_3 => Bool.noConfusion c_3)
          refine lv_iconst (v := nI (0)) hx hb dL_works_89 (by decide) ?_
          refine lv_istore (lv' := [(13, .int (nI (0))), (12, .int (bI (false))), (11, .int (bI (true))), (0, .ref (ad 0)), (1, .int (nI (3))), (2, .int (y)), (3, .ref (g 0)), (4, .ref (g 1)), (5, .ref (g 2)), (6, .ref (g 3)), (7, .ref (g 4)), (8, .ref (g 5)), (9, .ref (g 6)), (10, .int (nI (q2)))]) hx hb dL_works_90 hl (by decide) rfl (fun ls hl => ?_)
          refine lv_iload_n hx hb dL_works_92 rfl (lv_at hl 4 rfl) ?_
          refine lv_iconst (v := nI (3)) hx hb dL_works_93 (by decide) ?_
          refine zc_ge (tgt := 317) hx hb (by omega) (by omega) dL_works_94 (by decide) (fun c_4 => ?_) (fun c_4 => False.elim (by omega))
          refine lv_iload_n hx hb dL_works_317 rfl (lv_at hl 4 rfl) ?_
          refine lv_iconst (v := nI (3)) hx hb dL_works_318 (by decide) ?_
          refine lv_icmp_ne (tgt := 457) hx hb dL_works_319 (by decide) (fun c_5 => absurd rfl c_5) (fun c_5 => ?_)
          refine lv_iload_n hx hb dL_works_322 rfl (lv_at hl 5 rfl) ?_
          refine lv_iconst (v := nI (5)) hx hb dL_works_323 (by decide) ?_
          refine lv_ishr hx hb dL_works_324 ?_
          refine lv_bipush (v := nI (7)) hx hb dL_works_325 (by decide) ?_
          refine zk_S_i (n := 2) (As := [.int ((y) >>> ((nI (5)) &&& 31)), .int (nI (7))]) (rest := []) hx hb hml hts hown hZ hP (c_L_some l D cA _ ((y) >>> ((nI (5)) &&& 31)) 7 (by omega) (by omega)) gL_works_L_some rfl ⟨rfl, rfl⟩ ⟨by decide +kernel, (Nat.le_of_ble_eq_true rfl), (Nat.le_of_ble_eq_true rfl)⟩ hl.1 rfl (Nat.le_of_ble_eq_true rfl) ⟨(Nat.le_of_ble_eq_true rfl), (Nat.le_of_ble_eq_true rfl)⟩ rfl dL_works_327 (fun rf hrf => ?_)
          obtain ⟨qf, hqf, hbf⟩ : ∃ z, rf = nI z ∧ z < 7 := ⟨_, hrf, sm_lt (by omega)⟩
          subst hqf
          refine lv_iload_n hx hb dL_works_330 rfl (lv_at hl 5 rfl) ?_
          refine lv_bipush (v := nI (8)) hx hb dL_works_331 (by decide) ?_
          refine lv_ishr hx hb dL_works_333 ?_
          refine lv_bipush (v := nI (9)) hx hb dL_works_334 (by decide) ?_
          refine zk_S_i (n := 2) (As := [.int ((y) >>> ((nI (8)) &&& 31)), .int (nI (9))]) (rest := [.int (nI (qf))]) hx hb hml hts hown hZ hP (c_L_some l D cA _ ((y) >>> ((nI (8)) &&& 31)) 9 (by omega) (by omega)) gL_works_L_some rfl ⟨rfl, rfl⟩ ⟨by decide +kernel, (Nat.le_of_ble_eq_true rfl), (Nat.le_of_ble_eq_true rfl)⟩ hl.1 rfl (Nat.le_of_ble_eq_true rfl) ⟨(Nat.le_of_ble_eq_true rfl), (Nat.le_of_ble_eq_true rfl)⟩ rfl dL_works_336 (fun r3 hr3 => ?_)
          obtain ⟨q3, hq3, hb3⟩ : ∃ z, r3 = nI z ∧ z < 9 := ⟨_, hr3, sm_lt (by omega)⟩
          subst hq3
          refine z_join (α := Nat) (pc' := 347) (fun v ls => lv_has ls 21 [(0, .ref (ad 0)), (1, .int (nI (3))), (2, .int (y)), (3, .ref (g 0)), (4, .ref (g 1)), (5, .ref (g 2)), (6, .ref (g 3)), (7, .ref (g 4)), (8, .ref (g 5)), (9, .ref (g 6)), (10, .int (nI (q2))), (11, .int (bI (true))), (12, .int (bI (false))), (13, .int (nI (0)))] ∧ v ≤ 1) (fun v => [.int (nI (v)), .int (nI (qf))]) ?_ (fun J347 => ?_)
          · intro x3 ls hv
            obtain ⟨hl, hI347⟩ := hv
            have hl : lv_has ls 21 [(0, .ref (ad 0)), (1, .int (nI (3))), (2, .int (y)), (3, .ref (g 0)), (4, .ref (g 1)), (5, .ref (g 2)), (6, .ref (g 3)), (7, .ref (g 4)), (8, .ref (g 5)), (9, .ref (g 6)), (10, .int (nI (q2))), (11, .int (bI (true))), (12, .int (bI (false))), (13, .int (nI (0)))] := hl
            have hI347 : x3 ≤ 1 := hI347
            obtain ⟨vi, hvi, hVq⟩ := ch_va (q := qf) hI347
            refine lv_isub hx hb dL_works_347 ?_
            refine zx_val (y := vi) hvi ?_
            refine lv_istore (lv' := [(14, .int (vi)), (0, .ref (ad 0)), (1, .int (nI (3))), (2, .int (y)), (3, .ref (g 0)), (4, .ref (g 1)), (5, .ref (g 2)), (6, .ref (g 3)), (7, .ref (g 4)), (8, .ref (g 5)), (9, .ref (g 6)), (10, .int (nI (q2))), (11, .int (bI (true))), (12, .int (bI (false))), (13, .int (nI (0)))]) hx hb dL_works_348 hl (by decide) rfl (fun ls hl => ?_)
            refine lv_iload hx hb dL_works_350 (lv_at hl 13 rfl) ?_
            refine zb_eq (tgt := 377) hx hb dL_works_352 (by decide) (fun c_6 => ?_) (fun c_6 => Bool.noConfusion c_6)
            refine lv_iconst (v := bI (false)) hx hb dL_works_377 (by decide) ?_
            refine lv_istore (lv' := [(15, .int (bI (false))), (14, .int (vi)), (0, .ref (ad 0)), (1, .int (nI (3))), (2, .int (y)), (3, .ref (g 0)), (4, .ref (g 1)), (5, .ref (g 2)), (6, .ref (g 3)), (7, .ref (g 4)), (8, .ref (g 5)), (9, .ref (g 6)), (10, .int (nI (q2))), (11, .int (bI (true))), (12, .int (bI (false))), (13, .int (nI (0)))]) hx hb dL_works_378 hl (by decide) rfl (fun ls hl => ?_)
            refine lv_iload hx hb dL_works_380 (lv_at hl 13 rfl) ?_
            refine zb_eq (tgt := 395) hx hb dL_works_382 (by decide) (fun c_7 => Bool.noConfusion c_7) (fun c_7 => ?_)
            refine lv_iload hx hb dL_works_385 (lv_at hl 14 rfl) ?_
            refine zb_eq (tgt := 400) hx hb dL_works_387 (by decide) (fun c_8 => ?_) (fun c_8 => Bool.noConfusion c_8)
            refine lv_iload hx hb dL_works_400 (lv_at hl 14 rfl) ?_
            refine zb_eq (tgt := 433) hx hb dL_works_402 (by decide) (fun c_9 => ?_) (fun c_9 => Bool.noConfusion c_9)
            refine lv_bipush (v := (-102)) hx hb dL_works_433 (by decide) ?_
            refine lv_istore (lv' := [(16, .int ((-102))), (15, .int (bI (false))), (14, .int (vi)), (0, .ref (ad 0)), (1, .int (nI (3))), (2, .int (y)), (3, .ref (g 0)), (4, .ref (g 1)), (5, .ref (g 2)), (6, .ref (g 3)), (7, .ref (g 4)), (8, .ref (g 5)), (9, .ref (g 6)), (10, .int (nI (q2))), (11, .int (bI (true))), (12, .int (bI (false))), (13, .int (nI (0)))]) hx hb dL_works_435 hl (by decide) rfl (fun ls hl => ?_)
            refine lv_aload_n hx hb dL_works_437 rfl (lv_at hl 3 rfl) ?_
            refine lv_iconst (v := nI (2)) hx hb dL_works_438 (by decide) ?_
            refine lv_iload hx hb dL_works_439 (lv_at hl 13 rfl) ?_
            refine lv_iload hx hb dL_works_441 (lv_at hl 2 rfl) ?_
            refine ze_H_i (n := 4) (mc := 4) (ms := 24) (ws := cw) (es := [(g 0, zInts cA 4 cf), (g 1, zInts cA 24 tf), (g 2, zInts cA 24 ff), (g 3, zInts cA 10 vf), (g 4, zInts cA 40 jj), (g 5, zInts cA 20 lt), (g 6, zInts cA 20 dd)]) (As := [.ref (ad 0), .int (nI (2)), .int (nI (q2)), .int (vi)]) (rest := []) hx hb hml hts hown hZ hX hN [0, 1, 2, 3, 4, 5, 6] rfl rfl hP hD hS hA (c_L_two_2 l D cA _ cw (ad 0) _ l0 _ _ _ _ (kR (ix (nI (q2)) nd) hd (fun t => ix vi (fc t)) (fun j => decide (ct j < 12))) (nI (q2)) vi (fun sz9 => c_X4_read l hlt D cA sz9 cw ad T Bd E PT PB PE n tr le sl mo la fc bo nd mk ck ct hd pq nj fw jf dl dn oc s8 s9 s10 s11 s12 hL hI (nI (q2)) vi) (fun _ _ h => h)) gL_works_L_two rfl ⟨rfl, rfl⟩ ⟨by decide +kernel, (Nat.le_of_ble_eq_true rfl), (Nat.le_of_ble_eq_true rfl)⟩ hl.1 rfl (Nat.le_of_ble_eq_true rfl) ⟨(Nat.le_of_ble_eq_true rfl), (Nat.le_of_ble_eq_true rfl)⟩ rfl dL_works_443 (fun r9 u9 H locs hp9 hP hD hS hz => ?_)
            rcases u9 with ⟨j9, t9, P9, f9, w1⟩ | u9
            · dsimp only [zwP] at hp9
              obtain ⟨hjn, hv0, hht9, hpq9, hP16, hfn9, hv1, hct9, hr9, hkp, hL1⟩ := hp9
              have e9 := (nI_eq (by omega) (by omega)).mp hv0
              rw [← e9, hhd] at hht9; cases hht9
            · dsimp only [zwP] at hp9
              obtain ⟨hr9, hK9, E9, hE9⟩ := hp9
              have hr9 : r9 = (-102) := by rw [hr9, show (kR (ix (nI (q2)) nd) hd (fun t => ix vi (fc t)) (fun j => decide (ct j < 12))) = 2 from kR_2 (ix_in (by omega) hdn) hhd]; rfl
              subst hr9
              have hP : va_P D vwCl ((g 0, zInts cA 4 cf) :: (g 1, zInts cA 24 tf) :: (g 2, zInts cA 24 ff) :: (g 3, zInts cA 10 vf) :: (g 4, zInts cA 40 jj) :: (g 5, zInts cA 20 lt) :: (g 6, zInts cA 20 dd) :: cw) H := hP
              have hD : va_D A ((g 0, zInts cA 4 cf) :: (g 1, zInts cA 24 tf) :: (g 2, zInts cA 24 ff) :: (g 3, zInts cA 10 vf) :: (g 4, zInts cA 40 jj) :: (g 5, zInts cA 20 lt) :: (g 6, zInts cA 20 dd) :: cw) := hD
              refine lv_iload hx hb dL_works_446 (lv_at hl 0 rfl) ?_
              refine lv_icmp_ne (tgt := 455) hx hb dL_works_448 (by decide) (fun c_10 => absurd rfl c_10) (fun c_10 => ?_)
              refine lv_iconst (v := bI (true)) hx hb dL_works_451 (by decide) ?_
              refine lv_goto (tgt := 456) hx hb dL_works_452 (by decide) ?_
              exact W.widen (k := 12) (n := 128) (by omega) (by omega) (zr_qz (S := va_W) (post := (fun (r : Int32) (u : va_W) => r = bI true ∧ LV cA ad g u)) (w1 := fun u => u) ((g 0, zInts cA 4 cf) :: (g 1, zInts cA 24 tf) :: (g 2, zInts cA 24 ff) :: (g 3, zInts cA 10 vf) :: (g 4, zInts cA 40 jj) :: (g 5, zInts cA 20 lt) :: (g 6, zInts cA 20 dd) :: cw) hx hb hr hlocks ⟨rfl, ⟨_, _, _, _, _, _, _, _, _, _, _, _, _, _, _, _, _, _, _, _, _, _, _, _, _, _, _, _, _, _, _, _, _, _, _, _, _, _, _, _, cw, rfl, hL, hI, hp⟩⟩ hP hD hS rfl dL_works_456)
          · skip
            refine zf_ne (tgt := 346) hx hb (by omega) dL_works_339 (by decide) (fun c_11 => ?_) (fun c_11 => ?_)
            · refine lv_iconst (v := nI (0)) hx hb dL_works_346 (by decide) ?_
              exact J347 (0) ls ⟨lv_sub hl [3, 4, 5, 6, 7, 8, 9, 10, 11, 12, 13, 2, 1, 0] rfl, by omega⟩
            · refine lv_iconst (v := nI (1)) hx hb dL_works_342 (by decide) ?_
              refine lv_goto (tgt := 347) hx hb dL_works_343 (by decide) ?_
              exact J347 (1) ls ⟨lv_sub hl [3, 4, 5, 6, 7, 8, 9, 10, 11, 12, 13, 2, 1, 0] rfl, by omega⟩
        · have qv6 : vf (6 + q2) = nI t := by rw [qv4, hhd]; rfl
          obtain ⟨htn, hmt1, Pq, hPq1, hPq2⟩ := hps1 t hhd
          obtain ⟨qa1, qa2, qa3, qa4, qa5, qa6, qa7⟩ := qT t htn
          obtain ⟨t1, t2, t3, t4, t5, t6, t7, t8, t9x, t10⟩ := hIT t htn
          have hm8 : tr t * le t ≤ 8 * 200 := Nat.mul_le_mul t2 t4
          have qv7 : vf (8 + q2) = nI Pq := by rw [qv5 t hhd, hPq1]
          obtain ⟨y1, y2, y3, y4, y5, y6, y7, y8, y9, y10, y11, y12, y13, y14, y15, y16, y17⟩ := fb_of hI hp hdn hhd hPq1 hPq2
          have hw5 := qW t htn
          refine lv_iload hx hb dL_works_50 (lv_at hl 0 rfl) ?_
          refine zb_eq (tgt := 70) hx hb dL_works_52 (by decide) (fun c_12 => Bool.noConfusion c_12) (fun c_12 => ?_)
          refine lv_aload hx hb dL_works_55 (lv_at hl 7 rfl) ?_
          refine lv_bipush (v := nI (6)) hx hb dL_works_57 (by decide) ?_
          refine lv_iload hx hb dL_works_59 (lv_at hl 11 rfl) ?_
          refine zo_add hx hb dL_works_61 ?_
          refine va_iald hx hb hZ.1 hP 3 0 rfl rfl (vp_in_nI (show 6 + q2 < 10 by omega) (by omega)) dL_works_62 ?_
          rw [nI_clamp (show 6 + q2 < 2 ^ 31 by omega)]
          refine zx_val (y := nI (t)) (qv6) ?_
          refine zf_lt (tgt := 70) hx hb (by omega) dL_works_63 (by decide) ?_
          refine lv_iconst (v := bI (true)) hx hb dL_works_66 (by decide) ?_
          refine lv_goto (tgt := 71) hx hb dL_works_67 (by decide) ?_
          refine lv_istore (lv' := [(12, .int (bI (true))), (11, .int (bI (true))), (0, .ref (ad 0)), (1, .int (nI (3))), (2, .int (y)), (3, .ref (g 0)), (4, .ref (g 1)), (5, .ref (g 2)), (6, .ref (g 3)), (7, .ref (g 4)), (8, .ref (g 5)), (9, .ref (g 6)), (10, .int (nI (q2)))]) hx hb dL_works_71 hl (by decide) rfl (fun ls hl => ?_)
          refine lv_iload hx hb dL_works_73 (lv_at hl 0 rfl) ?_
          refine zb_eq (tgt := 89) hx hb dL_works_75 (by decide) (fun c_14 => Bool.noConfusion c_14) (fun c_14 => ?_)
          refine lv_aload hx hb dL_works_78 (lv_at hl 8 rfl) ?_
          refine lv_bipush (v := nI (6)) hx hb dL_works_80 (by decide) ?_
          refine lv_iload hx hb dL_works_82 (lv_at hl 12 rfl) ?_
          refine zo_add hx hb dL_works_84 ?_
          refine va_iald hx hb hZ.1 hP 3 0 rfl rfl (vp_in_nI (show 6 + q2 < 10 by omega) (by omega)) dL_works_85 ?_
          rw [nI_clamp (show 6 + q2 < 2 ^ 31 by omega)]
          refine zx_val (y := nI (t)) (qv6) ?_
          refine lv_goto (tgt := 90) hx hb dL_works_86 (by decide) ?_
          refine lv_istore (lv' := [(13, .int (nI (t))), (12, .int (bI (true))), (11, .int (bI (true))), (0, .ref (ad 0)), (1, .int (nI (3))), (2, .int (y)), (3, .ref (g 0)), (4, .ref (g 1)), (5, .ref (g 2)), (6, .ref (g 3)), (7, .ref (g 4)), (8, .ref (g 5)), (9, .ref (g 6)), (10, .int (nI (q2)))]) hx hb dL_works_90 hl (by decide) rfl (fun ls hl => ?_)
          refine lv_iload_n hx hb dL_works_92 rfl (lv_at hl 4 rfl) ?_
          refine lv_iconst (v := nI (3)) hx hb dL_works_93 (by decide) ?_
          refine zc_ge (tgt := 317) hx hb (by omega) (by omega) dL_works_94 (by decide) (fun c_15 => ?_) (fun c_15 => False.elim (by omega))
          refine lv_iload_n hx hb dL_works_317 rfl (lv_at hl 4 rfl) ?_
          refine lv_iconst (v := nI (3)) hx hb dL_works_318 (by decide) ?_
          refine lv_icmp_ne (tgt := 457) hx hb dL_works_319 (by decide) (fun c_16 => absurd rfl c_16) (fun c_16 => ?_)
          refine lv_iload_n hx hb dL_works_322 rfl (lv_at hl 5 rfl) ?_
          refine lv_iconst (v := nI (5)) hx hb dL_works_323 (by decide) ?_
          refine lv_ishr hx hb dL_works_324 ?_
          refine lv_bipush (v := nI (7)) hx hb dL_works_325 (by decide) ?_
          refine zk_S_i (n := 2) (As := [.int ((y) >>> ((nI (5)) &&& 31)), .int (nI (7))]) (rest := []) hx hb hml hts hown hZ hP (c_L_some l D cA _ ((y) >>> ((nI (5)) &&& 31)) 7 (by omega) (by omega)) gL_works_L_some rfl ⟨rfl, rfl⟩ ⟨by decide +kernel, (Nat.le_of_ble_eq_true rfl), (Nat.le_of_ble_eq_true rfl)⟩ hl.1 rfl (Nat.le_of_ble_eq_true rfl) ⟨(Nat.le_of_ble_eq_true rfl), (Nat.le_of_ble_eq_true rfl)⟩ rfl dL_works_327 (fun rf hrf => ?_)
          obtain ⟨qf, hqf, hbf⟩ : ∃ z, rf = nI z ∧ z < 7 := ⟨_, hrf, sm_lt (by omega)⟩
          subst hqf
          refine lv_iload_n hx hb dL_works_330 rfl (lv_at hl 5 rfl) ?_
          refine lv_bipush (v := nI (8)) hx hb dL_works_331 (by decide) ?_
          refine lv_ishr hx hb dL_works_333 ?_
          refine lv_bipush (v := nI (9)) hx hb dL_works_334 (by decide) ?_
          refine zk_S_i (n := 2) (As := [.int ((y) >>> ((nI (8)) &&& 31)), .int (nI (9))]) (rest := [.int (nI (qf))]) hx hb hml hts hown hZ hP (c_L_some l D cA _ ((y) >>> ((nI (8)) &&& 31)) 9 (by omega) (by omega)) gL_works_L_some rfl ⟨rfl, rfl⟩ ⟨by decide +kernel, (Nat.le_of_ble_eq_true rfl), (Nat.le_of_ble_eq_true rfl)⟩ hl.1 rfl (Nat.le_of_ble_eq_true rfl) ⟨(Nat.le_of_ble_eq_true rfl), (Nat.le_of_ble_eq_true rfl)⟩ rfl dL_works_336 (fun r4 hr4 => ?_)
          obtain ⟨q4, hq4, hb4⟩ : ∃ z, r4 = nI z ∧ z < 9 := ⟨_, hr4, sm_lt (by omega)⟩
          subst hq4
          refine z_join (α := Nat) (pc' := 347) (fun v ls => lv_has ls 21 [(0, .ref (ad 0)), (1, .int (nI (3))), (2, .int (y)), (3, .ref (g 0)), (4, .ref (g 1)), (5, .ref (g 2)), (6, .ref (g 3)), (7, .ref (g 4)), (8, .ref (g 5)), (9, .ref (g 6)), (10, .int (nI (q2))), (11, .int (bI (true))), (12, .int (bI (true))), (13, .int (nI (t)))] ∧ v ≤ 1) (fun v => [.int (nI (v)), .int (nI (qf))]) ?_ (fun J347 => ?_)
          · intro x3 ls hv
            obtain ⟨hl, hI347⟩ := hv
            have hl : lv_has ls 21 [(0, .ref (ad 0)), (1, .int (nI (3))), (2, .int (y)), (3, .ref (g 0)), (4, .ref (g 1)), (5, .ref (g 2)), (6, .ref (g 3)), (7, .ref (g 4)), (8, .ref (g 5)), (9, .ref (g 6)), (10, .int (nI (q2))), (11, .int (bI (true))), (12, .int (bI (true))), (13, .int (nI (t)))] := hl
            have hI347 : x3 ≤ 1 := hI347
            obtain ⟨vi, hvi, hVq⟩ := ch_va (q := qf) hI347
            refine lv_isub hx hb dL_works_347 ?_
            refine zx_val (y := vi) hvi ?_
            refine lv_istore (lv' := [(14, .int (vi)), (0, .ref (ad 0)), (1, .int (nI (3))), (2, .int (y)), (3, .ref (g 0)), (4, .ref (g 1)), (5, .ref (g 2)), (6, .ref (g 3)), (7, .ref (g 4)), (8, .ref (g 5)), (9, .ref (g 6)), (10, .int (nI (q2))), (11, .int (bI (true))), (12, .int (bI (true))), (13, .int (nI (t)))]) hx hb dL_works_348 hl (by decide) rfl (fun ls hl => ?_)
            rcases hVq with hvi1 | ⟨mf, hmq9, hvi1⟩
            · rw [hvi1] at hl
              refine lv_iload hx hb dL_works_350 (lv_at hl 13 rfl) ?_
              refine zb_eq (tgt := 377) hx hb dL_works_352 (by decide) (fun c_17 => Bool.noConfusion c_17) (fun c_17 => ?_)
              refine lv_iload hx hb dL_works_355 (lv_at hl 0 rfl) ?_
              refine lv_if_lt (tgt := 377) hx hb dL_works_357 (by decide) (fun c_18 => ?_) (fun c_18 => absurd (by decide) c_18)
              refine lv_iconst (v := bI (false)) hx hb dL_works_377 (by decide) ?_
              refine lv_istore (lv' := [(15, .int (bI (false))), (14, .int ((-1))), (0, .ref (ad 0)), (1, .int (nI (3))), (2, .int (y)), (3, .ref (g 0)), (4, .ref (g 1)), (5, .ref (g 2)), (6, .ref (g 3)), (7, .ref (g 4)), (8, .ref (g 5)), (9, .ref (g 6)), (10, .int (nI (q2))), (11, .int (bI (true))), (12, .int (bI (true))), (13, .int (nI (t)))]) hx hb dL_works_378 hl (by decide) rfl (fun ls hl => ?_)
              refine lv_iload hx hb dL_works_380 (lv_at hl 13 rfl) ?_
              refine zb_eq (tgt := 395) hx hb dL_works_382 (by decide) (fun c_19 => Bool.noConfusion c_19) (fun c_19 => ?_)
              refine lv_iload hx hb dL_works_385 (lv_at hl 14 rfl) ?_
              refine zb_eq (tgt := 400) hx hb dL_works_387 (by decide) (fun c_20 => Bool.noConfusion c_20) (fun c_20 => ?_)
              refine lv_iload hx hb dL_works_390 (lv_at hl 0 rfl) ?_
              refine zb_ne (tgt := 400) hx hb dL_works_392 (by decide) (fun c_21 => Bool.noConfusion c_21) (fun c_21 => ?_)
              refine lv_bipush (v := (-101)) hx hb dL_works_395 (by decide) ?_
              refine lv_goto (tgt := 435) hx hb dL_works_397 (by decide) ?_
              refine lv_istore (lv' := [(16, .int ((-101))), (15, .int (bI (false))), (14, .int ((-1))), (0, .ref (ad 0)), (1, .int (nI (3))), (2, .int (y)), (3, .ref (g 0)), (4, .ref (g 1)), (5, .ref (g 2)), (6, .ref (g 3)), (7, .ref (g 4)), (8, .ref (g 5)), (9, .ref (g 6)), (10, .int (nI (q2))), (11, .int (bI (true))), (12, .int (bI (true))), (13, .int (nI (t)))]) hx hb dL_works_435 hl (by decide) rfl (fun ls hl => ?_)
              refine lv_aload_n hx hb dL_works_437 rfl (lv_at hl 3 rfl) ?_
              refine lv_iconst (v := nI (2)) hx hb dL_works_438 (by decide) ?_
              refine lv_iload hx hb dL_works_439 (lv_at hl 13 rfl) ?_
              refine lv_iload hx hb dL_works_441 (lv_at hl 2 rfl) ?_
              refine ze_H_i (n := 4) (mc := 4) (ms := 24) (ws := cw) (es := [(g 0, zInts cA 4 cf), (g 1, zInts cA 24 tf), (g 2, zInts cA 24 ff), (g 3, zInts cA 10 vf), (g 4, zInts cA 40 jj), (g 5, zInts cA 20 lt), (g 6, zInts cA 20 dd)]) (As := [.ref (ad 0), .int (nI (2)), .int (nI (q2)), .int ((-1))]) (rest := []) hx hb hml hts hown hZ hX hN [0, 1, 2, 3, 4, 5, 6] rfl rfl hP hD hS hA (c_L_two_2 l D cA _ cw (ad 0) _ l0 _ _ _ _ (kR (ix (nI (q2)) nd) hd (fun t => ix ((-1)) (fc t)) (fun j => decide (ct j < 12))) (nI (q2)) ((-1)) (fun sz9 => c_X4_read l hlt D cA sz9 cw ad T Bd E PT PB PE n tr le sl mo la fc bo nd mk ck ct hd pq nj fw jf dl dn oc s8 s9 s10 s11 s12 hL hI (nI (q2)) ((-1))) (fun _ _ h => h)) gL_works_L_two rfl ⟨rfl, rfl⟩ ⟨by decide +kernel, (Nat.le_of_ble_eq_true rfl), (Nat.le_of_ble_eq_true rfl)⟩ hl.1 rfl (Nat.le_of_ble_eq_true rfl) ⟨(Nat.le_of_ble_eq_true rfl), (Nat.le_of_ble_eq_true rfl)⟩ rfl dL_works_443 (fun r9 u9 H locs hp9 hP hD hS hz => ?_)
              rcases u9 with ⟨j9, t9, P9, f9, w1⟩ | u9
              · dsimp only [zwP] at hp9
                obtain ⟨hjn, hv0, hht9, hpq9, hP16, hfn9, hv1, hct9, hr9, hkp, hL1⟩ := hp9
                exact absurd hv1.symm (nI_nm1 (by have := (hIT t9 (((hID j9 hjn).2.2.2 t9 hht9).1)).2.2.2.2.2.2.1; omega))
              · dsimp only [zwP] at hp9
                obtain ⟨hr9, hK9, E9, hE9⟩ := hp9
                have hr9 : r9 = (-101) := by rw [hr9, show (kR (ix (nI (q2)) nd) hd (fun t => ix ((-1)) (fc t)) (fun j => decide (ct j < 12))) = 1 from kR_3 (ix_in (by omega) hdn) hhd (ix_neg (by decide))]; rfl
                subst hr9
                have hP : va_P D vwCl ((g 0, zInts cA 4 cf) :: (g 1, zInts cA 24 tf) :: (g 2, zInts cA 24 ff) :: (g 3, zInts cA 10 vf) :: (g 4, zInts cA 40 jj) :: (g 5, zInts cA 20 lt) :: (g 6, zInts cA 20 dd) :: cw) H := hP
                have hD : va_D A ((g 0, zInts cA 4 cf) :: (g 1, zInts cA 24 tf) :: (g 2, zInts cA 24 ff) :: (g 3, zInts cA 10 vf) :: (g 4, zInts cA 40 jj) :: (g 5, zInts cA 20 lt) :: (g 6, zInts cA 20 dd) :: cw) := hD
                refine lv_iload hx hb dL_works_446 (lv_at hl 0 rfl) ?_
                refine lv_icmp_ne (tgt := 455) hx hb dL_works_448 (by decide) (fun c_22 => absurd rfl c_22) (fun c_22 => ?_)
                refine lv_iconst (v := bI (true)) hx hb dL_works_451 (by decide) ?_
                refine lv_goto (tgt := 456) hx hb dL_works_452 (by decide) ?_
                exact W.widen (k := 12) (n := 128) (by omega) (by omega) (zr_qz (S := va_W) (post := (fun (r : Int32) (u : va_W) => r = bI true ∧ LV cA ad g u)) (w1 := fun u => u) ((g 0, zInts cA 4 cf) :: (g 1, zInts cA 24 tf) :: (g 2, zInts cA 24 ff) :: (g 3, zInts cA 10 vf) :: (g 4, zInts cA 40 jj) :: (g 5, zInts cA 20 lt) :: (g 6, zInts cA 20 dd) :: cw) hx hb hr hlocks ⟨rfl, ⟨_, _, _, _, _, _, _, _, _, _, _, _, _, _, _, _, _, _, _, _, _, _, _, _, _, _, _, _, _, _, _, _, _, _, _, _, _, _, _, _, cw, rfl, hL, hI, hp⟩⟩ hP hD hS rfl dL_works_456)
            · rw [hvi1] at hl
              rcases (by omega : fc t ≤ mf ∨ (mf < fc t ∧ 12 ≤ ct q2) ∨ (mf < fc t ∧ ct q2 < 12)) with hmf | ⟨hmf, hc9⟩ | ⟨hmf, hc9⟩
              · refine lv_iload hx hb dL_works_350 (lv_at hl 13 rfl) ?_
                refine zb_eq (tgt := 377) hx hb dL_works_352 (by decide) (fun c_23 => Bool.noConfusion c_23) (fun c_23 => ?_)
                refine lv_iload hx hb dL_works_355 (lv_at hl 0 rfl) ?_
                refine zf_lt (tgt := 377) hx hb (by omega) dL_works_357 (by decide) ?_
                refine lv_iload hx hb dL_works_360 (lv_at hl 0 rfl) ?_
                refine lv_aload hx hb dL_works_362 (lv_at hl 5 rfl) ?_
                refine lv_bipush (v := nI (20)) hx hb dL_works_364 (by decide) ?_
                refine lv_iload hx hb dL_works_366 (lv_at hl 14 rfl) ?_
                refine zo_add hx hb dL_works_368 ?_
                refine va_iald hx hb hZ.1 hP 1 0 rfl rfl (vp_in_nI (show 20 + t < 24 by omega) (by omega)) dL_works_369 ?_
                rw [nI_clamp (show 20 + t < 2 ^ 31 by omega)]
                refine zx_val (y := nI (fc t)) (qa6) ?_
                refine zc_ge (tgt := 377) hx hb (by omega) (by omega) dL_works_370 (by decide) (fun c_25 => ?_) (fun c_25 => False.elim (by omega))
                refine lv_iconst (v := bI (false)) hx hb dL_works_377 (by decide) ?_
                refine lv_istore (lv' := [(15, .int (bI (false))), (14, .int (nI (mf))), (0, .ref (ad 0)), (1, .int (nI (3))), (2, .int (y)), (3, .ref (g 0)), (4, .ref (g 1)), (5, .ref (g 2)), (6, .ref (g 3)), (7, .ref (g 4)), (8, .ref (g 5)), (9, .ref (g 6)), (10, .int (nI (q2))), (11, .int (bI (true))), (12, .int (bI (true))), (13, .int (nI (t)))]) hx hb dL_works_378 hl (by decide) rfl (fun ls hl => ?_)
                refine lv_iload hx hb dL_works_380 (lv_at hl 13 rfl) ?_
                refine zb_eq (tgt := 395) hx hb dL_works_382 (by decide) (fun c_26 => Bool.noConfusion c_26) (fun c_26 => ?_)
                refine lv_iload hx hb dL_works_385 (lv_at hl 14 rfl) ?_
                refine zb_eq (tgt := 400) hx hb dL_works_387 (by decide) (fun c_27 => Bool.noConfusion c_27) (fun c_27 => ?_)
                refine lv_iload hx hb dL_works_390 (lv_at hl 0 rfl) ?_
                refine zb_ne (tgt := 400) hx hb dL_works_392 (by decide) (fun c_28 => Bool.noConfusion c_28) (fun c_28 => ?_)
                refine lv_bipush (v := (-101)) hx hb dL_works_395 (by decide) ?_
                refine lv_goto (tgt := 435) hx hb dL_works_397 (by decide) ?_
                refine lv_istore (lv' := [(16, .int ((-101))), (15, .int (bI (false))), (14, .int (nI (mf))), (0, .ref (ad 0)), (1, .int (nI (3))), (2, .int (y)), (3, .ref (g 0)), (4, .ref (g 1)), (5, .ref (g 2)), (6, .ref (g 3)), (7, .ref (g 4)), (8, .ref (g 5)), (9, .ref (g 6)), (10, .int (nI (q2))), (11, .int (bI (true))), (12, .int (bI (true))), (13, .int (nI (t)))]) hx hb dL_works_435 hl (by decide) rfl (fun ls hl => ?_)
                refine lv_aload_n hx hb dL_works_437 rfl (lv_at hl 3 rfl) ?_
                refine lv_iconst (v := nI (2)) hx hb dL_works_438 (by decide) ?_
                refine lv_iload hx hb dL_works_439 (lv_at hl 13 rfl) ?_
                refine lv_iload hx hb dL_works_441 (lv_at hl 2 rfl) ?_
                refine ze_H_i (n := 4) (mc := 4) (ms := 24) (ws := cw) (es := [(g 0, zInts cA 4 cf), (g 1, zInts cA 24 tf), (g 2, zInts cA 24 ff), (g 3, zInts cA 10 vf), (g 4, zInts cA 40 jj), (g 5, zInts cA 20 lt), (g 6, zInts cA 20 dd)]) (As := [.ref (ad 0), .int (nI (2)), .int (nI (q2)), .int (nI (mf))]) (rest := []) hx hb hml hts hown hZ hX hN [0, 1, 2, 3, 4, 5, 6] rfl rfl hP hD hS hA (c_L_two_2 l D cA _ cw (ad 0) _ l0 _ _ _ _ (kR (ix (nI (q2)) nd) hd (fun t => ix (nI (mf)) (fc t)) (fun j => decide (ct j < 12))) (nI (q2)) (nI (mf)) (fun sz9 => c_X4_read l hlt D cA sz9 cw ad T Bd E PT PB PE n tr le sl mo la fc bo nd mk ck ct hd pq nj fw jf dl dn oc s8 s9 s10 s11 s12 hL hI (nI (q2)) (nI (mf))) (fun _ _ h => h)) gL_works_L_two rfl ⟨rfl, rfl⟩ ⟨by decide +kernel, (Nat.le_of_ble_eq_true rfl), (Nat.le_of_ble_eq_true rfl)⟩ hl.1 rfl (Nat.le_of_ble_eq_true rfl) ⟨(Nat.le_of_ble_eq_true rfl), (Nat.le_of_ble_eq_true rfl)⟩ rfl dL_works_443 (fun r9 u9 H locs hp9 hP hD hS hz => ?_)
                rcases u9 with ⟨j9, t9, P9, f9, w1⟩ | u9
                · dsimp only [zwP] at hp9
                  obtain ⟨hjn, hv0, hht9, hpq9, hP16, hfn9, hv1, hct9, hr9, hkp, hL1⟩ := hp9
                  have e9 := (nI_eq (by omega) (by omega)).mp hv0
                  rw [← e9] at hht9
                  have e7 : t = t9 := Option.some.inj (hhd.symm.trans hht9)
                  rw [← e7] at hfn9
                  have e8 := (nI_eq (by omega) (by omega)).mp hv1
                  omega
                · dsimp only [zwP] at hp9
                  obtain ⟨hr9, hK9, E9, hE9⟩ := hp9
                  have hr9 : r9 = (-101) := by rw [hr9, show (kR (ix (nI (q2)) nd) hd (fun t => ix (nI (mf)) (fc t)) (fun j => decide (ct j < 12))) = 1 from kR_3 (ix_in (by omega) hdn) hhd (by rw [ix_nI (by omega), if_neg (by omega)])]; rfl
                  subst hr9
                  have hP : va_P D vwCl ((g 0, zInts cA 4 cf) :: (g 1, zInts cA 24 tf) :: (g 2, zInts cA 24 ff) :: (g 3, zInts cA 10 vf) :: (g 4, zInts cA 40 jj) :: (g 5, zInts cA 20 lt) :: (g 6, zInts cA 20 dd) :: cw) H := hP
                  have hD : va_D A ((g 0, zInts cA 4 cf) :: (g 1, zInts cA 24 tf) :: (g 2, zInts cA 24 ff) :: (g 3, zInts cA 10 vf) :: (g 4, zInts cA 40 jj) :: (g 5, zInts cA 20 lt) :: (g 6, zInts cA 20 dd) :: cw) := hD
                  refine lv_iload hx hb dL_works_446 (lv_at hl 0 rfl) ?_
                  refine lv_icmp_ne (tgt := 455) hx hb dL_works_448 (by decide) (fun c_29 => absurd rfl c_29) (fun c_29 => ?_)
                  refine lv_iconst (v := bI (true)) hx hb dL_works_451 (by decide) ?_
                  refine lv_goto (tgt := 456) hx hb dL_works_452 (by decide) ?_
                  exact W.widen (k := 12) (n := 128) (by omega) (by omega) (zr_qz (S := va_W) (post := (fun (r : Int32) (u : va_W) => r = bI true ∧ LV cA ad g u)) (w1 := fun u => u) ((g 0, zInts cA 4 cf) :: (g 1, zInts cA 24 tf) :: (g 2, zInts cA 24 ff) :: (g 3, zInts cA 10 vf) :: (g 4, zInts cA 40 jj) :: (g 5, zInts cA 20 lt) :: (g 6, zInts cA 20 dd) :: cw) hx hb hr hlocks ⟨rfl, ⟨_, _, _, _, _, _, _, _, _, _, _, _, _, _, _, _, _, _, _, _, _, _, _, _, _, _, _, _, _, _, _, _, _, _, _, _, _, _, _, _, cw, rfl, hL, hI, hp⟩⟩ hP hD hS rfl dL_works_456)
              · refine lv_iload hx hb dL_works_350 (lv_at hl 13 rfl) ?_
                refine zb_eq (tgt := 377) hx hb dL_works_352 (by decide) (fun c_30 => Bool.noConfusion c_30) (fun c_30 => ?_)
                refine lv_iload hx hb dL_works_355 (lv_at hl 0 rfl) ?_
                refine zf_lt (tgt := 377) hx hb (by omega) dL_works_357 (by decide) ?_
                refine lv_iload hx hb dL_works_360 (lv_at hl 0 rfl) ?_
                refine lv_aload hx hb dL_works_362 (lv_at hl 5 rfl) ?_
                refine lv_bipush (v := nI (20)) hx hb dL_works_364 (by decide) ?_
                refine lv_iload hx hb dL_works_366 (lv_at hl 14 rfl) ?_
                refine zo_add hx hb dL_works_368 ?_
                refine va_iald hx hb hZ.1 hP 1 0 rfl rfl (vp_in_nI (show 20 + t < 24 by omega) (by omega)) dL_works_369 ?_
                rw [nI_clamp (show 20 + t < 2 ^ 31 by omega)]
                refine zx_val (y := nI (fc t)) (qa6) ?_
                refine zc_ge (tgt := 377) hx hb (by omega) (by omega) dL_works_370 (by decide) (fun c_32 => False.elim (by omega)) (fun c_32 => ?_)
                refine lv_iconst (v := bI (true)) hx hb dL_works_373 (by decide) ?_
                refine lv_goto (tgt := 378) hx hb dL_works_374 (by decide) ?_
                refine lv_istore (lv' := [(15, .int (bI (true))), (14, .int (nI (mf))), (0, .ref (ad 0)), (1, .int (nI (3))), (2, .int (y)), (3, .ref (g 0)), (4, .ref (g 1)), (5, .ref (g 2)), (6, .ref (g 3)), (7, .ref (g 4)), (8, .ref (g 5)), (9, .ref (g 6)), (10, .int (nI (q2))), (11, .int (bI (true))), (12, .int (bI (true))), (13, .int (nI (t)))]) hx hb dL_works_378 hl (by decide) rfl (fun ls hl => ?_)
                refine lv_iload hx hb dL_works_380 (lv_at hl 13 rfl) ?_
                refine zb_eq (tgt := 395) hx hb dL_works_382 (by decide) (fun c_33 => Bool.noConfusion c_33) (fun c_33 => ?_)
                refine lv_iload hx hb dL_works_385 (lv_at hl 14 rfl) ?_
                refine zb_eq (tgt := 400) hx hb dL_works_387 (by decide) (fun c_34 => Bool.noConfusion c_34) (fun c_34 => ?_)
                refine lv_iload hx hb dL_works_390 (lv_at hl 0 rfl) ?_
                refine zb_ne (tgt := 400) hx hb dL_works_392 (by decide) (fun c_35 => ?_) (fun c_35 => Bool.noConfusion c_35)
                refine lv_iload hx hb dL_works_400 (lv_at hl 14 rfl) ?_
                refine zb_eq (tgt := 433) hx hb dL_works_402 (by decide) (fun c_36 => Bool.noConfusion c_36) (fun c_36 => ?_)
                refine lv_aload hx hb dL_works_405 (lv_at hl 8 rfl) ?_
                refine lv_iconst (v := nI (4)) hx hb dL_works_407 (by decide) ?_
                refine lv_iload hx hb dL_works_408 (lv_at hl 12 rfl) ?_
                refine zo_add hx hb dL_works_410 ?_
                refine va_iald hx hb hZ.1 hP 3 0 rfl rfl (vp_in_nI (show 4 + q2 < 10 by omega) (by omega)) dL_works_411 ?_
                rw [nI_clamp (show 4 + q2 < 2 ^ 31 by omega)]
                refine zx_val (y := nI (ct q2)) (qv3) ?_
                refine lv_bipush (v := nI (12)) hx hb dL_works_412 (by decide) ?_
                refine zc_ge (tgt := 433) hx hb (by omega) (by omega) dL_works_414 (by decide) (fun c_37 => ?_) (fun c_37 => False.elim (by omega))
                refine lv_bipush (v := (-102)) hx hb dL_works_433 (by decide) ?_
                refine lv_istore (lv' := [(16, .int ((-102))), (15, .int (bI (true))), (14, .int (nI (mf))), (0, .ref (ad 0)), (1, .int (nI (3))), (2, .int (y)), (3, .ref (g 0)), (4, .ref (g 1)), (5, .ref (g 2)), (6, .ref (g 3)), (7, .ref (g 4)), (8, .ref (g 5)), (9, .ref (g 6)), (10, .int (nI (q2))), (11, .int (bI (true))), (12, .int (bI (true))), (13, .int (nI (t)))]) hx hb dL_works_435 hl (by decide) rfl (fun ls hl => ?_)
                refine lv_aload_n hx hb dL_works_437 rfl (lv_at hl 3 rfl) ?_
                refine lv_iconst (v := nI (2)) hx hb dL_works_438 (by decide) ?_
                refine lv_iload hx hb dL_works_439 (lv_at hl 13 rfl) ?_
                refine lv_iload hx hb dL_works_441 (lv_at hl 2 rfl) ?_
                refine ze_H_i (n := 4) (mc := 4) (ms := 24) (ws := cw) (es := [(g 0, zInts cA 4 cf), (g 1, zInts cA 24 tf), (g 2, zInts cA 24 ff), (g 3, zInts cA 10 vf), (g 4, zInts cA 40 jj), (g 5, zInts cA 20 lt), (g 6, zInts cA 20 dd)]) (As := [.ref (ad 0), .int (nI (2)), .int (nI (q2)), .int (nI (mf))]) (rest := []) hx hb hml hts hown hZ hX hN [0, 1, 2, 3, 4, 5, 6] rfl rfl hP hD hS hA (c_L_two_2 l D cA _ cw (ad 0) _ l0 _ _ _ _ (kR (ix (nI (q2)) nd) hd (fun t => ix (nI (mf)) (fc t)) (fun j => decide (ct j < 12))) (nI (q2)) (nI (mf)) (fun sz9 => c_X4_read l hlt D cA sz9 cw ad T Bd E PT PB PE n tr le sl mo la fc bo nd mk ck ct hd pq nj fw jf dl dn oc s8 s9 s10 s11 s12 hL hI (nI (q2)) (nI (mf))) (fun _ _ h => h)) gL_works_L_two rfl ⟨rfl, rfl⟩ ⟨by decide +kernel, (Nat.le_of_ble_eq_true rfl), (Nat.le_of_ble_eq_true rfl)⟩ hl.1 rfl (Nat.le_of_ble_eq_true rfl) ⟨(Nat.le_of_ble_eq_true rfl), (Nat.le_of_ble_eq_true rfl)⟩ rfl dL_works_443 (fun r9 u9 H locs hp9 hP hD hS hz => ?_)
                rcases u9 with ⟨j9, t9, P9, f9, w1⟩ | u9
                · dsimp only [zwP] at hp9
                  obtain ⟨hjn, hv0, hht9, hpq9, hP16, hfn9, hv1, hct9, hr9, hkp, hL1⟩ := hp9
                  have e9 := (nI_eq (by omega) (by omega)).mp hv0
                  rw [← e9] at hct9; omega
                · dsimp only [zwP] at hp9
                  obtain ⟨hr9, hK9, E9, hE9⟩ := hp9
                  have hr9 : r9 = (-102) := by rw [hr9, show (kR (ix (nI (q2)) nd) hd (fun t => ix (nI (mf)) (fc t)) (fun j => decide (ct j < 12))) = 2 from kR_4 (ix_in (by omega) hdn) hhd (ix_in (by omega) hmf) (decide_eq_false (by omega))]; rfl
                  subst hr9
                  have hP : va_P D vwCl ((g 0, zInts cA 4 cf) :: (g 1, zInts cA 24 tf) :: (g 2, zInts cA 24 ff) :: (g 3, zInts cA 10 vf) :: (g 4, zInts cA 40 jj) :: (g 5, zInts cA 20 lt) :: (g 6, zInts cA 20 dd) :: cw) H := hP
                  have hD : va_D A ((g 0, zInts cA 4 cf) :: (g 1, zInts cA 24 tf) :: (g 2, zInts cA 24 ff) :: (g 3, zInts cA 10 vf) :: (g 4, zInts cA 40 jj) :: (g 5, zInts cA 20 lt) :: (g 6, zInts cA 20 dd) :: cw) := hD
                  refine lv_iload hx hb dL_works_446 (lv_at hl 0 rfl) ?_
                  refine lv_icmp_ne (tgt := 455) hx hb dL_works_448 (by decide) (fun c_38 => absurd rfl c_38) (fun c_38 => ?_)
                  refine lv_iconst (v := bI (true)) hx hb dL_works_451 (by decide) ?_
                  refine lv_goto (tgt := 456) hx hb dL_works_452 (by decide) ?_
                  exact W.widen (k := 12) (n := 128) (by omega) (by omega) (zr_qz (S := va_W) (post := (fun (r : Int32) (u : va_W) => r = bI true ∧ LV cA ad g u)) (w1 := fun u => u) ((g 0, zInts cA 4 cf) :: (g 1, zInts cA 24 tf) :: (g 2, zInts cA 24 ff) :: (g 3, zInts cA 10 vf) :: (g 4, zInts cA 40 jj) :: (g 5, zInts cA 20 lt) :: (g 6, zInts cA 20 dd) :: cw) hx hb hr hlocks ⟨rfl, ⟨_, _, _, _, _, _, _, _, _, _, _, _, _, _, _, _, _, _, _, _, _, _, _, _, _, _, _, _, _, _, _, _, _, _, _, _, _, _, _, _, cw, rfl, hL, hI, hp⟩⟩ hP hD hS rfl dL_works_456)
              · refine lv_iload hx hb dL_works_350 (lv_at hl 13 rfl) ?_
                refine zb_eq (tgt := 377) hx hb dL_works_352 (by decide) (fun c_39 => Bool.noConfusion c_39) (fun c_39 => ?_)
                refine lv_iload hx hb dL_works_355 (lv_at hl 0 rfl) ?_
                refine zf_lt (tgt := 377) hx hb (by omega) dL_works_357 (by decide) ?_
                refine lv_iload hx hb dL_works_360 (lv_at hl 0 rfl) ?_
                refine lv_aload hx hb dL_works_362 (lv_at hl 5 rfl) ?_
                refine lv_bipush (v := nI (20)) hx hb dL_works_364 (by decide) ?_
                refine lv_iload hx hb dL_works_366 (lv_at hl 14 rfl) ?_
                refine zo_add hx hb dL_works_368 ?_
                refine va_iald hx hb hZ.1 hP 1 0 rfl rfl (vp_in_nI (show 20 + t < 24 by omega) (by omega)) dL_works_369 ?_
                rw [nI_clamp (show 20 + t < 2 ^ 31 by omega)]
                refine zx_val (y := nI (fc t)) (qa6) ?_
                refine zc_ge (tgt := 377) hx hb (by omega) (by omega) dL_works_370 (by decide) (fun c_41 => False.elim (by omega)) (fun c_41 => ?_)
                refine lv_iconst (v := bI (true)) hx hb dL_works_373 (by decide) ?_
                refine lv_goto (tgt := 378) hx hb dL_works_374 (by decide) ?_
                refine lv_istore (lv' := [(15, .int (bI (true))), (14, .int (nI (mf))), (0, .ref (ad 0)), (1, .int (nI (3))), (2, .int (y)), (3, .ref (g 0)), (4, .ref (g 1)), (5, .ref (g 2)), (6, .ref (g 3)), (7, .ref (g 4)), (8, .ref (g 5)), (9, .ref (g 6)), (10, .int (nI (q2))), (11, .int (bI (true))), (12, .int (bI (true))), (13, .int (nI (t)))]) hx hb dL_works_378 hl (by decide) rfl (fun ls hl => ?_)
                refine lv_iload hx hb dL_works_380 (lv_at hl 13 rfl) ?_
                refine zb_eq (tgt := 395) hx hb dL_works_382 (by decide) (fun c_42 => Bool.noConfusion c_42) (fun c_42 => ?_)
                refine lv_iload hx hb dL_works_385 (lv_at hl 14 rfl) ?_
                refine zb_eq (tgt := 400) hx hb dL_works_387 (by decide) (fun c_43 => Bool.noConfusion c_43) (fun c_43 => ?_)
                refine lv_iload hx hb dL_works_390 (lv_at hl 0 rfl) ?_
                refine zb_ne (tgt := 400) hx hb dL_works_392 (by decide) (fun c_44 => ?_) (fun c_44 => Bool.noConfusion c_44)
                refine lv_iload hx hb dL_works_400 (lv_at hl 14 rfl) ?_
                refine zb_eq (tgt := 433) hx hb dL_works_402 (by decide) (fun c_45 => Bool.noConfusion c_45) (fun c_45 => ?_)
                refine lv_aload hx hb dL_works_405 (lv_at hl 8 rfl) ?_
                refine lv_iconst (v := nI (4)) hx hb dL_works_407 (by decide) ?_
                refine lv_iload hx hb dL_works_408 (lv_at hl 12 rfl) ?_
                refine zo_add hx hb dL_works_410 ?_
                refine va_iald hx hb hZ.1 hP 3 0 rfl rfl (vp_in_nI (show 4 + q2 < 10 by omega) (by omega)) dL_works_411 ?_
                rw [nI_clamp (show 4 + q2 < 2 ^ 31 by omega)]
                refine zx_val (y := nI (ct q2)) (qv3) ?_
                refine lv_bipush (v := nI (12)) hx hb dL_works_412 (by decide) ?_
                refine zc_ge (tgt := 433) hx hb (by omega) (by omega) dL_works_414 (by decide) (fun c_46 => False.elim (by omega)) (fun c_46 => ?_)
                obtain ⟨hI2, hp2⟩ := J_go (j := q2) (t := t) (q9 := bo t (mf + 1)) (d9 := ct q2 + 1) (c9 := ck q2 + nI (legT (zpa (mk q2)) (zsp (mk q2)) (tr t) (le t) (bo t) Pq mf)) hI hp hdn hhd (y17 (mf + 1) (by omega)) (by omega)
                refine lv_aload hx hb dL_works_417 (lv_at hl 6 rfl) ?_
                refine lv_aload hx hb dL_works_419 (lv_at hl 7 rfl) ?_
                refine lv_aload hx hb dL_works_421 (lv_at hl 8 rfl) ?_
                refine lv_iload hx hb dL_works_423 (lv_at hl 12 rfl) ?_
                refine lv_iload hx hb dL_works_425 (lv_at hl 1 rfl) ?_
                refine zw_S_i (n := 5) (mc := 0) (ms := 0) (w1 := fun u : Unit => (g 0, zInts cA 4 cf) :: (g 1, zInts cA 24 tf) :: (g 2, zInts cA 24 ff) :: (g 3, zInts cA 10 (upd (upd (upd vf (2 + q2) (ck q2 + nI (legT (zpa (mk q2)) (zsp (mk q2)) (tr t) (le t) (bo t) Pq mf))) (4 + q2) (nI (ct q2 + 1))) (8 + q2) (nI (bo t (mf + 1))))) :: (g 4, zInts cA 40 jj) :: (g 5, zInts cA 20 lt) :: (g 6, zInts cA 20 dd) :: cw) (As := [.ref (g 1), .ref (g 2), .ref (g 3), .int (nI (q2)), .int (nI (mf))]) (rest := []) hx hb hml hts hown hZ hP hD hS hA (c_L_runs2 l D cA _ ((g 0, zInts cA 4 cf) :: (g 1, zInts cA 24 tf) :: (g 2, zInts cA 24 ff) :: (g 3, zInts cA 10 vf) :: (g 4, zInts cA 40 jj) :: (g 5, zInts cA 20 lt) :: (g 6, zInts cA 20 dd) :: cw) 1 (g 1) tf rfl 2 (g 2) ff rfl 3 (g 3) vf rfl q2 t (tr t) (le t) (mk q2) y1 y2 y3 y4 y5 y6 y7 y8 y9 y10 y11 Pq y12 y13 (bo t) (fc t) y14 y15 y16 y17 mf hmf (by decide) (by decide) (c9 := (ck q2 + nI (legT (zpa (mk q2)) (zsp (mk q2)) (tr t) (le t) (bo t) Pq mf))) (d9 := (ct q2 + 1)) (q9 := (bo t (mf + 1))) (lg9 := (legT (zpa (mk q2)) (zsp (mk q2)) (tr t) (le t) (bo t) Pq mf)) (by rw [qv2]) (by rw [qv3, nI_add]) rfl rfl) gL_works_L_runs rfl ⟨rfl, rfl⟩ ⟨by decide +kernel, (Nat.le_of_ble_eq_true rfl), (Nat.le_of_ble_eq_true rfl)⟩ hl.1 rfl (Nat.le_of_ble_eq_true rfl) ⟨(Nat.le_of_ble_eq_true rfl), (Nat.le_of_ble_eq_true rfl)⟩ rfl dL_works_427 (fun r9 u9 H locs hp9 hP hD hS hz => ?_)
                obtain rfl := show r9 = nI (legT (zpa (mk q2)) (zsp (mk q2)) (tr t) (le t) (bo t) Pq mf) from hp9
                have hP : va_P D vwCl ((g 0, zInts cA 4 cf) :: (g 1, zInts cA 24 tf) :: (g 2, zInts cA 24 ff) :: (g 3, zInts cA 10 (upd (upd (upd vf (2 + q2) (ck q2 + nI (legT (zpa (mk q2)) (zsp (mk q2)) (tr t) (le t) (bo t) Pq mf))) (4 + q2) (nI (ct q2 + 1))) (8 + q2) (nI (bo t (mf + 1))))) :: (g 4, zInts cA 40 jj) :: (g 5, zInts cA 20 lt) :: (g 6, zInts cA 20 dd) :: cw) H := hP
                have hD : va_D A ((g 0, zInts cA 4 cf) :: (g 1, zInts cA 24 tf) :: (g 2, zInts cA 24 ff) :: (g 3, zInts cA 10 (upd (upd (upd vf (2 + q2) (ck q2 + nI (legT (zpa (mk q2)) (zsp (mk q2)) (tr t) (le t) (bo t) Pq mf))) (4 + q2) (nI (ct q2 + 1))) (8 + q2) (nI (bo t (mf + 1))))) :: (g 4, zInts cA 40 jj) :: (g 5, zInts cA 20 lt) :: (g 6, zInts cA 20 dd) :: cw) := hD
                refine lv_goto (tgt := 435) hx hb dL_works_430 (by decide) ?_
                refine lv_istore (lv' := [(16, .int (nI (legT (zpa (mk q2)) (zsp (mk q2)) (tr t) (le t) (bo t) Pq mf))), (15, .int (bI (true))), (14, .int (nI (mf))), (0, .ref (ad 0)), (1, .int (nI (3))), (2, .int (y)), (3, .ref (g 0)), (4, .ref (g 1)), (5, .ref (g 2)), (6, .ref (g 3)), (7, .ref (g 4)), (8, .ref (g 5)), (9, .ref (g 6)), (10, .int (nI (q2))), (11, .int (bI (true))), (12, .int (bI (true))), (13, .int (nI (t)))]) hx hb dL_works_435 hl (by decide) rfl (fun ls hl => ?_)
                refine lv_aload_n hx hb dL_works_437 rfl (lv_at hl 3 rfl) ?_
                refine lv_iconst (v := nI (2)) hx hb dL_works_438 (by decide) ?_
                refine lv_iload hx hb dL_works_439 (lv_at hl 13 rfl) ?_
                refine lv_iload hx hb dL_works_441 (lv_at hl 2 rfl) ?_
                refine ze_H_i (n := 4) (mc := 4) (ms := 24) (ws := cw) (es := [(g 0, zInts cA 4 cf), (g 1, zInts cA 24 tf), (g 2, zInts cA 24 ff), (g 3, zInts cA 10 (upd (upd (upd vf (2 + q2) (ck q2 + nI (legT (zpa (mk q2)) (zsp (mk q2)) (tr t) (le t) (bo t) Pq mf))) (4 + q2) (nI (ct q2 + 1))) (8 + q2) (nI (bo t (mf + 1))))), (g 4, zInts cA 40 jj), (g 5, zInts cA 20 lt), (g 6, zInts cA 20 dd)]) (As := [.ref (ad 0), .int (nI (2)), .int (nI (q2)), .int (nI (mf))]) (rest := []) hx hb hml hts hown hZ hX hN [0, 1, 2, 3, 4, 5, 6] rfl rfl hP hD hS hA (c_L_two_2 l D cA _ cw (ad 0) _ l0 _ _ _ _ (kR (ix (nI (q2)) nd) hd (fun t => ix (nI (mf)) (fc t)) (fun j => decide (ct j < 12))) (nI (q2)) (nI (mf)) (fun sz9 => c_X4_read l hlt D cA sz9 cw ad T Bd E PT PB PE n tr le sl mo la fc bo nd mk ck ct hd pq nj fw jf dl dn oc s8 s9 s10 s11 s12 hL hI (nI (q2)) (nI (mf))) (fun _ _ h => h)) gL_works_L_two rfl ⟨rfl, rfl⟩ ⟨by decide +kernel, (Nat.le_of_ble_eq_true rfl), (Nat.le_of_ble_eq_true rfl)⟩ hl.1 rfl (Nat.le_of_ble_eq_true rfl) ⟨(Nat.le_of_ble_eq_true rfl), (Nat.le_of_ble_eq_true rfl)⟩ rfl dL_works_443 (fun r9 u9 H locs hp9 hP hD hS hz => ?_)
                rcases u9 with ⟨j9, t9, P9, f9, w1⟩ | u9
                · dsimp only [zwP] at hp9
                  obtain ⟨hjn, hv0, hht9, hpq9, hP16, hfn9, hv1, hct9, hr9, hkp, hL1⟩ := hp9
                  have e9 := (nI_eq (by omega) (by omega)).mp hv0
                  subst e9
                  have e7 : t = t9 := Option.some.inj (hhd.symm.trans hht9)
                  subst e7
                  have e6 : Pq = P9 := (nI_eq (by omega) (by omega)).mp (hPq1.symm.trans hpq9)
                  subst e6
                  have e8 := (nI_eq (by omega) (by omega)).mp hv1
                  subst e8; subst hr9
                  have hP : va_P D vwCl ((g 0, zInts cA 4 cf) :: (g 1, zInts cA 24 tf) :: (g 2, zInts cA 24 ff) :: (g 3, zInts cA 10 (upd (upd (upd vf (2 + q2) (ck q2 + nI (legT (zpa (mk q2)) (zsp (mk q2)) (tr t) (le t) (bo t) Pq mf))) (4 + q2) (nI (ct q2 + 1))) (8 + q2) (nI (bo t (mf + 1))))) :: (g 4, zInts cA 40 jj) :: (g 5, zInts cA 20 lt) :: (g 6, zInts cA 20 dd) :: w1) H := hP
                  have hD : va_D A ((g 0, zInts cA 4 cf) :: (g 1, zInts cA 24 tf) :: (g 2, zInts cA 24 ff) :: (g 3, zInts cA 10 (upd (upd (upd vf (2 + q2) (ck q2 + nI (legT (zpa (mk q2)) (zsp (mk q2)) (tr t) (le t) (bo t) Pq mf))) (4 + q2) (nI (ct q2 + 1))) (8 + q2) (nI (bo t (mf + 1))))) :: (g 4, zInts cA 40 jj) :: (g 5, zInts cA 20 lt) :: (g 6, zInts cA 20 dd) :: w1) := hD
                  refine lv_iload hx hb dL_works_446 (lv_at hl 0 rfl) ?_
                  refine lv_icmp_ne (tgt := 455) hx hb dL_works_448 (by decide) (fun c_47 => absurd rfl c_47) (fun c_47 => ?_)
                  refine lv_iconst (v := bI (true)) hx hb dL_works_451 (by decide) ?_
                  refine lv_goto (tgt := 456) hx hb dL_works_452 (by decide) ?_
                  exact W.widen (k := 12) (n := 128) (by omega) (by omega) (zr_qz (S := va_W) (post := (fun (r : Int32) (u : va_W) => r = bI true ∧ LV cA ad g u)) (w1 := fun u => u) ((g 0, zInts cA 4 cf) :: (g 1, zInts cA 24 tf) :: (g 2, zInts cA 24 ff) :: (g 3, zInts cA 10 (upd (upd (upd vf (2 + q2) (ck q2 + nI (legT (zpa (mk q2)) (zsp (mk q2)) (tr t) (le t) (bo t) Pq mf))) (4 + q2) (nI (ct q2 + 1))) (8 + q2) (nI (bo t (mf + 1))))) :: (g 4, zInts cA 40 jj) :: (g 5, zInts cA 20 lt) :: (g 6, zInts cA 20 dd) :: w1) hx hb hr hlocks ⟨rfl, ⟨_, _, _, _, _, _, _, _, _, _, _, _, _, _, _, _, _, _, _, _, _, _, _, _, _, _, _, _, _, _, _, _, _, _, _, _, _, _, _, _, w1, rfl, hL1, hI2, hp2⟩⟩ hP hD hS rfl dL_works_456)
                · exact absurd (show (kR (ix (nI (q2)) nd) hd (fun t => ix (nI (mf)) (fc t)) (fun j => decide (ct j < 12))) = 0 from kR_0 (ix_in (by omega) hdn) hhd (ix_in (by omega) hmf) (decide_eq_true (by omega))) hp9.2.1
          · skip
            refine zf_ne (tgt := 346) hx hb (by omega) dL_works_339 (by decide) (fun c_48 => ?_) (fun c_48 => ?_)
            · refine lv_iconst (v := nI (0)) hx hb dL_works_346 (by decide) ?_
              exact J347 (0) ls ⟨lv_sub hl [3, 4, 5, 6, 7, 8, 9, 10, 11, 12, 13, 2, 1, 0] rfl, by omega⟩
            · refine lv_iconst (v := nI (1)) hx hb dL_works_342 (by decide) ?_
              refine lv_goto (tgt := 347) hx hb dL_works_343 (by decide) ?_
              exact J347 (1) ls ⟨lv_sub hl [3, 4, 5, 6, 7, 8, 9, 10, 11, 12, 13, 2, 1, 0] rfl, by omega⟩
      · obtain rfl : bD = false := by rw [hI48]; exact decide_eq_false (Nat.not_lt.mpr hdn)
        refine lv_iload hx hb dL_works_50 (lv_at hl 0 rfl) ?_
        refine zb_eq (tgt := 70) hx hb dL_works_52 (by decide) (fun c_49 => ?_) (fun c_49 => Bool.noConfusion c_49)
        refine lv_iconst (v := bI (false)) hx hb dL_works_70 (by decide) ?_
        refine lv_istore (lv' := [(12, .int (bI (false))), (11, .int (bI (false))), (0, .ref (ad 0)), (1, .int (nI (3))), (2, .int (y)), (3, .ref (g 0)), (4, .ref (g 1)), (5, .ref (g 2)), (6, .ref (g 3)), (7, .ref (g 4)), (8, .ref (g 5)), (9, .ref (g 6)), (10, .int (nI (q2)))]) hx hb dL_works_71 hl (by decide) rfl (fun ls hl => ?_)
        refine lv_iload hx hb dL_works_73 (lv_at hl 0 rfl) ?_
        refine zb_eq (tgt := 89) hx hb dL_works_75 (by decide) (fun c_50 => ?_) (fun c_50 => Bool.noConfusion c_50)
        refine lv_iconst (v := nI (0)) hx hb dL_works_89 (by decide) ?_
        refine lv_istore (lv' := [(13, .int (nI (0))), (12, .int (bI (false))), (11, .int (bI (false))), (0, .ref (ad 0)), (1, .int (nI (3))), (2, .int (y)), (3, .ref (g 0)), (4, .ref (g 1)), (5, .ref (g 2)), (6, .ref (g 3)), (7, .ref (g 4)), (8, .ref (g 5)), (9, .ref (g 6)), (10, .int (nI (q2)))]) hx hb dL_works_90 hl (by decide) rfl (fun ls hl => ?_)
        refine lv_iload_n hx hb dL_works_92 rfl (lv_at hl 4 rfl) ?_
        refine lv_iconst (v := nI (3)) hx hb dL_works_93 (by decide) ?_
        refine zc_ge (tgt := 317) hx hb (by omega) (by omega) dL_works_94 (by decide) (fun c_51 => ?_) (fun c_51 => False.elim (by omega))
        refine lv_iload_n hx hb dL_works_317 rfl (lv_at hl 4 rfl) ?_
        refine lv_iconst (v := nI (3)) hx hb dL_works_318 (by decide) ?_
        refine lv_icmp_ne (tgt := 457) hx hb dL_works_319 (by decide) (fun c_52 => absurd rfl c_52) (fun c_52 => ?_)
        refine lv_iload_n hx hb dL_works_322 rfl (lv_at hl 5 rfl) ?_
        refine lv_iconst (v := nI (5)) hx hb dL_works_323 (by decide) ?_
        refine lv_ishr hx hb dL_works_324 ?_
        refine lv_bipush (v := nI (7)) hx hb dL_works_325 (by decide) ?_
        refine zk_S_i (n := 2) (As := [.int ((y) >>> ((nI (5)) &&& 31)), .int (nI (7))]) (rest := []) hx hb hml hts hown hZ hP (c_L_some l D cA _ ((y) >>> ((nI (5)) &&& 31)) 7 (by omega) (by omega)) gL_works_L_some rfl ⟨rfl, rfl⟩ ⟨by decide +kernel, (Nat.le_of_ble_eq_true rfl), (Nat.le_of_ble_eq_true rfl)⟩ hl.1 rfl (Nat.le_of_ble_eq_true rfl) ⟨(Nat.le_of_ble_eq_true rfl), (Nat.le_of_ble_eq_true rfl)⟩ rfl dL_works_327 (fun rf hrf => ?_)
        obtain ⟨qf, hqf, hbf⟩ : ∃ z, rf = nI z ∧ z < 7 := ⟨_, hrf, sm_lt (by omega)⟩
        subst hqf
        refine lv_iload_n hx hb dL_works_330 rfl (lv_at hl 5 rfl) ?_
        refine lv_bipush (v := nI (8)) hx hb dL_works_331 (by decide) ?_
        refine lv_ishr hx hb dL_works_333 ?_
        refine lv_bipush (v := nI (9)) hx hb dL_works_334 (by decide) ?_
        refine zk_S_i (n := 2) (As := [.int ((y) >>> ((nI (8)) &&& 31)), .int (nI (9))]) (rest := [.int (nI (qf))]) hx hb hml hts hown hZ hP (c_L_some l D cA _ ((y) >>> ((nI (8)) &&& 31)) 9 (by omega) (by omega)) gL_works_L_some rfl ⟨rfl, rfl⟩ ⟨by decide +kernel, (Nat.le_of_ble_eq_true rfl), (Nat.le_of_ble_eq_true rfl)⟩ hl.1 rfl (Nat.le_of_ble_eq_true rfl) ⟨(Nat.le_of_ble_eq_true rfl), (Nat.le_of_ble_eq_true rfl)⟩ rfl dL_works_336 (fun r5 hr5 => ?_)
        obtain ⟨q5, hq5, hb5⟩ : ∃ z, r5 = nI z ∧ z < 9 := ⟨_, hr5, sm_lt (by omega)⟩
        subst hq5
        refine z_join (α := Nat) (pc' := 347) (fun v ls => lv_has ls 21 [(0, .ref (ad 0)), (1, .int (nI (3))), (2, .int (y)), (3, .ref (g 0)), (4, .ref (g 1)), (5, .ref (g 2)), (6, .ref (g 3)), (7, .ref (g 4)), (8, .ref (g 5)), (9, .ref (g 6)), (10, .int (nI (q2))), (11, .int (bI (false))), (12, .int (bI (false))), (13, .int (nI (0)))] ∧ v ≤ 1) (fun v => [.int (nI (v)), .int (nI (qf))]) ?_ (fun J347 => ?_)
        · intro x3 ls hv
          obtain ⟨hl, hI347⟩ := hv
          have hl : lv_has ls 21 [(0, .ref (ad 0)), (1, .int (nI (3))), (2, .int (y)), (3, .ref (g 0)), (4, .ref (g 1)), (5, .ref (g 2)), (6, .ref (g 3)), (7, .ref (g 4)), (8, .ref (g 5)), (9, .ref (g 6)), (10, .int (nI (q2))), (11, .int (bI (false))), (12, .int (bI (false))), (13, .int (nI (0)))] := hl
          have hI347 : x3 ≤ 1 := hI347
          obtain ⟨vi, hvi, hVq⟩ := ch_va (q := qf) hI347
          refine lv_isub hx hb dL_works_347 ?_
          refine zx_val (y := vi) hvi ?_
          refine lv_istore (lv' := [(14, .int (vi)), (0, .ref (ad 0)), (1, .int (nI (3))), (2, .int (y)), (3, .ref (g 0)), (4, .ref (g 1)), (5, .ref (g 2)), (6, .ref (g 3)), (7, .ref (g 4)), (8, .ref (g 5)), (9, .ref (g 6)), (10, .int (nI (q2))), (11, .int (bI (false))), (12, .int (bI (false))), (13, .int (nI (0)))]) hx hb dL_works_348 hl (by decide) rfl (fun ls hl => ?_)
          refine lv_iload hx hb dL_works_350 (lv_at hl 13 rfl) ?_
          refine zb_eq (tgt := 377) hx hb dL_works_352 (by decide) (fun c_53 => ?_) (fun c_53 => Bool.noConfusion c_53)
          refine lv_iconst (v := bI (false)) hx hb dL_works_377 (by decide) ?_
          refine lv_istore (lv' := [(15, .int (bI (false))), (14, .int (vi)), (0, .ref (ad 0)), (1, .int (nI (3))), (2, .int (y)), (3, .ref (g 0)), (4, .ref (g 1)), (5, .ref (g 2)), (6, .ref (g 3)), (7, .ref (g 4)), (8, .ref (g 5)), (9, .ref (g 6)), (10, .int (nI (q2))), (11, .int (bI (false))), (12, .int (bI (false))), (13, .int (nI (0)))]) hx hb dL_works_378 hl (by decide) rfl (fun ls hl => ?_)
          refine lv_iload hx hb dL_works_380 (lv_at hl 13 rfl) ?_
          refine zb_eq (tgt := 395) hx hb dL_works_382 (by decide) (fun c_54 => ?_) (fun c_54 => Bool.noConfusion c_54)
          refine lv_bipush (v := (-101)) hx hb dL_works_395 (by decide) ?_
          refine lv_goto (tgt := 435) hx hb dL_works_397 (by decide) ?_
          refine lv_istore (lv' := [(16, .int ((-101))), (15, .int (bI (false))), (14, .int (vi)), (0, .ref (ad 0)), (1, .int (nI (3))), (2, .int (y)), (3, .ref (g 0)), (4, .ref (g 1)), (5, .ref (g 2)), (6, .ref (g 3)), (7, .ref (g 4)), (8, .ref (g 5)), (9, .ref (g 6)), (10, .int (nI (q2))), (11, .int (bI (false))), (12, .int (bI (false))), (13, .int (nI (0)))]) hx hb dL_works_435 hl (by decide) rfl (fun ls hl => ?_)
          refine lv_aload_n hx hb dL_works_437 rfl (lv_at hl 3 rfl) ?_
          refine lv_iconst (v := nI (2)) hx hb dL_works_438 (by decide) ?_
          refine lv_iload hx hb dL_works_439 (lv_at hl 13 rfl) ?_
          refine lv_iload hx hb dL_works_441 (lv_at hl 2 rfl) ?_
          refine ze_H_i (n := 4) (mc := 4) (ms := 24) (ws := cw) (es := [(g 0, zInts cA 4 cf), (g 1, zInts cA 24 tf), (g 2, zInts cA 24 ff), (g 3, zInts cA 10 vf), (g 4, zInts cA 40 jj), (g 5, zInts cA 20 lt), (g 6, zInts cA 20 dd)]) (As := [.ref (ad 0), .int (nI (2)), .int (nI (q2)), .int (vi)]) (rest := []) hx hb hml hts hown hZ hX hN [0, 1, 2, 3, 4, 5, 6] rfl rfl hP hD hS hA (c_L_two_2 l D cA _ cw (ad 0) _ l0 _ _ _ _ (kR (ix (nI (q2)) nd) hd (fun t => ix vi (fc t)) (fun j => decide (ct j < 12))) (nI (q2)) vi (fun sz9 => c_X4_read l hlt D cA sz9 cw ad T Bd E PT PB PE n tr le sl mo la fc bo nd mk ck ct hd pq nj fw jf dl dn oc s8 s9 s10 s11 s12 hL hI (nI (q2)) vi) (fun _ _ h => h)) gL_works_L_two rfl ⟨rfl, rfl⟩ ⟨by decide +kernel, (Nat.le_of_ble_eq_true rfl), (Nat.le_of_ble_eq_true rfl)⟩ hl.1 rfl (Nat.le_of_ble_eq_true rfl) ⟨(Nat.le_of_ble_eq_true rfl), (Nat.le_of_ble_eq_true rfl)⟩ rfl dL_works_443 (fun r9 u9 H locs hp9 hP hD hS hz => ?_)
          rcases u9 with ⟨j9, t9, P9, f9, w1⟩ | u9
          · dsimp only [zwP] at hp9
            obtain ⟨hjn, hv0, hht9, hpq9, hP16, hfn9, hv1, hct9, hr9, hkp, hL1⟩ := hp9
            have e9 := (nI_eq (by omega) (by omega)).mp hv0
            omega
          · dsimp only [zwP] at hp9
            obtain ⟨hr9, hK9, E9, hE9⟩ := hp9
            have hr9 : r9 = (-101) := by rw [hr9, show (kR (ix (nI (q2)) nd) hd (fun t => ix vi (fc t)) (fun j => decide (ct j < 12))) = 1 from kR_1 (by rw [ix_nI (by omega), if_neg (by omega)])]; rfl
            subst hr9
            have hP : va_P D vwCl ((g 0, zInts cA 4 cf) :: (g 1, zInts cA 24 tf) :: (g 2, zInts cA 24 ff) :: (g 3, zInts cA 10 vf) :: (g 4, zInts cA 40 jj) :: (g 5, zInts cA 20 lt) :: (g 6, zInts cA 20 dd) :: cw) H := hP
            have hD : va_D A ((g 0, zInts cA 4 cf) :: (g 1, zInts cA 24 tf) :: (g 2, zInts cA 24 ff) :: (g 3, zInts cA 10 vf) :: (g 4, zInts cA 40 jj) :: (g 5, zInts cA 20 lt) :: (g 6, zInts cA 20 dd) :: cw) := hD
            refine lv_iload hx hb dL_works_446 (lv_at hl 0 rfl) ?_
            refine lv_icmp_ne (tgt := 455) hx hb dL_works_448 (by decide) (fun c_55 => absurd rfl c_55) (fun c_55 => ?_)
            refine lv_iconst (v := bI (true)) hx hb dL_works_451 (by decide) ?_
            refine lv_goto (tgt := 456) hx hb dL_works_452 (by decide) ?_
            exact W.widen (k := 12) (n := 128) (by omega) (by omega) (zr_qz (S := va_W) (post := (fun (r : Int32) (u : va_W) => r = bI true ∧ LV cA ad g u)) (w1 := fun u => u) ((g 0, zInts cA 4 cf) :: (g 1, zInts cA 24 tf) :: (g 2, zInts cA 24 ff) :: (g 3, zInts cA 10 vf) :: (g 4, zInts cA 40 jj) :: (g 5, zInts cA 20 lt) :: (g 6, zInts cA 20 dd) :: cw) hx hb hr hlocks ⟨rfl, ⟨_, _, _, _, _, _, _, _, _, _, _, _, _, _, _, _, _, _, _, _, _, _, _, _, _, _, _, _, _, _, _, _, _, _, _, _, _, _, _, _, cw, rfl, hL, hI, hp⟩⟩ hP hD hS rfl dL_works_456)
        · skip
          refine zf_ne (tgt := 346) hx hb (by omega) dL_works_339 (by decide) (fun c_56 => ?_) (fun c_56 => ?_)
          · refine lv_iconst (v := nI (0)) hx hb dL_works_346 (by decide) ?_
            exact J347 (0) ls ⟨lv_sub hl [3, 4, 5, 6, 7, 8, 9, 10, 11, 12, 13, 2, 1, 0] rfl, by omega⟩
          · refine lv_iconst (v := nI (1)) hx hb dL_works_342 (by decide) ?_
            refine lv_goto (tgt := 347) hx hb dL_works_343 (by decide) ?_
            exact J347 (1) ls ⟨lv_sub hl [3, 4, 5, 6, 7, 8, 9, 10, 11, 12, 13, 2, 1, 0] rfl, by omega⟩
    · skip
      refine lv_iload hx hb dL_works_35 (lv_at hl 0 rfl) ?_
      refine lv_aload_n hx hb dL_works_37 rfl (lv_at hl 4 rfl) ?_
      refine lv_iconst (v := nI (1)) hx hb dL_works_38 (by decide) ?_
      refine va_iald hx hb hZ.1 hP 0 0 rfl rfl (vp_in_nI (show 1 < 4 by omega) (by omega)) dL_works_39 ?_
      rw [nI_clamp (show 1 < 2 ^ 31 by omega)]
      refine zx_val (y := nI (nd)) (c1) ?_
      refine zc_ge (tgt := 47) hx hb (by omega) (by omega) dL_works_40 (by decide) (fun c_57 => ?_) (fun c_57 => ?_)
      · refine lv_iconst (v := bI (false)) hx hb dL_works_47 (by decide) ?_
        exact J48 (false) ls ⟨lv_sub hl [1, 2, 3, 4, 5, 6, 7, 8, 9, 10, 0] rfl, (decide_eq_false (by omega)).symm⟩
      · refine lv_iconst (v := bI (true)) hx hb dL_works_43 (by decide) ?_
        refine lv_goto (tgt := 48) hx hb dL_works_44 (by decide) ?_
        exact J48 (true) ls ⟨lv_sub hl [1, 2, 3, 4, 5, 6, 7, 8, 9, 10, 0] rfl, (decide_eq_true (by omega)).symm⟩
  · skip
    refine zf_eq (tgt := 24) hx hb (by omega) dL_works_15 (by decide) (fun c_58 => ?_) (fun c_58 => ?_)
    · refine lv_iconst (v := nI (1)) hx hb dL_works_24 (by decide) ?_
      refine lv_goto (tgt := 29) hx hb dL_works_25 (by decide) ?_
      exact J29 (1) ls ⟨lv_sub hl [0, 1, 2, 3, 4, 5, 6, 7, 8, 9] rfl, by omega⟩
    · refine lv_aload_n hx hb dL_works_18 rfl (lv_at hl 3 rfl) ?_
      refine lv_iconst (v := nI (1)) hx hb dL_works_19 (by decide) ?_
      refine va_iald hx hb hZ.1 hP 0 0 rfl rfl (vp_in_nI (show 1 < 4 by omega) (by omega)) dL_works_20 ?_
      rw [nI_clamp (show 1 < 2 ^ 31 by omega)]
      refine zx_val (y := nI (nd)) (c1) ?_
      refine zf_ne (tgt := 28) hx hb (by omega) dL_works_21 (by decide) (fun c_59 => ?_) (fun c_59 => ?_)
      · refine lv_iconst (v := nI (0)) hx hb dL_works_28 (by decide) ?_
        exact J29 (0) ls ⟨lv_sub hl [0, 1, 2, 3, 4, 5, 6, 7, 8, 9] rfl, by omega⟩
      · refine lv_iconst (v := nI (1)) hx hb dL_works_24 (by decide) ?_
        refine lv_goto (tgt := 29) hx hb dL_works_25 (by decide) ?_
        exact J29 (1) ls ⟨lv_sub hl [0, 1, 2, 3, 4, 5, 6, 7, 8, 9] rfl, by omega⟩
