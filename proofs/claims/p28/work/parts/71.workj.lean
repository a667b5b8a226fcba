set_option maxHeartbeats 4000000 in
set_option maxRecDepth 100000 in
theorem c_L_works_j (l : Launch) (hlt : l.stackTraces = false) (D : va_G) (cA : Nat → ClassId) (sz : Nat) (ad : Nat → Nat) (T : Nat → Nat) (Bd : Nat → Nat) (E : Nat → Nat) (PT : Nat → Nat) (PB : Nat → Nat) (PE : Nat → Nat) (n : Nat) (tr : Nat → Nat) (le : Nat → Nat) (sl : Nat → Nat) (mo : Nat → Option Nat) (la : Nat → Bool) (fc : Nat → Nat) (bo : Nat → Nat → Nat) (nd : Nat) (mk : Nat → Nat) (ck : Nat → Int32) (ct : Nat → Nat) (hd : Nat → Option Nat) (pq : Nat → Int32) (nj : Nat) (fw : Nat → Int32) (jf : Nat → Nat) (dl : Nat → Nat) (dn : Nat) (oc : Nat) (s8 : Nat → Int32) (s9 : Nat → Int32) (s10 : Nat → Int32) (s11 : Nat → Int32) (s12 : Nat → Int32) (cf : Nat → Int32) (tf : Nat → Int32) (ff : Nat → Int32) (vf : Nat → Int32) (jj : Nat → Int32) (lt : Nat → Int32) (dd : Nat → Int32) (jt : Nat → Nat) (fin : Nat → Bool) (g : Nat → Nat) (cw : va_W) (hL : zL cA cw ad T Bd E PT PB PE n tr le sl mo la fc bo nd mk ck ct hd pq nj fw jf dl dn oc s8 s9 s10 s11 s12) (hI : zI n tr le sl mo fc bo nd mk ct hd pq nj fw jf dl) (hp : pL n tr le sl mo la fc bo nd mk ck ct hd pq nj fw jf dl dn cf tf ff vf jj lt dd jt fin) (y : Int32) (kd : Nat) (hkd : 4 ≤ kd ∧ kd < 7) : Met l yL_works wsL_works ({ frames := 10, cells := 12, slots := 128, locals := 194 }) (va_Pc [.ref (ad 0), .int (nI (kd)), .int (y), .ref (g 0), .ref (g 1), .ref (g 2), .ref (g 3), .ref (g 4), .ref (g 5), .ref (g 6)] (zMW D cA ((g 0, zInts cA 4 cf) :: (g 1, zInts cA 24 tf) :: (g 2, zInts cA 24 ff) :: (g 3, zInts cA 10 vf) :: (g 4, zInts cA 40 jj) :: (g 5, zInts cA 20 lt) :: (g 6, zInts cA 20 dd) :: cw) sz)) (va_Qi (fun (r : Int32) (u : va_W) => r = bI true ∧ LV cA ad g u) (fun u => zB D (va_A ((g 0, zInts cA 4 cf) :: (g 1, zInts cA 24 tf) :: (g 2, zInts cA 24 ff) :: (g 3, zInts cA 10 vf) :: (g 4, zInts cA 40 jj) :: (g 5, zInts cA 20 lt) :: (g 6, zInts cA 20 dd) :: cw) sz) u) (va_A ((g 0, zInts cA 4 cf) :: (g 1, zInts cA 24 tf) :: (g 2, zInts cA 24 ff) :: (g 3, zInts cA 10 vf) :: (g 4, zInts cA 40 jj) :: (g 5, zInts cA 20 lt) :: (g 6, zInts cA 20 dd) :: cw) sz)) 12 128 (va_A ((g 0, zInts cA 4 cf) :: (g 1, zInts cA 24 tf) :: (g 2, zInts cA 24 ff) :: (g 3, zInts cA 10 vf) :: (g 4, zInts cA 40 jj) :: (g 5, zInts cA 20 lt) :: (g 6, zInts cA 20 dd) :: cw) sz) := by
  refine zOpen (cc := cL_works) (maxL := 21) (ret := (some .boolean)) (own := RL) (by decide) rfl rfl (Nat.le_of_ble_eq_true rfl) ?_
  intro p e s m below meth c ls hx hb hr hml hts hown hlocks hnm ⟨⟨⟨hZ, hP, hD0, hsz⟩, hX⟩, hN⟩ hl
  subst hsz
  have hD := hD0.self (sz := s.heap.size)
  generalize hAe : va_A ((g 0, zInts cA 4 cf) :: (g 1, zInts cA 24 tf) :: (g 2, zInts cA 24 ff) :: (g 3, zInts cA 10 vf) :: (g 4, zInts cA 40 jj) :: (g 5, zInts cA 20 lt) :: (g 6, zInts cA 20 dd) :: cw) s.heap.size = A at hD hX ⊢
  have hA : ∀ q : Nat, s.heap.size ≤ q → A q := fun q h => by rw [← hAe]; exact Or.inr h
  have hS : va_S A s.heap s.heap [] := va_S.rf
  have hl : lv_has ls 21 [(0, .ref (ad 0)), (1, .int (nI (kd))), (2, .int (y)), (3, .ref (g 0)), (4, .ref (g 1)), (5, .ref (g 2)), (6, .ref (g 3)), (7, .ref (g 4)), (8, .ref (g 5)), (9, .ref (g 6))] := hl
  have hL0 := hL
  have l0 := hL.1.1
  obtain ⟨hn8, hd3, hj60, hIT, hID, hIJ, hIdl, hIw⟩ := id hI
  obtain ⟨⟨hn4, hd2, hj20⟩, ⟨c0, c1, c2, c3⟩, qT, qT0, qF, qV, qV0, qJ, qJ0, qW⟩ := id hp
  refine lv_iload_n hx hb dL_works_0 rfl (lv_at hl 2 rfl) ?_
  refine lv_iconst (v := nI (3)) hx hb dL_works_1 (by decide) ?_
  refine lv_ishr hx hb dL_works_2 ?_
  refine lv_aload_n hx hb dL_works_3 rfl (lv_at hl 3 rfl) ?_
  refine lv_iconst (v := nI (1)) hx hb dL_works_4 (by decide) ?_
  refine va_iald hx hb hZ.1 hP 0 0 rfl rfl (vp_in_nI (show 1 < 4 by omega) (by omega)) dL_works_5 ?_
  rw [nI_clamp (show 1 < 2 ^ 31 by omega)]
  refine zx_val (y := nI (nd)) (c1) ?_
  refine lv_iload_n hx hb dL_works_6 rfl (lv_at hl 2 rfl) ?_
  refine lv_bipush (v := nI (7)) hx hb dL_works_7 (by decide) ?_
  refine lv_ishr hx hb dL_works_9 ?_
  refine lv_bipush (v := nI (9)) hx hb dL_works_10 (by decide) ?_
  refine zk_S_i (n := 2) (As := [.int ((y) >>> ((nI (7)) &&& 31)), .int (nI (9))]) (rest := [.int (nI (nd)), .int ((y) >>> ((nI (3)) &&& 31))]) hx hb hml hts hown hZ hP (c_L_some l D cA _ ((y) >>> ((nI (7)) &&& 31)) 9 (by omega) (by omega)) gL_works_L_some rfl ⟨rfl, rfl⟩ ⟨by decide +kernel, (Nat.le_of_ble_eq_true rfl), (Nat.le_of_ble_eq_true rfl)⟩ hl.1 rfl (Nat.le_of_ble_eq_true rfl) ⟨(Nat.le_of_ble_eq_true rfl), (Nat.le_of_ble_eq_true rfl)⟩ rfl dL_works_12 (fun r1 hr1 => ?_)
  obtain ⟨q1, hq1, hb1⟩ : ∃ z, r1 = nI z ∧ z < 9 := ⟨_, hr1, sm_lt (by omega)⟩
  subst hq1
  refine z_join (α := Nat) (pc' := 29) (fun v ls => lv_has ls 21 [(0, .ref (ad 0)), (1, .int (nI (kd))), (2, .int (y)), (3, .ref (g 0)), (4, .ref (g 1)), (5, .ref (g 2)), (6, .ref (g 3)), (7, .ref (g 4)), (8, .ref (g 5)), (9, .ref (g 6))] ∧ v ≤ 1 ∧ (nd = 0 → v = 1)) (fun v => [.int (nI (v)), .int (nI (nd)), .int ((y) >>> ((nI (3)) &&& 31))]) ?_ (fun J29 => ?_)
  · intro x2 ls hv
    obtain ⟨hl, hI29⟩ := hv
    have hl : lv_has ls 21 [(0, .ref (ad 0)), (1, .int (nI (kd))), (2, .int (y)), (3, .ref (g 0)), (4, .ref (g 1)), (5, .ref (g 2)), (6, .ref (g 3)), (7, .ref (g 4)), (8, .ref (g 5)), (9, .ref (g 6))] := hl
    have hI29 : x2 ≤ 1 ∧ (nd = 0 → x2 = 1) := hI29
    refine zo_add hx hb dL_works_29 ?_
    obtain ⟨hx2, hx20⟩ := hI29
    refine zk_S_i (n := 2) (As := [.int ((y) >>> ((nI (3)) &&& 31)), .int (nI (nd + x2))]) (rest := []) hx hb hml hts hown hZ hP (c_L_some l D cA _ ((y) >>> ((nI (3)) &&& 31)) (nd + x2) (by omega) (by omega)) gL_works_L_some rfl ⟨rfl, rfl⟩ ⟨by decide +kernel, (Nat.le_of_ble_eq_true rfl), (Nat.le_of_ble_eq_true rfl)⟩ hl.1 rfl (Nat.le_of_ble_eq_true rfl) ⟨(Nat.le_of_ble_eq_true rfl), (Nat.le_of_ble_eq_true rfl)⟩ rfl dL_works_30 (fun r2 hr2 => ?_)
    obtain ⟨q2, hq2, hb2⟩ : ∃ z, r2 = nI z ∧ z < (nd + x2) := ⟨_, hr2, sm_lt (by omega)⟩
    subst hq2
    refine lv_istore (lv' := [(10, .int (nI (q2))), (0, .ref (ad 0)), (1, .int (nI (kd))), (2, .int (y)), (3, .ref (g 0)), (4, .ref (g 1)), (5, .ref (g 2)), (6, .ref (g 3)), (7, .ref (g 4)), (8, .ref (g 5)), (9, .ref (g 6))]) hx hb dL_works_33 hl (by decide) rfl (fun ls hl => ?_)
    refine z_join (α := Bool) (pc' := 48) (fun v ls => lv_has ls 21 [(0, .ref (ad 0)), (1, .int (nI (kd))), (2, .int (y)), (3, .ref (g 0)), (4, .ref (g 1)), (5, .ref (g 2)), (6, .ref (g 3)), (7, .ref (g 4)), (8, .ref (g 5)), (9, .ref (g 6)), (10, .int (nI (q2)))] ∧ v = decide (q2 < nd)) (fun v => [.int (bI (v))]) ?_ (fun J48 => ?_)
    · intro bD ls hv
      obtain ⟨hl, hI48⟩ := hv
      have hl : lv_has ls 21 [(0, .ref (ad 0)), (1, .int (nI (kd))), (2, .int (y)), (3, .ref (g 0)), (4, .ref (g 1)), (5, .ref (g 2)), (6, .ref (g 3)), (7, .ref (g 4)), (8, .ref (g 5)), (9, .ref (g 6)), (10, .int (nI (q2)))] := hl
      have hI48 : bD = decide (q2 < nd) := hI48
      have hDd : q2 ≤ nd := by omega
      refine lv_istore (lv' := [(11, .int (bI (bD))), (0, .ref (ad 0)), (1, .int (nI (kd))), (2, .int (y)), (3, .ref (g 0)), (4, .ref (g 1)), (5, .ref (g 2)), (6, .ref (g 3)), (7, .ref (g 4)), (8, .ref (g 5)), (9, .ref (g 6)), (10, .int (nI (q2)))]) hx hb dL_works_48 hl (by decide) rfl (fun ls hl => ?_)
      refine z_join (α := Unit) (pc' := 92) (fun _ ls => lv_has ls 21 [(0, .ref (ad 0)), (1, .int (nI (kd))), (2, .int (y)), (3, .ref (g 0)), (4, .ref (g 1)), (5, .ref (g 2)), (6, .ref (g 3)), (7, .ref (g 4)), (8, .ref (g 5)), (9, .ref (g 6))]) (fun _ => []) ?_ (fun J92 => ?_)
      · intro _ ls hl
        have hl : lv_has ls 21 [(0, .ref (ad 0)), (1, .int (nI (kd))), (2, .int (y)), (3, .ref (g 0)), (4, .ref (g 1)), (5, .ref (g 2)), (6, .ref (g 3)), (7, .ref (g 4)), (8, .ref (g 5)), (9, .ref (g 6))] := hl
        refine lv_iload_n hx hb dL_works_92 rfl (lv_at hl 1 rfl) ?_
        refine lv_iconst (v := nI (3)) hx hb dL_works_93 (by decide) ?_
        refine zc_ge (tgt := 317) hx hb (by omega) (by omega) dL_works_94 (by decide) (fun c_1 => ?_) (fun c_1 => False.elim (by omega))
        refine lv_iload_n hx hb dL_works_317 rfl (lv_at hl 1 rfl) ?_
        refine lv_iconst (v := nI (3)) hx hb dL_works_318 (by decide) ?_
        refine zc_ne (tgt := 457) hx hb (by omega) (by omega) dL_works_319 (by decide) (fun c_2 => ?_) (fun c_2 => False.elim (by omega))
        refine lv_iload_n hx hb dL_works_457 rfl (lv_at hl 1 rfl) ?_
        refine lv_bipush (v := nI (7)) hx hb dL_works_458 (by decide) ?_
        refine zc_ge (tgt := 723) hx hb (by omega) (by omega) dL_works_460 (by decide) (fun c_3 => False.elim (by omega)) (fun c_3 => ?_)
        refine lv_iload_n hx hb dL_works_463 rfl (lv_at hl 2 rfl) ?_
        refine lv_aload_n hx hb dL_works_464 rfl (lv_at hl 3 rfl) ?_
        refine lv_iconst (v := nI (0)) hx hb dL_works_465 (by decide) ?_
        refine va_iald hx hb hZ.1 hP 0 0 rfl rfl (vp_in_nI (show 0 < 4 by omega) (by omega)) dL_works_466 ?_
        rw [nI_clamp (show 0 < 2 ^ 31 by omega)]
        refine zx_val (y := nI (n)) (c0) ?_
        refine lv_iconst (v := nI (1)) hx hb dL_works_467 (by decide) ?_
        refine zo_add hx hb dL_works_468 ?_
        refine zk_S_i (n := 2) (As := [.int (y), .int (nI (n + 1))]) (rest := []) hx hb hml hts hown hZ hP (c_L_some l D cA _ y (n + 1) (by omega) (by omega)) gL_works_L_some rfl ⟨rfl, rfl⟩ ⟨by decide +kernel, (Nat.le_of_ble_eq_true rfl), (Nat.le_of_ble_eq_true rfl)⟩ hl.1 rfl (Nat.le_of_ble_eq_true rfl) ⟨(Nat.le_of_ble_eq_true rfl), (Nat.le_of_ble_eq_true rfl)⟩ rfl dL_works_469 (fun ra hra => ?_)
        obtain ⟨qa, hqa, hba⟩ : ∃ z, ra = nI z ∧ z < (n + 1) := ⟨_, hra, sm_lt (by omega)⟩
        subst hqa
        refine lv_istore (lv' := [(14, .int (nI (qa))), (0, .ref (ad 0)), (1, .int (nI (kd))), (2, .int (y)), (3, .ref (g 0)), (4, .ref (g 1)), (5, .ref (g 2)), (6, .ref (g 3)), (7, .ref (g 4)), (8, .ref (g 5)), (9, .ref (g 6))]) hx hb dL_works_472 hl (by decide) rfl (fun ls hl => ?_)
        refine z_join (α := Nat) (pc' := 523) (fun v ls => lv_has ls 21 [(0, .ref (ad 0)), (1, .int (nI (kd))), (2, .int (y)), (3, .ref (g 0)), (4, .ref (g 1)), (5, .ref (g 2)), (6, .ref (g 3)), (7, .ref (g 4)), (8, .ref (g 5)), (9, .ref (g 6)), (14, .int (nI (qa)))] ∧ v ≤ 6) (fun v => [.int (nI (v))]) ?_ (fun J523 => ?_)
        · intro fl ls hv
          obtain ⟨hl, hI523⟩ := hv
          have hl : lv_has ls 21 [(0, .ref (ad 0)), (1, .int (nI (kd))), (2, .int (y)), (3, .ref (g 0)), (4, .ref (g 1)), (5, .ref (g 2)), (6, .ref (g 3)), (7, .ref (g 4)), (8, .ref (g 5)), (9, .ref (g 6)), (14, .int (nI (qa)))] := hl
          have hI523 : fl ≤ 6 := hI523
          refine lv_istore (lv' := [(15, .int (nI (fl))), (0, .ref (ad 0)), (1, .int (nI (kd))), (2, .int (y)), (3, .ref (g 0)), (4, .ref (g 1)), (5, .ref (g 2)), (6, .ref (g 3)), (7, .ref (g 4)), (8, .ref (g 5)), (9, .ref (g 6)), (14, .int (nI (qa)))]) hx hb dL_works_523 hl (by decide) rfl (fun ls hl => ?_)
          refine lv_iload_n hx hb dL_works_525 rfl (lv_at hl 3 rfl) ?_
          refine lv_bipush (v := nI (6)) hx hb dL_works_526 (by decide) ?_
          refine lv_ishr hx hb dL_works_528 ?_
          refine lv_bipush (v := nI (40)) hx hb dL_works_529 (by decide) ?_
          refine zk_S_i (n := 2) (As := [.int ((y) >>> ((nI (6)) &&& 31)), .int (nI (40))]) (rest := []) hx hb hml hts hown hZ hP (c_L_some l D cA _ ((y) >>> ((nI (6)) &&& 31)) 40 (by omega) (by omega)) gL_works_L_some rfl ⟨rfl, rfl⟩ ⟨by decide +kernel, (Nat.le_of_ble_eq_true rfl), (Nat.le_of_ble_eq_true rfl)⟩ hl.1 rfl (Nat.le_of_ble_eq_true rfl) ⟨(Nat.le_of_ble_eq_true rfl), (Nat.le_of_ble_eq_true rfl)⟩ rfl dL_works_531 (fun r3 hr3 => ?_)
          obtain ⟨q3, hq3, hb3⟩ : ∃ z, r3 = nI z ∧ z < 40 := ⟨_, hr3, sm_lt (by omega)⟩
          subst hq3
          refine z_join (α := Nat) (pc' := 552) (fun v ls => lv_has ls 21 [(0, .ref (ad 0)), (1, .int (nI (kd))), (2, .int (y)), (3, .ref (g 0)), (4, .ref (g 1)), (5, .ref (g 2)), (6, .ref (g 3)), (7, .ref (g 4)), (8, .ref (g 5)), (9, .ref (g 6)), (14, .int (nI (qa))), (15, .int (nI (fl)))] ∧ v ≤ 100000) (fun v => [.int (nI (v))]) ?_ (fun J552 => ?_)
          · intro dv ls hv
            obtain ⟨hl, hI552⟩ := hv
            have hl : lv_has ls 21 [(0, .ref (ad 0)), (1, .int (nI (kd))), (2, .int (y)), (3, .ref (g 0)), (4, .ref (g 1)), (5, .ref (g 2)), (6, .ref (g 3)), (7, .ref (g 4)), (8, .ref (g 5)), (9, .ref (g 6)), (14, .int (nI (qa))), (15, .int (nI (fl)))] := hl
            have hI552 : dv ≤ 100000 := hI552
            refine lv_istore (lv' := [(16, .int (nI (dv))), (0, .ref (ad 0)), (1, .int (nI (kd))), (2, .int (y)), (3, .ref (g 0)), (4, .ref (g 1)), (5, .ref (g 2)), (6, .ref (g 3)), (7, .ref (g 4)), (8, .ref (g 5)), (9, .ref (g 6)), (14, .int (nI (qa))), (15, .int (nI (fl)))]) hx hb dL_works_552 hl (by decide) rfl (fun ls hl => ?_)
            refine lv_bipush (v := nI (20)) hx hb dL_works_554 (by decide) ?_
            refine z_newF hx hb (hts (.arrayClass .int) (by decide +kernel)) hZ hP hD hS hA 20 (by decide) (Nat.le_of_ble_eq_true rfl) (Nat.le_of_ble_eq_true rfl) dL_works_556 (fun lz H hP hD hS => ?_)
            have hP : va_P D vwCl ((lz, zInts cA 20 (fun _ => nI 0)) :: (g 0, zInts cA 4 cf) :: (g 1, zInts cA 24 tf) :: (g 2, zInts cA 24 ff) :: (g 3, zInts cA 10 vf) :: (g 4, zInts cA 40 jj) :: (g 5, zInts cA 20 lt) :: (g 6, zInts cA 20 dd) :: cw) H := hP
            have hD : va_D A ((lz, zInts cA 20 (fun _ => nI 0)) :: (g 0, zInts cA 4 cf) :: (g 1, zInts cA 24 tf) :: (g 2, zInts cA 24 ff) :: (g 3, zInts cA 10 vf) :: (g 4, zInts cA 40 jj) :: (g 5, zInts cA 20 lt) :: (g 6, zInts cA 20 dd) :: cw) := hD
            refine lv_astore (lv' := [(17, .ref lz), (16, .int (nI (dv))), (0, .ref (ad 0)), (1, .int (nI (kd))), (2, .int (y)), (3, .ref (g 0)), (4, .ref (g 1)), (5, .ref (g 2)), (6, .ref (g 3)), (7, .ref (g 4)), (8, .ref (g 5)), (9, .ref (g 6)), (14, .int (nI (qa))), (15, .int (nI (fl)))]) hx hb dL_works_558 hl (by decide) rfl (fun ls hl => ?_)
            rcases Nat.lt_or_ge qa n with hqa | hqa
            · obtain ⟨qa1, qa2, qa3, qa4, qa5, qa6, qa7⟩ := qT qa (by omega)
              have hw5 := qW qa hqa
              rcases Nat.lt_or_ge fl (fc qa) with hfl9 | hfl9
              · rcases (by omega : dv = 100000 ∨ (dv < 100000 ∧ (wl fw (nI qa) nj).length = 5) ∨ (dv < 100000 ∧ (wl fw (nI qa) nj).length < 5 ∧ nj = 20) ∨ (dv < 100000 ∧ (wl fw (nI qa) nj).length < 5 ∧ nj < 20)) with hk1 | ⟨hk1, hk2⟩ | ⟨hk1, hk2, hk3⟩ | ⟨hk1, hk2, hk3⟩
                · refine lv_iload hx hb dL_works_560 (lv_at hl 12 rfl) ?_
                  refine lv_aload_n hx hb dL_works_562 rfl (lv_at hl 5 rfl) ?_
                  refine lv_iconst (v := nI (0)) hx hb dL_works_563 (by decide) ?_
                  refine va_iald hx hb hZ.1 hP 1 0 rfl rfl (vp_in_nI (show 0 < 4 by omega) (by omega)) dL_works_564 ?_
                  rw [nI_clamp (show 0 < 2 ^ 31 by omega)]
                  refine zx_val (y := nI (n)) (c0) ?_
                  refine zc_ge (tgt := 585) hx hb (by omega) (by omega) dL_works_565 (by decide) (fun c_4 => False.elim (by omega)) (fun c_4 => ?_)
                  refine lv_iload hx hb dL_works_568 (lv_at hl 13 rfl) ?_
                  refine lv_aload hx hb dL_works_570 (lv_at hl 6 rfl) ?_
                  refine lv_bipush (v := nI (20)) hx hb dL_works_572 (by decide) ?_
                  refine lv_iload hx hb dL_works_574 (lv_at hl 12 rfl) ?_
                  refine zo_add hx hb dL_works_576 ?_
                  refine va_iald hx hb hZ.1 hP 2 0 rfl rfl (vp_in_nI (show 20 + qa < 24 by omega) (by omega)) dL_works_577 ?_
                  rw [nI_clamp (show 20 + qa < 2 ^ 31 by omega)]
                  refine zx_val (y := nI (fc qa)) (qa6) ?_
                  refine zc_ge (tgt := 585) hx hb (by omega) (by omega) dL_works_578 (by decide) (fun c_5 => False.elim (by omega)) (fun c_5 => ?_)
                  refine lv_iconst (v := bI (true)) hx hb dL_works_581 (by decide) ?_
                  refine lv_goto (tgt := 586) hx hb dL_works_582 (by decide) ?_
                  refine lv_istore (lv' := [(18, .int (bI (true))), (17, .ref lz), (16, .int (nI (dv))), (0, .ref (ad 0)), (1, .int (nI (kd))), (2, .int (y)), (3, .ref (g 0)), (4, .ref (g 1)), (5, .ref (g 2)), (6, .ref (g 3)), (7, .ref (g 4)), (8, .ref (g 5)), (9, .ref (g 6)), (14, .int (nI (qa))), (15, .int (nI (fl)))]) hx hb dL_works_586 hl (by decide) rfl (fun ls hl => ?_)
                  refine lv_iload hx hb dL_works_588 (lv_at hl 0 rfl) ?_
                  refine zb_eq (tgt := 608) hx hb dL_works_590 (by decide) (fun c_6 => Bool.noConfusion c_6) (fun c_6 => ?_)
                  refine lv_aload_n hx hb dL_works_593 rfl (lv_at hl 6 rfl) ?_
                  refine lv_aload hx hb dL_works_594 (lv_at hl 10 rfl) ?_
                  refine lv_aload hx hb dL_works_596 (lv_at hl 12 rfl) ?_
                  refine lv_iload hx hb dL_works_598 (lv_at hl 13 rfl) ?_
                  refine lv_aload hx hb dL_works_600 (lv_at hl 1 rfl) ?_
                  refine zw_S_i (n := 5) (mc := 0) (ms := 0) (w1 := fun u : Unit => (lz, zInts cA 20 (colF (fun _ => nI 0) (wl fw (nI qa) nj))) :: (g 0, zInts cA 4 cf) :: (g 1, zInts cA 24 tf) :: (g 2, zInts cA 24 ff) :: (g 3, zInts cA 10 vf) :: (g 4, zInts cA 40 jj) :: (g 5, zInts cA 20 lt) :: (g 6, zInts cA 20 dd) :: cw) (As := [.ref (g 0), .ref (g 4), .ref (g 6), .int (nI (qa)), .ref lz]) (rest := []) hx hb hml hts hown hZ hP hD hS hA (c_L_listed l D cA _ ((lz, zInts cA 20 (fun _ => nI 0)) :: (g 0, zInts cA 4 cf) :: (g 1, zInts cA 24 tf) :: (g 2, zInts cA 24 ff) :: (g 3, zInts cA 10 vf) :: (g 4, zInts cA 40 jj) :: (g 5, zInts cA 20 lt) :: (g 6, zInts cA 20 dd) :: cw) 1 (g 0) cf rfl 5 (g 4) jj rfl 7 (g 6) dd rfl nj qa jt fin fw c2 hj20 (by omega) (hjob_of hp) 0 lz 20 (fun _ => nI 0) rfl (by have := qW qa (by omega); omega) (by decide) (by decide) (by decide) (by decide)) gL_works_L_listed rfl ⟨rfl, rfl⟩ ⟨by decide +kernel, (Nat.le_of_ble_eq_true rfl), (Nat.le_of_ble_eq_true rfl)⟩ hl.1 rfl (Nat.le_of_ble_eq_true rfl) ⟨(Nat.le_of_ble_eq_true rfl), (Nat.le_of_ble_eq_true rfl)⟩ rfl dL_works_602 (fun r9 u9 H locs hp9 hP hD hS hz => ?_)
                  obtain rfl := show r9 = nI ((wl fw (nI qa) nj).length) from hp9
                  have hP : va_P D vwCl ((lz, zInts cA 20 (colF (fun _ => nI 0) (wl fw (nI qa) nj))) :: (g 0, zInts cA 4 cf) :: (g 1, zInts cA 24 tf) :: (g 2, zInts cA 24 ff) :: (g 3, zInts cA 10 vf) :: (g 4, zInts cA 40 jj) :: (g 5, zInts cA 20 lt) :: (g 6, zInts cA 20 dd) :: cw) H := hP
                  have hD : va_D A ((lz, zInts cA 20 (colF (fun _ => nI 0) (wl fw (nI qa) nj))) :: (g 0, zInts cA 4 cf) :: (g 1, zInts cA 24 tf) :: (g 2, zInts cA 24 ff) :: (g 3, zInts cA 10 vf) :: (g 4, zInts cA 40 jj) :: (g 5, zInts cA 20 lt) :: (g 6, zInts cA 20 dd) :: cw) := hD
                  refine lv_goto (tgt := 609) hx hb dL_works_605 (by decide) ?_
                  refine lv_istore (lv' := [(19, .int (nI ((wl fw (nI qa) nj).length))), (18, .int (bI (true))), (17, .ref lz), (16, .int (nI (dv))), (0, .ref (ad 0)), (1, .int (nI (kd))), (2, .int (y)), (3, .ref (g 0)), (4, .ref (g 1)), (5, .ref (g 2)), (6, .ref (g 3)), (7, .ref (g 4)), (8, .ref (g 5)), (9, .ref (g 6)), (14, .int (nI (qa))), (15, .int (nI (fl)))]) hx hb dL_works_609 hl (by decide) rfl (fun ls hl => ?_)
                  refine lv_iload hx hb dL_works_611 (lv_at hl 1 rfl) ?_
                  refine zb_eq (tgt := 639) hx hb dL_works_613 (by decide) (fun c_7 => Bool.noConfusion c_7) (fun c_7 => ?_)
                  refine lv_iload hx hb dL_works_616 (lv_at hl 3 rfl) ?_
                  refine lv_ldc (v := nI 100000) hx hb hown (hts (.constant RL 146 100000) (by decide +kernel)) dL_works_618 ?_
                  refine zc_ge (tgt := 639) hx hb (by omega) (by omega) dL_works_620 (by decide) (fun c_8 => ?_) (fun c_8 => False.elim (by omega))
                  refine lv_iload hx hb dL_works_639 (lv_at hl 1 rfl) ?_
                  refine zb_ne (tgt := 649) hx hb dL_works_641 (by decide) (fun c_9 => ?_) (fun c_9 => Bool.noConfusion c_9)
                  refine lv_iload hx hb dL_works_649 (lv_at hl 3 rfl) ?_
                  refine lv_ldc (v := nI 99999) hx hb hown (hts (.constant RL 147 99999) (by decide +kernel)) dL_works_651 ?_
                  refine zc_le (tgt := 661) hx hb (by omega) (by omega) dL_works_653 (by decide) (fun c_10 => False.elim (by omega)) (fun c_10 => ?_)
                  refine lv_bipush (v := (-102)) hx hb dL_works_656 (by decide) ?_
                  refine lv_goto (tgt := 664) hx hb dL_works_658 (by decide) ?_
                  refine lv_istore (lv' := [(20, .int ((-102))), (19, .int (nI ((wl fw (nI qa) nj).length))), (18, .int (bI (true))), (17, .ref lz), (16, .int (nI (dv))), (0, .ref (ad 0)), (1, .int (nI (kd))), (2, .int (y)), (3, .ref (g 0)), (4, .ref (g 1)), (5, .ref (g 2)), (6, .ref (g 3)), (7, .ref (g 4)), (8, .ref (g 5)), (9, .ref (g 6)), (14, .int (nI (qa))), (15, .int (nI (fl)))]) hx hb dL_works_664 hl (by decide) rfl (fun ls hl => ?_)
                  refine lv_iload hx hb dL_works_666 (lv_at hl 0 rfl) ?_
                  refine lv_if_lt (tgt := 702) hx hb dL_works_668 (by decide) (fun c_11 => ?_) (fun c_11 => absurd (by decide) c_11)
                  refine lv_aload_n hx hb dL_works_702 rfl (lv_at hl 5 rfl) ?_
                  refine lv_iload hx hb dL_works_703 (lv_at hl 15 rfl) ?_
                  refine lv_iload hx hb dL_works_705 (lv_at hl 16 rfl) ?_
                  refine lv_iload hx hb dL_works_707 (lv_at hl 4 rfl) ?_
                  refine ze_H_i (n := 4) (mc := 3) (ms := 18) (ws := cw) (es := [(lz, zInts cA 20 (colF (fun _ => nI 0) (wl fw (nI qa) nj))), (g 0, zInts cA 4 cf), (g 1, zInts cA 24 tf), (g 2, zInts cA 24 ff), (g 3, zInts cA 10 vf), (g 4, zInts cA 40 jj), (g 5, zInts cA 20 lt), (g 6, zInts cA 20 dd)]) (As := [.ref (ad 0), .int (nI (qa)), .int (nI (fl)), .int (nI (dv))]) (rest := []) hx hb hml hts hown hZ hX hN [0, 1, 2, 3, 4, 5, 6, 7] rfl rfl hP hD hS hA (c_L_put l D cA _ cw (ad 0) _ l0 _ _ _ _ (kJ (ix (nI (qa)) n) (fun t => ix (nI (fl)) (fc t)) (ix (nI (dv)) 100000) (fun t => decide (nj < 60) && decide ((wl fw (nI t) nj).length < 7))) (nI (qa)) (nI (fl)) (nI (dv)) (fun sz9 => c_X4_job l hlt D cA sz9 cw ad T Bd E PT PB PE n tr le sl mo la fc bo nd mk ck ct hd pq nj fw jf dl dn oc s8 s9 s10 s11 s12 hL hI (nI (qa)) (nI (fl)) (nI (dv))) (fun _ _ h => h)) gL_works_L_put rfl ⟨rfl, rfl⟩ ⟨by decide +kernel, (Nat.le_of_ble_eq_true rfl), (Nat.le_of_ble_eq_true rfl)⟩ hl.1 rfl (Nat.le_of_ble_eq_true rfl) ⟨(Nat.le_of_ble_eq_true rfl), (Nat.le_of_ble_eq_true rfl)⟩ rfl dL_works_709 (fun r9 u9 H locs hp9 hP hD hS hz => ?_)
                  rcases u9 with ⟨t9, f9, dx9, w1⟩ | u9
                  · dsimp only [zwP] at hp9
                    obtain ⟨htn, hv0, hfn, hv1, hd9, hv2, hnj, hw7, hr9, hkp, hL1⟩ := hp9
                    have e7 := (nI_eq (by omega) (by omega)).mp hv2
                    omega
                  · dsimp only [zwP] at hp9
                    obtain ⟨hr9, hK9, E9, hE9⟩ := hp9
                    have hr9 : r9 = (-102) := by rw [hr9, show (kJ (ix (nI (qa)) n) (fun t => ix (nI (fl)) (fc t)) (ix (nI (dv)) 100000) (fun t => decide (nj < 60) && decide ((wl fw (nI t) nj).length < 7))) = 2 from kJ_3 (ix_in (by omega) hqa) (ix_in (by omega) hfl9) (by rw [ix_nI (by omega), if_neg (by omega)])]; rfl
                    subst hr9
                    have hP : va_P D vwCl ((lz, zInts cA 20 (colF (fun _ => nI 0) (wl fw (nI qa) nj))) :: (g 0, zInts cA 4 cf) :: (g 1, zInts cA 24 tf) :: (g 2, zInts cA 24 ff) :: (g 3, zInts cA 10 vf) :: (g 4, zInts cA 40 jj) :: (g 5, zInts cA 20 lt) :: (g 6, zInts cA 20 dd) :: cw) H := hP
                    have hD : va_D A ((lz, zInts cA 20 (colF (fun _ => nI 0) (wl fw (nI qa) nj))) :: (g 0, zInts cA 4 cf) :: (g 1, zInts cA 24 tf) :: (g 2, zInts cA 24 ff) :: (g 3, zInts cA 10 vf) :: (g 4, zInts cA 40 jj) :: (g 5, zInts cA 20 lt) :: (g 6, zInts cA 20 dd) :: cw) := hD
                    refine lv_iload hx hb dL_works_712 (lv_at hl 0 rfl) ?_
                    refine lv_icmp_ne (tgt := 721) hx hb dL_works_714 (by decide) (fun c_12 => absurd rfl c_12) (fun c_12 => ?_)
                    refine lv_iconst (v := bI (true)) hx hb dL_works_717 (by decide) ?_
                    refine lv_goto (tgt := 722) hx hb dL_works_718 (by decide) ?_
                    have hP := zd_P hP
                    have hD := zd_D hD
                    have hP : va_P D vwCl ((g 0, zInts cA 4 cf) :: (g 1, zInts cA 24 tf) :: (g 2, zInts cA 24 ff) :: (g 3, zInts cA 10 vf) :: (g 4, zInts cA 40 jj) :: (g 5, zInts cA 20 lt) :: (g 6, zInts cA 20 dd) :: cw) H := hP
                    have hD : va_D A ((g 0, zInts cA 4 cf) :: (g 1, zInts cA 24 tf) :: (g 2, zInts cA 24 ff) :: (g 3, zInts cA 10 vf) :: (g 4, zInts cA 40 jj) :: (g 5, zInts cA 20 lt) :: (g 6, zInts cA 20 dd) :: cw) := hD
                    exact W.widen (k := 12) (n := 128) (by omega) (by omega) (zr_qz (S := va_W) (post := (fun (r : Int32) (u : va_W) => r = bI true ∧ LV cA ad g u)) (w1 := fun u => u) ((g 0, zInts cA 4 cf) :: (g 1, zInts cA 24 tf) :: (g 2, zInts cA 24 ff) :: (g 3, zInts cA 10 vf) :: (g 4, zInts cA 40 jj) :: (g 5, zInts cA 20 lt) :: (g 6, zInts cA 20 dd) :: cw) hx hb hr hlocks ⟨rfl, ⟨_, _, _, _, _, _, _, _, _, _, _, _, _, _, _, _, _, _, _, _, _, _, _, _, _, _, _, _, _, _, _, _, _, _, _, _, _, _, _, _, cw, rfl, hL, hI, hp⟩⟩ hP hD hS rfl dL_works_722)
                · refine lv_iload hx hb dL_works_560 (lv_at hl 12 rfl) ?_
                  refine lv_aload_n hx hb dL_works_562 rfl (lv_at hl 5 rfl) ?_
                  refine lv_iconst (v := nI (0)) hx hb dL_works_563 (by decide) ?_
                  refine va_iald hx hb hZ.1 hP 1 0 rfl rfl (vp_in_nI (show 0 < 4 by omega) (by omega)) dL_works_564 ?_
                  rw [nI_clamp (show 0 < 2 ^ 31 by omega)]
                  refine zx_val (y := nI (n)) (c0) ?_
                  refine zc_ge (tgt := 585) hx hb (by omega) (by omega) dL_works_565 (by decide) (fun c_13 => False.elim (by omega)) (fun c_13 => ?_)
                  refine lv_iload hx hb dL_works_568 (lv_at hl 13 rfl) ?_
                  refine lv_aload hx hb dL_works_570 (lv_at hl 6 rfl) ?_
                  refine lv_bipush (v := nI (20)) hx hb dL_works_572 (by decide) ?_
                  refine lv_iload hx hb dL_works_574 (lv_at hl 12 rfl) ?_
                  refine zo_add hx hb dL_works_576 ?_
                  refine va_iald hx hb hZ.1 hP 2 0 rfl rfl (vp_in_nI (show 20 + qa < 24 by omega) (by omega)) dL_works_577 ?_
                  rw [nI_clamp (show 20 + qa < 2 ^ 31 by omega)]
                  refine zx_val (y := nI (fc qa)) (qa6) ?_
                  refine zc_ge (tgt := 585) hx hb (by omega) (by omega) dL_works_578 (by decide) (fun c_14 => False.elim (by omega)) (fun c_14 => ?_)
                  refine lv_iconst (v := bI (true)) hx hb dL_works_581 (by decide) ?_
                  refine lv_goto (tgt := 586) hx hb dL_works_582 (by decide) ?_
                  refine lv_istore (lv' := [(18, .int (bI (true))), (17, .ref lz), (16, .int (nI (dv))), (0, .ref (ad 0)), (1, .int (nI (kd))), (2, .int (y)), (3, .ref (g 0)), (4, .ref (g 1)), (5, .ref (g 2)), (6, .ref (g 3)), (7, .ref (g 4)), (8, .ref (g 5)), (9, .ref (g 6)), (14, .int (nI (qa))), (15, .int (nI (fl)))]) hx hb dL_works_586 hl (by decide) rfl (fun ls hl => ?_)
                  refine lv_iload hx hb dL_works_588 (lv_at hl 0 rfl) ?_
                  refine zb_eq (tgt := 608) hx hb dL_works_590 (by decide) (fun c_15 => Bool.noConfusion c_15) (fun c_15 => ?_)
                  refine lv_aload_n hx hb dL_works_593 rfl (lv_at hl 6 rfl) ?_
                  refine lv_aload hx hb dL_works_594 (lv_at hl 10 rfl) ?_
                  refine lv_aload hx hb dL_works_596 (lv_at hl 12 rfl) ?_
                  refine lv_iload hx hb dL_works_598 (lv_at hl 13 rfl) ?_
                  refine lv_aload hx hb dL_works_600 (lv_at hl 1 rfl) ?_
                  refine zw_S_i (n := 5) (mc := 0) (ms := 0) (w1 := fun u : Unit => (lz, zInts cA 20 (colF (fun _ => nI 0) (wl fw (nI qa) nj))) :: (g 0, zInts cA 4 cf) :: (g 1, zInts cA 24 tf) :: (g 2, zInts cA 24 ff) :: (g 3, zInts cA 10 vf) :: (g 4, zInts cA 40 jj) :: (g 5, zInts cA 20 lt) :: (g 6, zInts cA 20 dd) :: cw) (As := [.ref (g 0), .ref (g 4), .ref (g 6), .int (nI (qa)), .ref lz]) (rest := []) hx hb hml hts hown hZ hP hD hS hA (c_L_listed l D cA _ ((lz, zInts cA 20 (fun _ => nI 0)) :: (g 0, zInts cA 4 cf) :: (g 1, zInts cA 24 tf) :: (g 2, zInts cA 24 ff) :: (g 3, zInts cA 10 vf) :: (g 4, zInts cA 40 jj) :: (g 5, zInts cA 20 lt) :: (g 6, zInts cA 20 dd) :: cw) 1 (g 0) cf rfl 5 (g 4) jj rfl 7 (g 6) dd rfl nj qa jt fin fw c2 hj20 (by omega) (hjob_of hp) 0 lz 20 (fun _ => nI 0) rfl (by have := qW qa (by omega); omega) (by decide) (by decide) (by decide) (by decide)) gL_works_L_listed rfl ⟨rfl, rfl⟩ ⟨by decide +kernel, (Nat.le_of_ble_eq_true rfl), (Nat.le_of_ble_eq_true rfl)⟩ hl.1 rfl (Nat.le_of_ble_eq_true rfl) ⟨(Nat.le_of_ble_eq_true rfl), (Nat.le_of_ble_eq_true rfl)⟩ rfl dL_works_602 (fun r9 u9 H locs hp9 hP hD hS hz => ?_)
                  obtain rfl := show r9 = nI ((wl fw (nI qa) nj).length) from hp9
                  have hP : va_P D vwCl ((lz, zInts cA 20 (colF (fun _ => nI 0) (wl fw (nI qa) nj))) :: (g 0, zInts cA 4 cf) :: (g 1, zInts cA 24 tf) :: (g 2, zInts cA 24 ff) :: (g 3, zInts cA 10 vf) :: (g 4, zInts cA 40 jj) :: (g 5, zInts cA 20 lt) :: (g 6, zInts cA 20 dd) :: cw) H := hP
                  have hD : va_D A ((lz, zInts cA 20 (colF (fun _ => nI 0) (wl fw (nI qa) nj))) :: (g 0, zInts cA 4 cf) :: (g 1, zInts cA 24 tf) :: (g 2, zInts cA 24 ff) :: (g 3, zInts cA 10 vf) :: (g 4, zInts cA 40 jj) :: (g 5, zInts cA 20 lt) :: (g 6, zInts cA 20 dd) :: cw) := hD
                  refine lv_goto (tgt := 609) hx hb dL_works_605 (by decide) ?_
                  refine lv_istore (lv' := [(19, .int (nI ((wl fw (nI qa) nj).length))), (18, .int (bI (true))), (17, .ref lz), (16, .int (nI (dv))), (0, .ref (ad 0)), (1, .int (nI (kd))), (2, .int (y)), (3, .ref (g 0)), (4, .ref (g 1)), (5, .ref (g 2)), (6, .ref (g 3)), (7, .ref (g 4)), (8, .ref (g 5)), (9, .ref (g 6)), (14, .int (nI (qa))), (15, .int (nI (fl)))]) hx hb dL_works_609 hl (by decide) rfl (fun ls hl => ?_)
                  refine lv_iload hx hb dL_works_611 (lv_at hl 1 rfl) ?_
                  refine zb_eq (tgt := 639) hx hb dL_works_613 (by decide) (fun c_16 => Bool.noConfusion c_16) (fun c_16 => ?_)
                  refine lv_iload hx hb dL_works_616 (lv_at hl 3 rfl) ?_
                  refine lv_ldc (v := nI 100000) hx hb hown (hts (.constant RL 146 100000) (by decide +kernel)) dL_works_618 ?_
                  refine zc_ge (tgt := 639) hx hb (by omega) (by omega) dL_works_620 (by decide) (fun c_17 => False.elim (by omega)) (fun c_17 => ?_)
                  refine lv_iload hx hb dL_works_623 (lv_at hl 0 rfl) ?_
                  refine lv_iconst (v := nI (5)) hx hb dL_works_625 (by decide) ?_
                  refine zc_eq (tgt := 637) hx hb (by omega) (by omega) dL_works_626 (by decide) (fun c_18 => ?_) (fun c_18 => False.elim (by omega))
                  refine lv_iconst (v := bI (true)) hx hb dL_works_637 (by decide) ?_
                  have hP := zd_P hP
                  have hD := zd_D hD
                  have hP : va_P D vwCl ((g 0, zInts cA 4 cf) :: (g 1, zInts cA 24 tf) :: (g 2, zInts cA 24 ff) :: (g 3, zInts cA 10 vf) :: (g 4, zInts cA 40 jj) :: (g 5, zInts cA 20 lt) :: (g 6, zInts cA 20 dd) :: cw) H := hP
                  have hD : va_D A ((g 0, zInts cA 4 cf) :: (g 1, zInts cA 24 tf) :: (g 2, zInts cA 24 ff) :: (g 3, zInts cA 10 vf) :: (g 4, zInts cA 40 jj) :: (g 5, zInts cA 20 lt) :: (g 6, zInts cA 20 dd) :: cw) := hD
                  exact W.widen (k := 12) (n := 128) (by omega) (by omega) (zr_qz (S := va_W) (post := (fun (r : Int32) (u : va_W) => r = bI true ∧ LV cA ad g u)) (w1 := fun u => u) ((g 0, zInts cA 4 cf) :: (g 1, zInts cA 24 tf) :: (g 2, zInts cA 24 ff) :: (g 3, zInts cA 10 vf) :: (g 4, zInts cA 40 jj) :: (g 5, zInts cA 20 lt) :: (g 6, zInts cA 20 dd) :: cw) hx hb hr hlocks ⟨rfl, ⟨_, _, _, _, _, _, _, _, _, _, _, _, _, _, _, _, _, _, _, _, _, _, _, _, _, _, _, _, _, _, _, _, _, _, _, _, _, _, _, _, cw, rfl, hL, hI, hp⟩⟩ hP hD hS rfl dL_works_638)
                · refine lv_iload hx hb dL_works_560 (lv_at hl 12 rfl) ?_
                  refine lv_aload_n hx hb dL_works_562 rfl (lv_at hl 5 rfl) ?_
                  refine lv_iconst (v := nI (0)) hx hb dL_works_563 (by decide) ?_
                  refine va_iald hx hb hZ.1 hP 1 0 rfl rfl (vp_in_nI (show 0 < 4 by omega) (by omega)) dL_works_564 ?_
                  rw [nI_clamp (show 0 < 2 ^ 31 by omega)]
                  refine zx_val (y := nI (n)) (c0) ?_
                  refine zc_ge (tgt := 585) hx hb (by omega) (by omega) dL_works_565 (by decide) (fun c_19 => False.elim (by omega)) (fun c_19 => ?_)
                  refine lv_iload hx hb dL_works_568 (lv_at hl 13 rfl) ?_
                  refine lv_aload hx hb dL_works_570 (lv_at hl 6 rfl) ?_
                  refine lv_bipush (v := nI (20)) hx hb dL_works_572 (by decide) ?_
                  refine lv_iload hx hb dL_works_574 (lv_at hl 12 rfl) ?_
                  refine zo_add hx hb dL_works_576 ?_
                  refine va_iald hx hb hZ.1 hP 2 0 rfl rfl (vp_in_nI (show 20 + qa < 24 by omega) (by omega)) dL_works_577 ?_
                  rw [nI_clamp (show 20 + qa < 2 ^ 31 by omega)]
                  refine zx_val (y := nI (fc qa)) (qa6) ?_
                  refine zc_ge (tgt := 585) hx hb (by omega) (by omega) dL_works_578 (by decide) (fun c_20 => False.elim (by omega)) (fun c_20 => ?_)
                  refine lv_iconst (v := bI (true)) hx hb dL_works_581 (by decide) ?_
                  refine lv_goto (tgt := 586) hx hb dL_works_582 (by decide) ?_
                  refine lv_istore (lv' := [(18, .int (bI (true))), (17, .ref lz), (16, .int (nI (dv))), (0, .ref (ad 0)), (1, .int (nI (kd))), (2, .int (y)), (3, .ref (g 0)), (4, .ref (g 1)), (5, .ref (g 2)), (6, .ref (g 3)), (7, .ref (g 4)), (8, .ref (g 5)), (9, .ref (g 6)), (14, .int (nI (qa))), (15, .int (nI (fl)))]) hx hb dL_works_586 hl (by decide) rfl (fun ls hl => ?_)
                  refine lv_iload hx hb dL_works_588 (lv_at hl 0 rfl) ?_
                  refine zb_eq (tgt := 608) hx hb dL_works_590 (by decide) (fun c_21 => Bool.noConfusion c_21) (fun c_21 => ?_)
                  refine lv_aload_n hx hb dL_works_593 rfl (lv_at hl 6 rfl) ?_
                  refine lv_aload hx hb dL_works_594 (lv_at hl 10 rfl) ?_
                  refine lv_aload hx hb dL_works_596 (lv_at hl 12 rfl) ?_
                  refine lv_iload hx hb dL_works_598 (lv_at hl 13 rfl) ?_
                  refine lv_aload hx hb dL_works_600 (lv_at hl 1 rfl) ?_
                  refine zw_S_i (n := 5) (mc := 0) (ms := 0) (w1 := fun u : Unit => (lz, zInts cA 20 (colF (fun _ => nI 0) (wl fw (nI qa) nj))) :: (g 0, zInts cA 4 cf) :: (g 1, zInts cA 24 tf) :: (g 2, zInts cA 24 ff) :: (g 3, zInts cA 10 vf) :: (g 4, zInts cA 40 jj) :: (g 5, zInts cA 20 lt) :: (g 6, zInts cA 20 dd) :: cw) (As := [.ref (g 0), .ref (g 4), .ref (g 6), .int (nI (qa)), .ref lz]) (rest := []) hx hb hml hts hown hZ hP hD hS hA (c_L_listed l D cA _ ((lz, zInts cA 20 (fun _ => nI 0)) :: (g 0, zInts cA 4 cf) :: (g 1, zInts cA 24 tf) :: (g 2, zInts cA 24 ff) :: (g 3, zInts cA 10 vf) :: (g 4, zInts cA 40 jj) :: (g 5, zInts cA 20 lt) :: (g 6, zInts cA 20 dd) :: cw) 1 (g 0) cf rfl 5 (g 4) jj rfl 7 (g 6) dd rfl nj qa jt fin fw c2 hj20 (by omega) (hjob_of hp) 0 lz 20 (fun _ => nI 0) rfl (by have := qW qa (by omega); omega) (by decide) (by decide) (by decide) (by decide)) gL_works_L_listed rfl ⟨rfl, rfl⟩ ⟨by decide +kernel, (Nat.le_of_ble_eq_true rfl), (Nat.le_of_ble_eq_true rfl)⟩ hl.1 rfl (Nat.le_of_ble_eq_true rfl) ⟨(Nat.le_of_ble_eq_true rfl), (Nat.le_of_ble_eq_true rfl)⟩ rfl dL_works_602 (fun r9 u9 H locs hp9 hP hD hS hz => ?_)
                  obtain rfl := show r9 = nI ((wl fw (nI qa) nj).length) from hp9
                  have hP : va_P D vwCl ((lz, zInts cA 20 (colF (fun _ => nI 0) (wl fw (nI qa) nj))) :: (g 0, zInts cA 4 cf) :: (g 1, zInts cA 24 tf) :: (g 2, zInts cA 24 ff) :: (g 3, zInts cA 10 vf) :: (g 4, zInts cA 40 jj) :: (g 5, zInts cA 20 lt) :: (g 6, zInts cA 20 dd) :: cw) H := hP
                  have hD : va_D A ((lz, zInts cA 20 (colF (fun _ => nI 0) (wl fw (nI qa) nj))) :: (g 0, zInts cA 4 cf) :: (g 1, zInts cA 24 tf) :: (g 2, zInts cA 24 ff) :: (g 3, zInts cA 10 vf) :: (g 4, zInts cA 40 jj) :: (g 5, zInts cA 20 lt) :: (g 6, zInts cA 20 dd) :: cw) := hD
                  refine lv_goto (tgt := 609) hx hb dL_works_605 (by decide) ?_
                  refine lv_istore (lv' := [(19, .int (nI ((wl fw (nI qa) nj).length))), (18, .int (bI (true))), (17, .ref lz), (16, .int (nI (dv))), (0, .ref (ad 0)), (1, .int (nI (kd))), (2, .int (y)), (3, .ref (g 0)), (4, .ref (g 1)), (5, .ref (g 2)), (6, .ref (g 3)), (7, .ref (g 4)), (8, .ref (g 5)), (9, .ref (g 6)), (14, .int (nI (qa))), (15, .int (nI (fl)))]) hx hb dL_works_609 hl (by decide) rfl (fun ls hl => ?_)
                  refine lv_iload hx hb dL_works_611 (lv_at hl 1 rfl) ?_
                  refine zb_eq (tgt := 639) hx hb dL_works_613 (by decide) (fun c_22 => Bool.noConfusion c_22) (fun c_22 => ?_)
                  refine lv_iload hx hb dL_works_616 (lv_at hl 3 rfl) ?_
                  refine lv_ldc (v := nI 100000) hx hb hown (hts (.constant RL 146 100000) (by decide +kernel)) dL_works_618 ?_
                  refine zc_ge (tgt := 639) hx hb (by omega) (by omega) dL_works_620 (by decide) (fun c_23 => False.elim (by omega)) (fun c_23 => ?_)
                  refine lv_iload hx hb dL_works_623 (lv_at hl 0 rfl) ?_
                  refine lv_iconst (v := nI (5)) hx hb dL_works_625 (by decide) ?_
                  refine zc_eq (tgt := 637) hx hb (by omega) (by omega) dL_works_626 (by decide) (fun c_24 => False.elim (by omega)) (fun c_24 => ?_)
                  refine lv_aload_n hx hb dL_works_629 rfl (lv_at hl 7 rfl) ?_
                  refine lv_iconst (v := nI (2)) hx hb dL_works_630 (by decide) ?_
                  refine va_iald hx hb hZ.1 hP 1 0 rfl rfl (vp_in_nI (show 2 < 4 by omega) (by omega)) dL_works_631 ?_
                  rw [nI_clamp (show 2 < 2 ^ 31 by omega)]
                  refine zx_val (y := nI (nj)) (c2) ?_
                  refine lv_bipush (v := nI (20)) hx hb dL_works_632 (by decide) ?_
                  refine zc_ne (tgt := 639) hx hb (by omega) (by omega) dL_works_634 (by decide) (fun c_25 => False.elim (by omega)) (fun c_25 => ?_)
                  refine lv_iconst (v := bI (true)) hx hb dL_works_637 (by decide) ?_
                  have hP := zd_P hP
                  have hD := zd_D hD
                  have hP : va_P D vwCl ((g 0, zInts cA 4 cf) :: (g 1, zInts cA 24 tf) :: (g 2, zInts cA 24 ff) :: (g 3, zInts cA 10 vf) :: (g 4, zInts cA 40 jj) :: (g 5, zInts cA 20 lt) :: (g 6, zInts cA 20 dd) :: cw) H := hP
                  have hD : va_D A ((g 0, zInts cA 4 cf) :: (g 1, zInts cA 24 tf) :: (g 2, zInts cA 24 ff) :: (g 3, zInts cA 10 vf) :: (g 4, zInts cA 40 jj) :: (g 5, zInts cA 20 lt) :: (g 6, zInts cA 20 dd) :: cw) := hD
                  exact W.widen (k := 12) (n := 128) (by omega) (by omega) (zr_qz (S := va_W) (post := (fun (r : Int32) (u : va_W) => r = bI true ∧ LV cA ad g u)) (w1 := fun u => u) ((g 0, zInts cA 4 cf) :: (g 1, zInts cA 24 tf) :: (g 2, zInts cA 24 ff) :: (g 3, zInts cA 10 vf) :: (g 4, zInts cA 40 jj) :: (g 5, zInts cA 20 lt) :: (g 6, zInts cA 20 dd) :: cw) hx hb hr hlocks ⟨rfl, ⟨_, _, _, _, _, _, _, _, _, _, _, _, _, _, _, _, _, _, _, _, _, _, _, _, _, _, _, _, _, _, _, _, _, _, _, _, _, _, _, _, cw, rfl, hL, hI, hp⟩⟩ hP hD hS rfl dL_works_638)
                · refine lv_iload hx hb dL_works_560 (lv_at hl 12 rfl) ?_
                  refine lv_aload_n hx hb dL_works_562 rfl (lv_at hl 5 rfl) ?_
                  refine lv_iconst (v := nI (0)) hx hb dL_works_563 (by decide) ?_
                  refine va_iald hx hb hZ.1 hP 1 0 rfl rfl (vp_in_nI (show 0 < 4 by omega) (by omega)) dL_works_564 ?_
                  rw [nI_clamp (show 0 < 2 ^ 31 by omega)]
                  refine zx_val (y := nI (n)) (c0) ?_
                  refine zc_ge (tgt := 585) hx hb (by omega) (by omega) dL_works_565 (by decide) (fun c_26 => False.elim (by omega)) (fun c_26 => ?_)
                  refine lv_iload hx hb dL_works_568 (lv_at hl 13 rfl) ?_
                  refine lv_aload hx hb dL_works_570 (lv_at hl 6 rfl) ?_
                  refine lv_bipush (v := nI (20)) hx hb dL_works_572 (by decide) ?_
                  refine lv_iload hx hb dL_works_574 (lv_at hl 12 rfl) ?_
                  refine zo_add hx hb dL_works_576 ?_
                  refine va_iald hx hb hZ.1 hP 2 0 rfl rfl (vp_in_nI (show 20 + qa < 24 by omega) (by omega)) dL_works_577 ?_
                  rw [nI_clamp (show 20 + qa < 2 ^ 31 by omega)]
                  refine zx_val (y := nI (fc qa)) (qa6) ?_
                  refine zc_ge (tgt := 585) hx hb (by omega) (by omega) dL_works_578 (by decide) (fun c_27 => False.elim (by omega)) (fun c_27 => ?_)
                  refine lv_iconst (v := bI (true)) hx hb dL_works_581 (by decide) ?_
                  refine lv_goto (tgt := 586) hx hb dL_works_582 (by decide) ?_
                  refine lv_istore (lv' := [(18, .int (bI (true))), (17, .ref lz), (16, .int (nI (dv))), (0, .ref (ad 0)), (1, .int (nI (kd))), (2, .int (y)), (3, .ref (g 0)), (4, .ref (g 1)), (5, .ref (g 2)), (6, .ref (g 3)), (7, .ref (g 4)), (8, .ref (g 5)), (9, .ref (g 6)), (14, .int (nI (qa))), (15, .int (nI (fl)))]) hx hb dL_works_586 hl (by decide) rfl (fun ls hl => ?_)
                  refine lv_iload hx hb dL_works_588 (lv_at hl 0 rfl) ?_
                  refine zb_eq (tgt := 608) hx hb dL_works_590 (by decide) (fun c_28 => Bool.noConfusion c_28) (fun c_28 => ?_)
                  refine lv_aload_n hx hb dL_works_593 rfl (lv_at hl 6 rfl) ?_
                  refine lv_aload hx hb dL_works_594 (lv_at hl 10 rfl) ?_
                  refine lv_aload hx hb dL_works_596 (lv_at hl 12 rfl) ?_
                  refine lv_iload hx hb dL_works_598 (lv_at hl 13 rfl) ?_
                  refine lv_aload hx hb dL_works_600 (lv_at hl 1 rfl) ?_
                  refine zw_S_i (n := 5) (mc := 0) (ms := 0) (w1 := fun u : Unit => (lz, zInts cA 20 (colF (fun _ => nI 0) (wl fw (nI qa) nj))) :: (g 0, zInts cA 4 cf) :: (g 1, zInts cA 24 tf) :: (g 2, zInts cA 24 ff) :: (g 3, zInts cA 10 vf) :: (g 4, zInts cA 40 jj) :: (g 5, zInts cA 20 lt) :: (g 6, zInts cA 20 dd) :: cw) (As := [.ref (g 0), .ref (g 4), .ref (g 6), .int (nI (qa)), .ref lz]) (rest := []) hx hb hml hts hown hZ hP hD hS hA (c_L_listed l D cA _ ((lz, zInts cA 20 (fun _ => nI 0)) :: (g 0, zInts cA 4 cf) :: (g 1, zInts cA 24 tf) :: (g 2, zInts cA 24 ff) :: (g 3, zInts cA 10 vf) :: (g 4, zInts cA 40 jj) :: (g 5, zInts cA 20 lt) :: (g 6, zInts cA 20 dd) :: cw) 1 (g 0) cf rfl 5 (g 4) jj rfl 7 (g 6) dd rfl nj qa jt fin fw c2 hj20 (by omega) (hjob_of hp) 0 lz 20 (fun _ => nI 0) rfl (by have := qW qa (by omega); omega) (by decide) (by decide) (by decide) (by decide)) gL_works_L_listed rfl ⟨rfl, rfl⟩ ⟨by decide +kernel, (Nat.le_of_ble_eq_true rfl), (Nat.le_of_ble_eq_true rfl)⟩ hl.1 rfl (Nat.le_of_ble_eq_true rfl) ⟨(Nat.le_of_ble_eq_true rfl), (Nat.le_of_ble_eq_true rfl)⟩ rfl dL_works_602 (fun r9 u9 H locs hp9 hP hD hS hz => ?_)
                  obtain rfl := show r9 = nI ((wl fw (nI qa) nj).length) from hp9
                  have hP : va_P D vwCl ((lz, zInts cA 20 (colF (fun _ => nI 0) (wl fw (nI qa) nj))) :: (g 0, zInts cA 4 cf) :: (g 1, zInts cA 24 tf) :: (g 2, zInts cA 24 ff) :: (g 3, zInts cA 10 vf) :: (g 4, zInts cA 40 jj) :: (g 5, zInts cA 20 lt) :: (g 6, zInts cA 20 dd) :: cw) H := hP
                  have hD : va_D A ((lz, zInts cA 20 (colF (fun _ => nI 0) (wl fw (nI qa) nj))) :: (g 0, zInts cA 4 cf) :: (g 1, zInts cA 24 tf) :: (g 2, zInts cA 24 ff) :: (g 3, zInts cA 10 vf) :: (g 4, zInts cA 40 jj) :: (g 5, zInts cA 20 lt) :: (g 6, zInts cA 20 dd) :: cw) := hD
                  refine lv_goto (tgt := 609) hx hb dL_works_605 (by decide) ?_
                  refine lv_istore (lv' := [(19, .int (nI ((wl fw (nI qa) nj).length))), (18, .int (bI (true))), (17, .ref lz), (16, .int (nI (dv))), (0, .ref (ad 0)), (1, .int (nI (kd))), (2, .int (y)), (3, .ref (g 0)), (4, .ref (g 1)), (5, .ref (g 2)), (6, .ref (g 3)), (7, .ref (g 4)), (8, .ref (g 5)), (9, .ref (g 6)), (14, .int (nI (qa))), (15, .int (nI (fl)))]) hx hb dL_works_609 hl (by decide) rfl (fun ls hl => ?_)
                  refine lv_iload hx hb dL_works_611 (lv_at hl 1 rfl) ?_
                  refine zb_eq (tgt := 639) hx hb dL_works_613 (by decide) (fun c_29 => Bool.noConfusion c_29) (fun c_29 => ?_)
                  refine lv_iload hx hb dL_works_616 (lv_at hl 3 rfl) ?_
                  refine lv_ldc (v := nI 100000) hx hb hown (hts (.constant RL 146 100000) (by decide +kernel)) dL_works_618 ?_
                  refine zc_ge (tgt := 639) hx hb (by omega) (by omega) dL_works_620 (by decide) (fun c_30 => False.elim (by omega)) (fun c_30 => ?_)
                  refine lv_iload hx hb dL_works_623 (lv_at hl 0 rfl) ?_
                  refine lv_iconst (v := nI (5)) hx hb dL_works_625 (by decide) ?_
                  refine zc_eq (tgt := 637) hx hb (by omega) (by omega) dL_works_626 (by decide) (fun c_31 => False.elim (by omega)) (fun c_31 => ?_)
                  refine lv_aload_n hx hb dL_works_629 rfl (lv_at hl 7 rfl) ?_
                  refine lv_iconst (v := nI (2)) hx hb dL_works_630 (by decide) ?_
                  refine va_iald hx hb hZ.1 hP 1 0 rfl rfl (vp_in_nI (show 2 < 4 by omega) (by omega)) dL_works_631 ?_
                  rw [nI_clamp (show 2 < 2 ^ 31 by omega)]
                  refine zx_val (y := nI (nj)) (c2) ?_
                  refine lv_bipush (v := nI (20)) hx hb dL_works_632 (by decide) ?_
                  refine zc_ne (tgt := 639) hx hb (by omega) (by omega) dL_works_634 (by decide) (fun c_32 => ?_) (fun c_32 => False.elim (by omega))
                  refine lv_iload hx hb dL_works_639 (lv_at hl 1 rfl) ?_
                  refine zb_ne (tgt := 649) hx hb dL_works_641 (by decide) (fun c_33 => ?_) (fun c_33 => Bool.noConfusion c_33)
                  refine lv_iload hx hb dL_works_649 (lv_at hl 3 rfl) ?_
                  refine lv_ldc (v := nI 99999) hx hb hown (hts (.constant RL 147 99999) (by decide +kernel)) dL_works_651 ?_
                  refine zc_le (tgt := 661) hx hb (by omega) (by omega) dL_works_653 (by decide) (fun c_34 => ?_) (fun c_34 => False.elim (by omega))
                  refine lv_aload_n hx hb dL_works_661 rfl (lv_at hl 7 rfl) ?_
                  refine lv_iconst (v := nI (2)) hx hb dL_works_662 (by decide) ?_
                  refine va_iald hx hb hZ.1 hP 1 0 rfl rfl (vp_in_nI (show 2 < 4 by omega) (by omega)) dL_works_663 ?_
                  rw [nI_clamp (show 2 < 2 ^ 31 by omega)]
                  refine zx_val (y := nI (nj)) (c2) ?_
                  refine lv_istore (lv' := [(20, .int (nI (nj))), (19, .int (nI ((wl fw (nI qa) nj).length))), (18, .int (bI (true))), (17, .ref lz), (16, .int (nI (dv))), (0, .ref (ad 0)), (1, .int (nI (kd))), (2, .int (y)), (3, .ref (g 0)), (4, .ref (g 1)), (5, .ref (g 2)), (6, .ref (g 3)), (7, .ref (g 4)), (8, .ref (g 5)), (9, .ref (g 6)), (14, .int (nI (qa))), (15, .int (nI (fl)))]) hx hb dL_works_664 hl (by decide) rfl (fun ls hl => ?_)
                  refine lv_iload hx hb dL_works_666 (lv_at hl 0 rfl) ?_
                  refine zf_lt (tgt := 702) hx hb (by omega) dL_works_668 (by decide) ?_
                  obtain ⟨hI2, hp2⟩ := J_job (t := qa) (f := fl) (d := dv) hI hp hqa hfl9 (by omega) hk3 hk2
                  refine lv_aload hx hb dL_works_671 (lv_at hl 12 rfl) ?_
                  refine lv_iload hx hb dL_works_673 (lv_at hl 0 rfl) ?_
                  refine lv_iload hx hb dL_works_675 (lv_at hl 15 rfl) ?_
                  refine va_iast hx hb hZ.1 hP hD hS 5 0 rfl rfl (vp_in_nI (show nj < 40 by omega) (by omega)) dL_works_677 (fun H locs hP hD hS => ?_)
                  rw [nI_clamp (show nj < 2 ^ 31 by omega)] at hP hD
                  have hP : va_P D vwCl ((lz, zInts cA 20 (colF (fun _ => nI 0) (wl fw (nI qa) nj))) :: (g 0, zInts cA 4 cf) :: (g 1, zInts cA 24 tf) :: (g 2, zInts cA 24 ff) :: (g 3, zInts cA 10 vf) :: (g 4, zInts cA 40 (upd jj nj (nI (qa)))) :: (g 5, zInts cA 20 lt) :: (g 6, zInts cA 20 dd) :: cw) H := hP
                  have hD : va_D A ((lz, zInts cA 20 (colF (fun _ => nI 0) (wl fw (nI qa) nj))) :: (g 0, zInts cA 4 cf) :: (g 1, zInts cA 24 tf) :: (g 2, zInts cA 24 ff) :: (g 3, zInts cA 10 vf) :: (g 4, zInts cA 40 (upd jj nj (nI (qa)))) :: (g 5, zInts cA 20 lt) :: (g 6, zInts cA 20 dd) :: cw) := hD
                  refine lv_aload hx hb dL_works_678 (lv_at hl 12 rfl) ?_
                  refine lv_bipush (v := nI (20)) hx hb dL_works_680 (by decide) ?_
                  refine lv_iload hx hb dL_works_682 (lv_at hl 0 rfl) ?_
                  refine zo_add hx hb dL_works_684 ?_
                  refine lv_iload hx hb dL_works_685 (lv_at hl 16 rfl) ?_
                  refine va_iast hx hb hZ.1 hP hD hS 5 0 rfl rfl (vp_in_nI (show 20 + nj < 40 by omega) (by omega)) dL_works_687 (fun H locs hP hD hS => ?_)
                  rw [nI_clamp (show 20 + nj < 2 ^ 31 by omega)] at hP hD
                  have hP : va_P D vwCl ((lz, zInts cA 20 (colF (fun _ => nI 0) (wl fw (nI qa) nj))) :: (g 0, zInts cA 4 cf) :: (g 1, zInts cA 24 tf) :: (g 2, zInts cA 24 ff) :: (g 3, zInts cA 10 vf) :: (g 4, zInts cA 40 (upd (upd jj nj (nI (qa))) (20 + nj) (nI (fl)))) :: (g 5, zInts cA 20 lt) :: (g 6, zInts cA 20 dd) :: cw) H := hP
                  have hD : va_D A ((lz, zInts cA 20 (colF (fun _ => nI 0) (wl fw (nI qa) nj))) :: (g 0, zInts cA 4 cf) :: (g 1, zInts cA 24 tf) :: (g 2, zInts cA 24 ff) :: (g 3, zInts cA 10 vf) :: (g 4, zInts cA 40 (upd (upd jj nj (nI (qa))) (20 + nj) (nI (fl)))) :: (g 5, zInts cA 20 lt) :: (g 6, zInts cA 20 dd) :: cw) := hD
                  refine lv_aload hx hb dL_works_688 (lv_at hl 13 rfl) ?_
                  refine lv_iload hx hb dL_works_690 (lv_at hl 0 rfl) ?_
                  refine lv_iload hx hb dL_works_692 (lv_at hl 4 rfl) ?_
                  refine va_iast hx hb hZ.1 hP hD hS 6 0 rfl rfl (vp_in_nI (show nj < 20 by omega) (by omega)) dL_works_694 (fun H locs hP hD hS => ?_)
                  rw [nI_clamp (show nj < 2 ^ 31 by omega)] at hP hD
                  have hP : va_P D vwCl ((lz, zInts cA 20 (colF (fun _ => nI 0) (wl fw (nI qa) nj))) :: (g 0, zInts cA 4 cf) :: (g 1, zInts cA 24 tf) :: (g 2, zInts cA 24 ff) :: (g 3, zInts cA 10 vf) :: (g 4, zInts cA 40 (upd (upd jj nj (nI (qa))) (20 + nj) (nI (fl)))) :: (g 5, zInts cA 20 (upd lt nj (nI (dv)))) :: (g 6, zInts cA 20 dd) :: cw) H := hP
                  have hD : va_D A ((lz, zInts cA 20 (colF (fun _ => nI 0) (wl fw (nI qa) nj))) :: (g 0, zInts cA 4 cf) :: (g 1, zInts cA 24 tf) :: (g 2, zInts cA 24 ff) :: (g 3, zInts cA 10 vf) :: (g 4, zInts cA 40 (upd (upd jj nj (nI (qa))) (20 + nj) (nI (fl)))) :: (g 5, zInts cA 20 (upd lt nj (nI (dv)))) :: (g 6, zInts cA 20 dd) :: cw) := hD
                  refine lv_aload_n hx hb dL_works_695 rfl (lv_at hl 8 rfl) ?_
                  refine lv_iconst (v := nI (2)) hx hb dL_works_696 (by decide) ?_
                  refine lv_dup2_11 hx hb dL_works_697 rfl rfl ?_
                  refine va_iald hx hb hZ.1 hP 1 0 rfl rfl (vp_in_nI (show 2 < 4 by omega) (by omega)) dL_works_698 ?_
                  rw [nI_clamp (show 2 < 2 ^ 31 by omega)]
                  refine zx_val (y := nI (nj)) (c2) ?_
                  refine lv_iconst (v := nI (1)) hx hb dL_works_699 (by decide) ?_
                  refine zo_add hx hb dL_works_700 ?_
                  refine va_iast hx hb hZ.1 hP hD hS 1 0 rfl rfl (vp_in_nI (show 2 < 4 by omega) (by omega)) dL_works_701 (fun H locs hP hD hS => ?_)
                  rw [nI_clamp (show 2 < 2 ^ 31 by omega)] at hP hD
                  have hP : va_P D vwCl ((lz, zInts cA 20 (colF (fun _ => nI 0) (wl fw (nI qa) nj))) :: (g 0, zInts cA 4 (upd cf 2 (nI (nj + 1)))) :: (g 1, zInts cA 24 tf) :: (g 2, zInts cA 24 ff) :: (g 3, zInts cA 10 vf) :: (g 4, zInts cA 40 (upd (upd jj nj (nI (qa))) (20 + nj) (nI (fl)))) :: (g 5, zInts cA 20 (upd lt nj (nI (dv)))) :: (g 6, zInts cA 20 dd) :: cw) H := hP
                  have hD : va_D A ((lz, zInts cA 20 (colF (fun _ => nI 0) (wl fw (nI qa) nj))) :: (g 0, zInts cA 4 (upd cf 2 (nI (nj + 1)))) :: (g 1, zInts cA 24 tf) :: (g 2, zInts cA 24 ff) :: (g 3, zInts cA 10 vf) :: (g 4, zInts cA 40 (upd (upd jj nj (nI (qa))) (20 + nj) (nI (fl)))) :: (g 5, zInts cA 20 (upd lt nj (nI (dv)))) :: (g 6, zInts cA 20 dd) :: cw) := hD
                  refine lv_aload_n hx hb dL_works_702 rfl (lv_at hl 5 rfl) ?_
                  refine lv_iload hx hb dL_works_703 (lv_at hl 15 rfl) ?_
                  refine lv_iload hx hb dL_works_705 (lv_at hl 16 rfl) ?_
                  refine lv_iload hx hb dL_works_707 (lv_at hl 4 rfl) ?_
                  refine ze_H_i (n := 4) (mc := 3) (ms := 18) (ws := cw) (es := [(lz, zInts cA 20 (colF (fun _ => nI 0) (wl fw (nI qa) nj))), (g 0, zInts cA 4 (upd cf 2 (nI (nj + 1)))), (g 1, zInts cA 24 tf), (g 2, zInts cA 24 ff), (g 3, zInts cA 10 vf), (g 4, zInts cA 40 (upd (upd jj nj (nI (qa))) (20 + nj) (nI (fl)))), (g 5, zInts cA 20 (upd lt nj (nI (dv)))), (g 6, zInts cA 20 dd)]) (As := [.ref (ad 0), .int (nI (qa)), .int (nI (fl)), .int (nI (dv))]) (rest := []) hx hb hml hts hown hZ hX hN [0, 1, 2, 3, 4, 5, 6, 7] rfl rfl hP hD hS hA (c_L_put l D cA _ cw (ad 0) _ l0 _ _ _ _ (kJ (ix (nI (qa)) n) (fun t => ix (nI (fl)) (fc t)) (ix (nI (dv)) 100000) (fun t => decide (nj < 60) && decide ((wl fw (nI t) nj).length < 7))) (nI (qa)) (nI (fl)) (nI (dv)) (fun sz9 => c_X4_job l hlt D cA sz9 cw ad T Bd E PT PB PE n tr le sl mo la fc bo nd mk ck ct hd pq nj fw jf dl dn oc s8 s9 s10 s11 s12 hL hI (nI (qa)) (nI (fl)) (nI (dv))) (fun _ _ h => h)) gL_works_L_put rfl ⟨rfl, rfl⟩ ⟨by decide +kernel, (Nat.le_of_ble_eq_true rfl), (Nat.le_of_ble_eq_true rfl)⟩ hl.1 rfl (Nat.le_of_ble_eq_true rfl) ⟨(Nat.le_of_ble_eq_true rfl), (Nat.le_of_ble_eq_true rfl)⟩ rfl dL_works_709 (fun r9 u9 H locs hp9 hP hD hS hz => ?_)
                  rcases u9 with ⟨t9, f9, dx9, w1⟩ | u9
                  · dsimp only [zwP] at hp9
                    obtain ⟨htn, hv0, hfn, hv1, hd9, hv2, hnj, hw7, hr9, hkp, hL1⟩ := hp9
                    have e9 := (nI_eq (by omega) (by omega)).mp hv0
                    subst e9
                    have e8 := (nI_eq (by omega) (by omega)).mp hv1
                    have e7 := (nI_eq (by omega) (by omega)).mp hv2
                    subst e8; subst e7; subst hr9
                    have hP : va_P D vwCl ((lz, zInts cA 20 (colF (fun _ => nI 0) (wl fw (nI qa) nj))) :: (g 0, zInts cA 4 (upd cf 2 (nI (nj + 1)))) :: (g 1, zInts cA 24 tf) :: (g 2, zInts cA 24 ff) :: (g 3, zInts cA 10 vf) :: (g 4, zInts cA 40 (upd (upd jj nj (nI (qa))) (20 + nj) (nI (fl)))) :: (g 5, zInts cA 20 (upd lt nj (nI (dv)))) :: (g 6, zInts cA 20 dd) :: w1) H := hP
                    have hD : va_D A ((lz, zInts cA 20 (colF (fun _ => nI 0) (wl fw (nI qa) nj))) :: (g 0, zInts cA 4 (upd cf 2 (nI (nj + 1)))) :: (g 1, zInts cA 24 tf) :: (g 2, zInts cA 24 ff) :: (g 3, zInts cA 10 vf) :: (g 4, zInts cA 40 (upd (upd jj nj (nI (qa))) (20 + nj) (nI (fl)))) :: (g 5, zInts cA 20 (upd lt nj (nI (dv)))) :: (g 6, zInts cA 20 dd) :: w1) := hD
                    refine lv_iload hx hb dL_works_712 (lv_at hl 0 rfl) ?_
                    refine lv_icmp_ne (tgt := 721) hx hb dL_works_714 (by decide) (fun c_36 => absurd rfl c_36) (fun c_36 => ?_)
                    refine lv_iconst (v := bI (true)) hx hb dL_works_717 (by decide) ?_
                    refine lv_goto (tgt := 722) hx hb dL_works_718 (by decide) ?_
                    have hP := zd_P hP
                    have hD := zd_D hD
                    have hP : va_P D vwCl ((g 0, zInts cA 4 (upd cf 2 (nI (nj + 1)))) :: (g 1, zInts cA 24 tf) :: (g 2, zInts cA 24 ff) :: (g 3, zInts cA 10 vf) :: (g 4, zInts cA 40 (upd (upd jj nj (nI (qa))) (20 + nj) (nI (fl)))) :: (g 5, zInts cA 20 (upd lt nj (nI (dv)))) :: (g 6, zInts cA 20 dd) :: w1) H := hP
                    have hD : va_D A ((g 0, zInts cA 4 (upd cf 2 (nI (nj + 1)))) :: (g 1, zInts cA 24 tf) :: (g 2, zInts cA 24 ff) :: (g 3, zInts cA 10 vf) :: (g 4, zInts cA 40 (upd (upd jj nj (nI (qa))) (20 + nj) (nI (fl)))) :: (g 5, zInts cA 20 (upd lt nj (nI (dv)))) :: (g 6, zInts cA 20 dd) :: w1) := hD
                    exact W.widen (k := 12) (n := 128) (by omega) (by omega) (zr_qz (S := va_W) (post := (fun (r : Int32) (u : va_W) => r = bI true ∧ LV cA ad g u)) (w1 := fun u => u) ((g 0, zInts cA 4 (upd cf 2 (nI (nj + 1)))) :: (g 1, zInts cA 24 tf) :: (g 2, zInts cA 24 ff) :: (g 3, zInts cA 10 vf) :: (g 4, zInts cA 40 (upd (upd jj nj (nI (qa))) (20 + nj) (nI (fl)))) :: (g 5, zInts cA 20 (upd lt nj (nI (dv)))) :: (g 6, zInts cA 20 dd) :: w1) hx hb hr hlocks ⟨rfl, ⟨_, _, _, _, _, _, _, _, _, _, _, _, _, _, _, _, _, _, _, _, _, _, _, _, _, _, _, _, _, _, _, _, _, _, _, _, _, _, _, _, w1, rfl, hL1, hI2, hp2⟩⟩ hP hD hS rfl dL_works_722)
                  · exact absurd (show (kJ (ix (nI (qa)) n) (fun t => ix (nI (fl)) (fc t)) (ix (nI (dv)) 100000) (fun t => decide (nj < 60) && decide ((wl fw (nI t) nj).length < 7))) = 0 from kJ_0 (ix_in (by omega) hqa) (ix_in (by omega) hfl9) (ix_in (by omega) (by omega)) (by show (decide (nj < 60) && decide ((wl fw (nI qa) nj).length < 7)) = true; rw [decide_eq_true (p := nj < 60) (by omega), decide_eq_true (p := (wl fw (nI qa) nj).length < 7) (by omega)]; rfl)) hp9.2.1
              · refine lv_iload hx hb dL_works_560 (lv_at hl 12 rfl) ?_
                refine lv_aload_n hx hb dL_works_562 rfl (lv_at hl 5 rfl) ?_
                refine lv_iconst (v := nI (0)) hx hb dL_works_563 (by decide) ?_
                refine va_iald hx hb hZ.1 hP 1 0 rfl rfl (vp_in_nI (show 0 < 4 by omega) (by omega)) dL_works_564 ?_
                rw [nI_clamp (show 0 < 2 ^ 31 by omega)]
                refine zx_val (y := nI (n)) (c0) ?_
                refine zc_ge (tgt := 585) hx hb (by omega) (by omega) dL_works_565 (by decide) (fun c_37 => False.elim (by omega)) (fun c_37 => ?_)
                refine lv_iload hx hb dL_works_568 (lv_at hl 13 rfl) ?_
                refine lv_aload hx hb dL_works_570 (lv_at hl 6 rfl) ?_
                refine lv_bipush (v := nI (20)) hx hb dL_works_572 (by decide) ?_
                refine lv_iload hx hb dL_works_574 (lv_at hl 12 rfl) ?_
                refine zo_add hx hb dL_works_576 ?_
                refine va_iald hx hb hZ.1 hP 2 0 rfl rfl (vp_in_nI (show 20 + qa < 24 by omega) (by omega)) dL_works_577 ?_
                rw [nI_clamp (show 20 + qa < 2 ^ 31 by omega)]
                refine zx_val (y := nI (fc qa)) (qa6) ?_
                refine zc_ge (tgt := 585) hx hb (by omega) (by omega) dL_works_578 (by decide) (fun c_38 => ?_) (fun c_38 => False.elim (by omega))
                refine lv_iconst (v := bI (false)) hx hb dL_works_585 (by decide) ?_
                refine lv_istore (lv' := [(18, .int (bI (false))), (17, .ref lz), (16, .int (nI (dv))), (0, .ref (ad 0)), (1, .int (nI (kd))), (2, .int (y)), (3, .ref (g 0)), (4, .ref (g 1)), (5, .ref (g 2)), (6, .ref (g 3)), (7, .ref (g 4)), (8, .ref (g 5)), (9, .ref (g 6)), (14, .int (nI (qa))), (15, .int (nI (fl)))]) hx hb dL_works_586 hl (by decide) rfl (fun ls hl => ?_)
                refine lv_iload hx hb dL_works_588 (lv_at hl 0 rfl) ?_
                refine zb_eq (tgt := 608) hx hb dL_works_590 (by decide) (fun c_39 => ?_) (fun c_39 => Bool.noConfusion c_39)
                refine lv_iconst (v := nI (0)) hx hb dL_works_608 (by decide) ?_
                refine lv_istore (lv' := [(19, .int (nI (0))), (18, .int (bI (false))), (17, .ref lz), (16, .int (nI (dv))), (0, .ref (ad 0)), (1, .int (nI (kd))), (2, .int (y)), (3, .ref (g 0)), (4, .ref (g 1)), (5, .ref (g 2)), (6, .ref (g 3)), (7, .ref (g 4)), (8, .ref (g 5)), (9, .ref (g 6)), (14, .int (nI (qa))), (15, .int (nI (fl)))]) hx hb dL_works_609 hl (by decide) rfl (fun ls hl => ?_)
                refine lv_iload hx hb dL_works_611 (lv_at hl 1 rfl) ?_
                refine zb_eq (tgt := 639) hx hb dL_works_613 (by decide) (fun c_40 => ?_) (fun c_40 => Bool.noConfusion c_40)
                refine lv_iload hx hb dL_works_639 (lv_at hl 1 rfl) ?_
                refine zb_ne (tgt := 649) hx hb dL_works_641 (by decide) (fun c_41 => Bool.noConfusion c_41) (fun c_41 => ?_)
                refine lv_bipush (v := (-101)) hx hb dL_works_644 (by decide) ?_
                refine lv_goto (tgt := 664) hx hb dL_works_646 (by decide) ?_
                refine lv_istore (lv' := [(20, .int ((-101))), (19, .int (nI (0))), (18, .int (bI (false))), (17, .ref lz), (16, .int (nI (dv))), (0, .ref (ad 0)), (1, .int (nI (kd))), (2, .int (y)), (3, .ref (g 0)), (4, .ref (g 1)), (5, .ref (g 2)), (6, .ref (g 3)), (7, .ref (g 4)), (8, .ref (g 5)), (9, .ref (g 6)), (14, .int (nI (qa))), (15, .int (nI (fl)))]) hx hb dL_works_664 hl (by decide) rfl (fun ls hl => ?_)
                refine lv_iload hx hb dL_works_666 (lv_at hl 0 rfl) ?_
                refine lv_if_lt (tgt := 702) hx hb dL_works_668 (by decide) (fun c_42 => ?_) (fun c_42 => absurd (by decide) c_42)
                refine lv_aload_n hx hb dL_works_702 rfl (lv_at hl 5 rfl) ?_
                refine lv_iload hx hb dL_works_703 (lv_at hl 15 rfl) ?_
                refine lv_iload hx hb dL_works_705 (lv_at hl 16 rfl) ?_
                refine lv_iload hx hb dL_works_707 (lv_at hl 4 rfl) ?_
                refine ze_H_i (n := 4) (mc := 3) (ms := 18) (ws := cw) (es := [(lz, zInts cA 20 (fun _ => nI 0)), (g 0, zInts cA 4 cf), (g 1, zInts cA 24 tf), (g 2, zInts cA 24 ff), (g 3, zInts cA 10 vf), (g 4, zInts cA 40 jj), (g 5, zInts cA 20 lt), (g 6, zInts cA 20 dd)]) (As := [.ref (ad 0), .int (nI (qa)), .int (nI (fl)), .int (nI (dv))]) (rest := []) hx hb hml hts hown hZ hX hN [0, 1, 2, 3, 4, 5, 6, 7] rfl rfl hP hD hS hA (c_L_put l D cA _ cw (ad 0) _ l0 _ _ _ _ (kJ (ix (nI (qa)) n) (fun t => ix (nI (fl)) (fc t)) (ix (nI (dv)) 100000) (fun t => decide (nj < 60) && decide ((wl fw (nI t) nj).length < 7))) (nI (qa)) (nI (fl)) (nI (dv)) (fun sz9 => c_X4_job l hlt D cA sz9 cw ad T Bd E PT PB PE n tr le sl mo la fc bo nd mk ck ct hd pq nj fw jf dl dn oc s8 s9 s10 s11 s12 hL hI (nI (qa)) (nI (fl)) (nI (dv))) (fun _ _ h => h)) gL_works_L_put rfl ⟨rfl, rfl⟩ ⟨by decide +kernel, (Nat.le_of_ble_eq_true rfl), (Nat.le_of_ble_eq_true rfl)⟩ hl.1 rfl (Nat.le_of_ble_eq_true rfl) ⟨(Nat.le_of_ble_eq_true rfl), (Nat.le_of_ble_eq_true rfl)⟩ rfl dL_works_709 (fun r9 u9 H locs hp9 hP hD hS hz => ?_)
                rcases u9 with ⟨t9, f9, dx9, w1⟩ | u9
                · dsimp only [zwP] at hp9
                  obtain ⟨htn, hv0, hfn, hv1, hd9, hv2, hnj, hw7, hr9, hkp, hL1⟩ := hp9
                  have e9 := (nI_eq (by omega) (by omega)).mp hv0
                  rw [← e9] at hfn
                  have e8 := (nI_eq (by omega) (by omega)).mp hv1
                  omega
                · dsimp only [zwP] at hp9
                  obtain ⟨hr9, hK9, E9, hE9⟩ := hp9
                  have hr9 : r9 = (-101) := by rw [hr9, show (kJ (ix (nI (qa)) n) (fun t => ix (nI (fl)) (fc t)) (ix (nI (dv)) 100000) (fun t => decide (nj < 60) && decide ((wl fw (nI t) nj).length < 7))) = 1 from kJ_2 (ix_in (by omega) hqa) (by rw [ix_nI (by omega), if_neg (by omega)])]; rfl
                  subst hr9
                  have hP : va_P D vwCl ((lz, zInts cA 20 (fun _ => nI 0)) :: (g 0, zInts cA 4 cf) :: (g 1, zInts cA 24 tf) :: (g 2, zInts cA 24 ff) :: (g 3, zInts cA 10 vf) :: (g 4, zInts cA 40 jj) :: (g 5, zInts cA 20 lt) :: (g 6, zInts cA 20 dd) :: cw) H := hP
                  have hD : va_D A ((lz, zInts cA 20 (fun _ => nI 0)) :: (g 0, zInts cA 4 cf) :: (g 1, zInts cA 24 tf) :: (g 2, zInts cA 24 ff) :: (g 3, zInts cA 10 vf) :: (g 4, zInts cA 40 jj) :: (g 5, zInts cA 20 lt) :: (g 6, zInts cA 20 dd) :: cw) := hD
                  refine lv_iload hx hb dL_works_712 (lv_at hl 0 rfl) ?_
                  refine lv_icmp_ne (tgt := 721) hx hb dL_works_714 (by decide) (fun c_43 => absurd rfl c_43) (fun c_43 => ?_)
                  refine lv_iconst (v := bI (true)) hx hb dL_works_717 (by decide) ?_
                  refine lv_goto (tgt := 722) hx hb dL_works_718 (by decide) ?_
                  have hP := zd_P hP
                  have hD := zd_D hD
                  have hP : va_P D vwCl ((g 0, zInts cA 4 cf) :: (g 1, zInts cA 24 tf) :: (g 2, zInts cA 24 ff) :: (g 3, zInts cA 10 vf) :: (g 4, zInts cA 40 jj) :: (g 5, zInts cA 20 lt) :: (g 6, zInts cA 20 dd) :: cw) H := hP
                  have hD : va_D A ((g 0, zInts cA 4 cf) :: (g 1, zInts cA 24 tf) :: (g 2, zInts cA 24 ff) :: (g 3, zInts cA 10 vf) :: (g 4, zInts cA 40 jj) :: (g 5, zInts cA 20 lt) :: (g 6, zInts cA 20 dd) :: cw) := hD
                  exact W.widen (k := 12) (n := 128) (by omega) (by omega) (zr_qz (S := va_W) (post := (fun (r : Int32) (u : va_W) => r = bI true ∧ LV cA ad g u)) (w1 := fun u => u) ((g 0, zInts cA 4 cf) :: (g 1, zInts cA 24 tf) :: (g 2, zInts cA 24 ff) :: (g 3, zInts cA 10 vf) :: (g 4, zInts cA 40 jj) :: (g 5, zInts cA 20 lt) :: (g 6, zInts cA 20 dd) :: cw) hx hb hr hlocks ⟨rfl, ⟨_, _, _, _, _, _, _, _, _, _, _, _, _, _, _, _, _, _, _, _, _, _, _, _, _, _, _, _, _, _, _, _, _, _, _, _, _, _, _, _, cw, rfl, hL, hI, hp⟩⟩ hP hD hS rfl dL_works_722)
            · refine lv_iload hx hb dL_works_560 (lv_at hl 12 rfl) ?_
              refine lv_aload_n hx hb dL_works_562 rfl (lv_at hl 5 rfl) ?_
              refine lv_iconst (v := nI (0)) hx hb dL_works_563 (by decide) ?_
              refine va_iald hx hb hZ.1 hP 1 0 rfl rfl (vp_in_nI (show 0 < 4 by omega) (by omega)) dL_works_564 ?_
              rw [nI_clamp (show 0 < 2 ^ 31 by omega)]
              refine zx_val (y := nI (n)) (c0) ?_
              refine zc_ge (tgt := 585) hx hb (by omega) (by omega) dL_works_565 (by decide) (fun c_44 => ?_) (fun c_44 => False.elim (by omega))
              refine lv_iconst (v := bI (false)) hx hb dL_works_585 (by decide) ?_
              refine lv_istore (lv' := [(18, .int (bI (false))), (17, .ref lz), (16, .int (nI (dv))), (0, .ref (ad 0)), (1, .int (nI (kd))), (2, .int (y)), (3, .ref (g 0)), (4, .ref (g 1)), (5, .ref (g 2)), (6, .ref (g 3)), (7, .ref (g 4)), (8, .ref (g 5)), (9, .ref (g 6)), (14, .int (nI (qa))), (15, .int (nI (fl)))]) hx hb dL_works_586 hl (by decide) rfl (fun ls hl => ?_)
              refine lv_iload hx hb dL_works_588 (lv_at hl 0 rfl) ?_
              refine zb_eq (tgt := 608) hx hb dL_works_590 (by decide) (fun c_45 => ?_) (fun c_45 => Bool.noConfusion c_45)
              refine lv_iconst (v := nI (0)) hx hb dL_works_608 (by decide) ?_
              refine lv_istore (lv' := [(19, .int (nI (0))), (18, .int (bI (false))), (17, .ref lz), (16, .int (nI (dv))), (0, .ref (ad 0)), (1, .int (nI (kd))), (2, .int (y)), (3, .ref (g 0)), (4, .ref (g 1)), (5, .ref (g 2)), (6, .ref (g 3)), (7, .ref (g 4)), (8, .ref (g 5)), (9, .ref (g 6)), (14, .int (nI (qa))), (15, .int (nI (fl)))]) hx hb dL_works_609 hl (by decide) rfl (fun ls hl => ?_)
              refine lv_iload hx hb dL_works_611 (lv_at hl 1 rfl) ?_
              refine zb_eq (tgt := 639) hx hb dL_works_613 (by decide) (fun c_46 => ?_) (fun c_46 => Bool.noConfusion c_46)
              refine lv_iload hx hb dL_works_639 (lv_at hl 1 rfl) ?_
              refine zb_ne (tgt := 649) hx hb dL_works_641 (by decide) (fun c_47 => Bool.noConfusion c_47) (fun c_47 => ?_)
              refine lv_bipush (v := (-101)) hx hb dL_works_644 (by decide) ?_
              refine lv_goto (tgt := 664) hx hb dL_works_646 (by decide) ?_
              refine lv_istore (lv' := [(20, .int ((-101))), (19, .int (nI (0))), (18, .int (bI (false))), (17, .ref lz), (16, .int (nI (dv))), (0, .ref (ad 0)), (1, .int (nI (kd))), (2, .int (y)), (3, .ref (g 0)), (4, .ref (g 1)), (5, .ref (g 2)), (6, .ref (g 3)), (7, .ref (g 4)), (8, .ref (g 5)), (9, .ref (g 6)), (14, .int (nI (qa))), (15, .int (nI (fl)))]) hx hb dL_works_664 hl (by decide) rfl (fun ls hl => ?_)
              refine lv_iload hx hb dL_works_666 (lv_at hl 0 rfl) ?_
              refine lv_if_lt (tgt := 702) hx hb dL_works_668 (by decide) (fun c_48 => ?_) (fun c_48 => absurd (by decide) c_48)
              refine lv_aload_n hx hb dL_works_702 rfl (lv_at hl 5 rfl) ?_
              refine lv_iload hx hb dL_works_703 (lv_at hl 15 rfl) ?_
              refine lv_iload hx hb dL_works_705 (lv_at hl 16 rfl) ?_
              refine lv_iload hx hb dL_works_707 (lv_at hl 4 rfl) ?_
              refine ze_H_i (n := 4) (mc := 3) (ms := 18) (ws := cw) (es := [(lz, zInts cA 20 (fun _ => nI 0)), (g 0, zInts cA 4 cf), (g 1, zInts cA 24 tf), (g 2, zInts cA 24 ff), (g 3, zInts cA 10 vf), (g 4, zInts cA 40 jj), (g 5, zInts cA 20 lt), (g 6, zInts cA 20 dd)]) (As := [.ref (ad 0), .int (nI (qa)), .int (nI (fl)), .int (nI (dv))]) (rest := []) hx hb hml hts hown hZ hX hN [0, 1, 2, 3, 4, 5, 6, 7] rfl rfl hP hD hS hA (c_L_put l D cA _ cw (ad 0) _ l0 _ _ _ _ (kJ (ix (nI (qa)) n) (fun t => ix (nI (fl)) (fc t)) (ix (nI (dv)) 100000) (fun t => decide (nj < 60) && decide ((wl fw (nI t) nj).length < 7))) (nI (qa)) (nI (fl)) (nI (dv)) (fun sz9 => c_X4_job l hlt D cA sz9 cw ad T Bd E PT PB PE n tr le sl mo la fc bo nd mk ck ct hd pq nj fw jf dl dn oc s8 s9 s10 s11 s12 hL hI (nI (qa)) (nI (fl)) (nI (dv))) (fun _ _ h => h)) gL_works_L_put rfl ⟨rfl, rfl⟩ ⟨by decide +kernel, (Nat.le_of_ble_eq_true rfl), (Nat.le_of_ble_eq_true rfl)⟩ hl.1 rfl (Nat.le_of_ble_eq_true rfl) ⟨(Nat.le_of_ble_eq_true rfl), (Nat.le_of_ble_eq_true rfl)⟩ rfl dL_works_709 (fun r9 u9 H locs hp9 hP hD hS hz => ?_)
              rcases u9 with ⟨t9, f9, dx9, w1⟩ | u9
              · dsimp only [zwP] at hp9
                obtain ⟨htn, hv0, hfn, hv1, hd9, hv2, hnj, hw7, hr9, hkp, hL1⟩ := hp9
                have e9 := (nI_eq (by omega) (by omega)).mp hv0
                omega
              · dsimp only [zwP] at hp9
                obtain ⟨hr9, hK9, E9, hE9⟩ := hp9
                have hr9 : r9 = (-101) := by rw [hr9, show (kJ (ix (nI (qa)) n) (fun t => ix (nI (fl)) (fc t)) (ix (nI (dv)) 100000) (fun t => decide (nj < 60) && decide ((wl fw (nI t) nj).length < 7))) = 1 from kJ_1 (by rw [ix_nI (by omega), if_neg (by omega)])]; rfl
                subst hr9
                have hP : va_P D vwCl ((lz, zInts cA 20 (fun _ => nI 0)) :: (g 0, zInts cA 4 cf) :: (g 1, zInts cA 24 tf) :: (g 2, zInts cA 24 ff) :: (g 3, zInts cA 10 vf) :: (g 4, zInts cA 40 jj) :: (g 5, zInts cA 20 lt) :: (g 6, zInts cA 20 dd) :: cw) H := hP
                have hD : va_D A ((lz, zInts cA 20 (fun _ => nI 0)) :: (g 0, zInts cA 4 cf) :: (g 1, zInts cA 24 tf) :: (g 2, zInts cA 24 ff) :: (g 3, zInts cA 10 vf) :: (g 4, zInts cA 40 jj) :: (g 5, zInts cA 20 lt) :: (g 6, zInts cA 20 dd) :: cw) := hD
                refine lv_iload hx hb dL_works_712 (lv_at hl 0 rfl) ?_
                refine lv_icmp_ne (tgt := 721) hx hb dL_works_714 (by decide) (fun c_49 => absurd rfl c_49) (fun c_49 => ?_)
                refine lv_iconst (v := bI (true)) hx hb dL_works_717 (by decide) ?_
                refine lv_goto (tgt := 722) hx hb dL_works_718 (by decide) ?_
                have hP := zd_P hP
                have hD := zd_D hD
                have hP : va_P D vwCl ((g 0, zInts cA 4 cf) :: (g 1, zInts cA 24 tf) :: (g 2, zInts cA 24 ff) :: (g 3, zInts cA 10 vf) :: (g 4, zInts cA 40 jj) :: (g 5, zInts cA 20 lt) :: (g 6, zInts cA 20 dd) :: cw) H := hP
                have hD : va_D A ((g 0, zInts cA 4 cf) :: (g 1, zInts cA 24 tf) :: (g 2, zInts cA 24 ff) :: (g 3, zInts cA 10 vf) :: (g 4, zInts cA 40 jj) :: (g 5, zInts cA 20 lt) :: (g 6, zInts cA 20 dd) :: cw) := hD
                exact W.widen (k := 12) (n := 128) (by omega) (by omega) (zr_qz (S := va_W) (post := (fun (r : Int32) (u : va_W) => r = bI true ∧ LV cA ad g u)) (w1 := fun u => u) ((g 0, zInts cA 4 cf) :: (g 1, zInts cA 24 tf) :: (g 2, zInts cA 24 ff) :: (g 3, zInts cA 10 vf) :: (g 4, zInts cA 40 jj) :: (g 5, zInts cA 20 lt) :: (g 6, zInts cA 20 dd) :: cw) hx hb hr hlocks ⟨rfl, ⟨_, _, _, _, _, _, _, _, _, _, _, _, _, _, _, _, _, _, _, _, _, _, _, _, _, _, _, _, _, _, _, _, _, _, _, _, _, _, _, _, cw, rfl, hL, hI, hp⟩⟩ hP hD hS rfl dL_works_722)
          · skip
            refine zf_ne (tgt := 542) hx hb (by omega) dL_works_534 (by decide) (fun c_50 => ?_) (fun c_50 => ?_)
            · refine lv_iload_n hx hb dL_works_542 rfl (lv_at hl 3 rfl) ?_
              refine lv_bipush (v := nI (6)) hx hb dL_works_543 (by decide) ?_
              refine lv_ishr hx hb dL_works_545 ?_
              refine lv_sipush (v := nI (600)) hx hb dL_works_546 (by decide) ?_
              refine zk_S_i (n := 2) (As := [.int ((y) >>> ((nI (6)) &&& 31)), .int (nI (600))]) (rest := []) hx hb hml hts hown hZ hP (c_L_some l D cA _ ((y) >>> ((nI (6)) &&& 31)) 600 (by omega) (by omega)) gL_works_L_some rfl ⟨rfl, rfl⟩ ⟨by decide +kernel, (Nat.le_of_ble_eq_true rfl), (Nat.le_of_ble_eq_true rfl)⟩ hl.1 rfl (Nat.le_of_ble_eq_true rfl) ⟨(Nat.le_of_ble_eq_true rfl), (Nat.le_of_ble_eq_true rfl)⟩ rfl dL_works_549 (fun r4 hr4 => ?_)
              obtain ⟨q4, hq4, hb4⟩ : ∃ z, r4 = nI z ∧ z < 600 := ⟨_, hr4, sm_lt (by omega)⟩
              subst hq4
              exact J552 (q4) ls ⟨lv_sub hl [1, 2, 3, 4, 5, 6, 7, 8, 9, 10, 11, 0] rfl, by omega⟩
            · refine lv_ldc (v := nI 100000) hx hb hown (hts (.constant RL 146 100000) (by decide +kernel)) dL_works_537 ?_
              refine lv_goto (tgt := 552) hx hb dL_works_539 (by decide) ?_
              exact J552 (100000) ls ⟨lv_sub hl [1, 2, 3, 4, 5, 6, 7, 8, 9, 10, 11, 0] rfl, by omega⟩
        · skip
          refine lv_iload hx hb dL_works_474 (lv_at hl 0 rfl) ?_
          refine lv_aload_n hx hb dL_works_476 rfl (lv_at hl 4 rfl) ?_
          refine lv_iconst (v := nI (0)) hx hb dL_works_477 (by decide) ?_
          refine va_iald hx hb hZ.1 hP 0 0 rfl rfl (vp_in_nI (show 0 < 4 by omega) (by omega)) dL_works_478 ?_
          rw [nI_clamp (show 0 < 2 ^ 31 by omega)]
          refine zx_val (y := nI (n)) (c0) ?_
          refine zc_ge (tgt := 521) hx hb (by omega) (by omega) dL_works_479 (by decide) (fun c_51 => ?_) (fun c_51 => ?_)
          · refine lv_bipush (v := nI (6)) hx hb dL_works_521 (by decide) ?_
            exact J523 (6) ls ⟨lv_sub hl [1, 2, 3, 4, 5, 6, 7, 8, 9, 10, 0] rfl, by omega⟩
          · obtain ⟨qa1, qa2, qa3, qa4, qa5, qa6, qa7⟩ := qT qa (by omega)
            refine lv_aload hx hb dL_works_482 (lv_at hl 5 rfl) ?_
            refine lv_bipush (v := nI (20)) hx hb dL_works_484 (by decide) ?_
            refine lv_iload hx hb dL_works_486 (lv_at hl 0 rfl) ?_
            refine zo_add hx hb dL_works_488 ?_
            refine va_iald hx hb hZ.1 hP 1 0 rfl rfl (vp_in_nI (show 20 + qa < 24 by omega) (by omega)) dL_works_489 ?_
            rw [nI_clamp (show 20 + qa < 2 ^ 31 by omega)]
            refine zx_val (y := nI (fc qa)) (qa6) ?_
            refine zf_le (tgt := 521) hx hb (by omega) dL_works_490 (by decide) (fun c_52 => ?_) (fun c_52 => ?_)
            · refine lv_bipush (v := nI (6)) hx hb dL_works_521 (by decide) ?_
              exact J523 (6) ls ⟨lv_sub hl [1, 2, 3, 4, 5, 6, 7, 8, 9, 10, 0] rfl, by omega⟩
            · refine lv_iload_n hx hb dL_works_493 rfl (lv_at hl 3 rfl) ?_
              refine lv_iconst (v := nI (4)) hx hb dL_works_494 (by decide) ?_
              refine lv_ishr hx hb dL_works_495 ?_
              refine lv_bipush (v := nI (9)) hx hb dL_works_496 (by decide) ?_
              refine zk_S_i (n := 2) (As := [.int ((y) >>> ((nI (4)) &&& 31)), .int (nI (9))]) (rest := []) hx hb hml hts hown hZ hP (c_L_some l D cA _ ((y) >>> ((nI (4)) &&& 31)) 9 (by omega) (by omega)) gL_works_L_some rfl ⟨rfl, rfl⟩ ⟨by decide +kernel, (Nat.le_of_ble_eq_true rfl), (Nat.le_of_ble_eq_true rfl)⟩ hl.1 rfl (Nat.le_of_ble_eq_true rfl) ⟨(Nat.le_of_ble_eq_true rfl), (Nat.le_of_ble_eq_true rfl)⟩ rfl dL_works_498 (fun r5 hr5 => ?_)
              obtain ⟨q5, hq5, hb5⟩ : ∃ z, r5 = nI z ∧ z < 9 := ⟨_, hr5, sm_lt (by omega)⟩
              subst hq5
              refine zf_le (tgt := 521) hx hb (by omega) dL_works_501 (by decide) (fun c_53 => ?_) (fun c_53 => ?_)
              · refine lv_bipush (v := nI (6)) hx hb dL_works_521 (by decide) ?_
                exact J523 (6) ls ⟨lv_sub hl [1, 2, 3, 4, 5, 6, 7, 8, 9, 10, 0] rfl, by omega⟩
              · refine lv_iload_n hx hb dL_works_504 rfl (lv_at hl 3 rfl) ?_
                refine lv_iconst (v := nI (5)) hx hb dL_works_505 (by decide) ?_
                refine lv_ishr hx hb dL_works_506 ?_
                refine lv_aload hx hb dL_works_507 (lv_at hl 5 rfl) ?_
                refine lv_bipush (v := nI (20)) hx hb dL_works_509 (by decide) ?_
                refine lv_iload hx hb dL_works_511 (lv_at hl 0 rfl) ?_
                refine zo_add hx hb dL_works_513 ?_
                refine va_iald hx hb hZ.1 hP 1 0 rfl rfl (vp_in_nI (show 20 + qa < 24 by omega) (by omega)) dL_works_514 ?_
                rw [nI_clamp (show 20 + qa < 2 ^ 31 by omega)]
                refine zx_val (y := nI (fc qa)) (qa6) ?_
                refine zk_S_i (n := 2) (As := [.int ((y) >>> ((nI (5)) &&& 31)), .int (nI (fc qa))]) (rest := []) hx hb hml hts hown hZ hP (c_L_some l D cA _ ((y) >>> ((nI (5)) &&& 31)) (fc qa) (by omega) (by omega)) gL_works_L_some rfl ⟨rfl, rfl⟩ ⟨by decide +kernel, (Nat.le_of_ble_eq_true rfl), (Nat.le_of_ble_eq_true rfl)⟩ hl.1 rfl (Nat.le_of_ble_eq_true rfl) ⟨(Nat.le_of_ble_eq_true rfl), (Nat.le_of_ble_eq_true rfl)⟩ rfl dL_works_515 (fun r6 hr6 => ?_)
                obtain ⟨q6, hq6, hb6⟩ : ∃ z, r6 = nI z ∧ z < (fc qa) := ⟨_, hr6, sm_lt (by omega)⟩
                subst hq6
                refine lv_goto (tgt := 523) hx hb dL_works_518 (by decide) ?_
                exact J523 (q6) ls ⟨lv_sub hl [1, 2, 3, 4, 5, 6, 7, 8, 9, 10, 0] rfl, by omega⟩
      · skip
        rcases Nat.lt_or_ge q2 nd with hdn | hdn
        · obtain rfl : bD = true := by rw [hI48]; exact decide_eq_true hdn
          obtain ⟨qv1, qv2, qv3, qv4, qv5⟩ := qV q2 hdn
          obtain ⟨hmk1, hct1, hpn1, hps1⟩ := hID q2 hdn
          rcases hhd : hd q2 with _ | t
          · have qv6 : vf (6 + q2) = -1 := by rw [qv4, hhd]; rfl
            refine lv_iload hx hb dL_works_50 (lv_at hl 0 rfl) ?_
            refine zb_eq (tgt := 70) hx hb dL_works_52 (by decide) (fun c_54 => Bool.noConfusion c_54) (fun c_54 => ?_)
            refine lv_aload hx hb dL_works_55 (lv_at hl 7 rfl) ?_
            refine lv_bipush (v := nI (6)) hx hb dL_works_57 (by decide) ?_
            refine lv_iload hx hb dL_works_59 (lv_at hl 11 rfl) ?_
            refine zo_add hx hb dL_works_61 ?_
            refine va_iald hx hb hZ.1 hP 3 0 rfl rfl (vp_in_nI (show 6 + q2 < 10 by omega) (by omega)) dL_works_62 ?_
            rw [nI_clamp (show 6 + q2 < 2 ^ 31 by omega)]
            refine zx_val (y := (-1)) (qv6) ?_
            refine lv_if_lt (tgt := 70) hx hb dL_works_63 (by decide) (fun c_55 => ?_) (fun c_55 => absurd (by decide) c_55)
            refine lv_iconst (v := bI (false)) hx hb dL_works_70 (by decide) ?_
            refine lv_istore (lv' := [(12, .int (bI (false))), (11, .int (bI (true))), (0, .ref (ad 0)), (1, .int (nI (kd))), (2, .int (y)), (3, .ref (g 0)), (4, .ref (g 1)), (5, .ref (g 2)), (6, .ref (g 3)), (7, .ref (g 4)), (8, .ref (g 5)), (9, .ref (g 6)), (10, .int (nI (q2)))]) hx hb dL_works_71 hl (by decide) rfl (fun ls hl => ?_)
            refine lv_iload hx hb dL_works_73 (lv_at hl 0 rfl) ?_
            refine zb_eq (tgt := 89) hx hb dL_works_75 (by decide) (fun c_56 => ?_) (fun c_56 => Bool.noConfusion c_56)
            refine lv_iconst (v := nI (0)) hx hb dL_works_89 (by decide) ?_
            refine lv_istore (lv' := [(13, .int (nI (0))), (12, .int (bI (false))), (11, .int (bI (true))), (0, .ref (ad 0)), (1, .int (nI (kd))), (2, .int (y)), (3, .ref (g 0)), (4, .ref (g 1)), (5, .ref (g 2)), (6, .ref (g 3)), (7, .ref (g 4)), (8, .ref (g 5)), (9, .ref (g 6)), (10, .int (nI (q2)))]) hx hb dL_works_90 hl (by decide) rfl (fun ls hl => ?_)
            exact J92 () ls (lv_sub hl [3, 4, 5, 6, 7, 8, 9, 10, 11, 12] rfl)
          · have qv6 : vf (6 + q2) = nI t := by rw [qv4, hhd]; rfl
            obtain ⟨htn, hmt1, Pq, hPq1, hPq2⟩ := hps1 t hhd
            obtain ⟨qa1, qa2, qa3, qa4, qa5, qa6, qa7⟩ := qT t htn
            obtain ⟨t1, t2, t3, t4, t5, t6, t7, t8, t9x, t10⟩ := hIT t htn
            have hm8 : tr t * le t ≤ 8 * 200 := Nat.mul_le_mul t2 t4
            have qv7 : vf (8 + q2) = nI Pq := by rw [qv5 t hhd, hPq1]
            obtain ⟨y1, y2, y3, y4, y5, y6, y7, y8, y9, y10, y11, y12, y13, y14, y15, y16, y17⟩ := fb_of hI hp hdn hhd hPq1 hPq2
            have hw5 := qW t htn
            refine lv_iload hx hb dL_works_50 (lv_at hl 0 rfl) ?_
            refine zb_eq (tgt := 70) hx hb dL_works_52 (by decide) (fun c_57 => Bool.noConfusion c_57) (fun c_57 => ?_)
            refine lv_aload hx hb dL_works_55 (lv_at hl 7 rfl) ?_
            refine lv_bipush (v := nI (6)) hx hb dL_works_57 (by decide) ?_
            refine lv_iload hx hb dL_works_59 (lv_at hl 11 rfl) ?_
            refine zo_add hx hb dL_works_61 ?_
            refine va_iald hx hb hZ.1 hP 3 0 rfl rfl (vp_in_nI (show 6 + q2 < 10 by omega) (by omega)) dL_works_62 ?_
            rw [nI_clamp (show 6 + q2 < 2 ^ 31 by omega)]
            refine zx_val (y := nI (t)) (qv6) ?_
            refine zf_lt (tgt := 70) hx hb (by omega) dL_works_63 (by decide) ?_
            refine lv_iconst (v := bI (true)) hx hb dL_works_66 (by decide) ?_
            refine lv_goto (tgt := 71) hx hb dL_works_67 (by decide) ?_
            refine lv_istore (lv' := [(12, .int (bI (true))), (11, .int (bI (true))), (0, .ref (ad 0)), (1, .int (nI (kd))), (2, .int (y)), (3, .ref (g 0)), (4, .ref (g 1)), (5, .ref (g 2)), (6, .ref (g 3)), (7, .ref (g 4)), (8, .ref (g 5)), (9, .ref (g 6)), (10, .int (nI (q2)))]) hx hb dL_works_71 hl (by decide) rfl (fun ls hl => ?_)
            refine lv_iload hx hb dL_works_73 (lv_at hl 0 rfl) ?_
            refine zb_eq (tgt := 89) hx hb dL_works_75 (by decide) (fun c_59 => Bool.noConfusion c_59) (fun c_59 => ?_)
            refine lv_aload hx hb dL_works_78 (lv_at hl 8 rfl) ?_
            refine lv_bipush (v := nI (6)) hx hb dL_works_80 (by decide) ?_
            refine lv_iload hx hb dL_works_82 (lv_at hl 12 rfl) ?_
            refine zo_add hx hb dL_works_84 ?_
            refine va_iald hx hb hZ.1 hP 3 0 rfl rfl (vp_in_nI (show 6 + q2 < 10 by omega) (by omega)) dL_works_85 ?_
            rw [nI_clamp (show 6 + q2 < 2 ^ 31 by omega)]
            refine zx_val (y := nI (t)) (qv6) ?_
            refine lv_goto (tgt := 90) hx hb dL_works_86 (by decide) ?_
            refine lv_istore (lv' := [(13, .int (nI (t))), (12, .int (bI (true))), (11, .int (bI (true))), (0, .ref (ad 0)), (1, .int (nI (kd))), (2, .int (y)), (3, .ref (g 0)), (4, .ref (g 1)), (5, .ref (g 2)), (6, .ref (g 3)), (7, .ref (g 4)), (8, .ref (g 5)), (9, .ref (g 6)), (10, .int (nI (q2)))]) hx hb dL_works_90 hl (by decide) rfl (fun ls hl => ?_)
            exact J92 () ls (lv_sub hl [3, 4, 5, 6, 7, 8, 9, 10, 11, 12] rfl)
        · obtain rfl : bD = false := by rw [hI48]; exact decide_eq_false (Nat.not_lt.mpr hdn)
          refine lv_iload hx hb dL_works_50 (lv_at hl 0 rfl) ?_
          refine zb_eq (tgt := 70) hx hb dL_works_52 (by decide) (fun c_60 => ?_) (fun c_60 => Bool.noConfusion c_60)
          refine lv_iconst (v := bI (false)) hx hb dL_works_70 (by decide) ?_
          refine lv_istore (lv' := [(12, .int (bI (false))), (11, .int (bI (false))), (0, .ref (ad 0)), (1, .int (nI (kd))), (2, .int (y)), (3, .ref (g 0)), (4, .ref (g 1)), (5, .ref (g 2)), (6, .ref (g 3)), (7, .ref (g 4)), (8, .ref (g 5)), (9, .ref (g 6)), (10, .int (nI (q2)))]) hx hb dL_works_71 hl (by decide) rfl (fun ls hl => ?_)
          refine lv_iload hx hb dL_works_73 (lv_at hl 0 rfl) ?_
          refine zb_eq (tgt := 89) hx hb dL_works_75 (by decide) (fun c_61 => ?_) (fun c_61 => Bool.noConfusion c_61)
          refine lv_iconst (v := nI (0)) hx hb dL_works_89 (by decide) ?_
          refine lv_istore (lv' := [(13, .int (nI (0))), (12, .int (bI (false))), (11, .int (bI (false))), (0, .ref (ad 0)), (1, .int (nI (kd))), (2, .int (y)), (3, .ref (g 0)), (4, .ref (g 1)), (5, .ref (g 2)), (6, .ref (g 3)), (7, .ref (g 4)), (8, .ref (g 5)), (9, .ref (g 6)), (10, .int (nI (q2)))]) hx hb dL_works_90 hl (by decide) rfl (fun ls hl => ?_)
          exact J92 () ls (lv_sub hl [3, 4, 5, 6, 7, 8, 9, 10, 11, 12] rfl)
    · skip
      refine lv_iload hx hb dL_works_35 (lv_at hl 0 rfl) ?_
      refine lv_aload_n hx hb dL_works_37 rfl (lv_at hl 4 rfl) ?_
      refine lv_iconst (v := nI (1)) hx hb dL_works_38 (by decide) ?_
      refine va_iald hx hb hZ.1 hP 0 0 rfl rfl (vp_in_nI (show 1 < 4 by omega) (by omega)) dL_works_39 ?_
      rw [nI_clamp (show 1 < 2 ^ 31 by omega)]
      refine zx_val (y := nI (nd)) (c1) ?_
      refine zc_ge (tgt := 47) hx hb (by omega) (by omega) dL_works_40 (by decide) (fun c_62 => ?_) (fun c_62 => ?_)
      · refine lv_iconst (v := bI (false)) hx hb dL_works_47 (by decide) ?_
        exact J48 (false) ls ⟨lv_sub hl [1, 2, 3, 4, 5, 6, 7, 8, 9, 10, 0] rfl, (decide_eq_false (by omega)).symm⟩
      · refine lv_iconst (v := bI (true)) hx hb dL_works_43 (by decide) ?_
        refine lv_goto (tgt := 48) hx hb dL_works_44 (by decide) ?_
        exact J48 (true) ls ⟨lv_sub hl [1, 2, 3, 4, 5, 6, 7, 8, 9, 10, 0] rfl, (decide_eq_true (by omega)).symm⟩
  · skip
    refine zf_eq (tgt := 24) hx hb (by omega) dL_works_15 (by decide) (fun c_63 => ?_) (fun c_63 => ?_)
    · refine lv_iconst (v := nI (1)) hx hb dL_works_24 (by decide) ?_
      refine lv_goto (tgt := 29) hx hb dL_works_25 (by decide) ?_
      exact J29 (1) ls ⟨lv_sub hl [0, 1, 2, 3, 4, 5, 6, 7, 8, 9] rfl, by omega⟩
    · refine lv_aload_n hx hb dL_works_18 rfl (lv_at hl 3 rfl) ?_
      refine lv_iconst (v := nI (1)) hx hb dL_works_19 (by decide) ?_
      refine va_iald hx hb hZ.1 hP 0 0 rfl rfl (vp_in_nI (show 1 < 4 by omega) (by omega)) dL_works_20 ?_
      rw [nI_clamp (show 1 < 2 ^ 31 by omega)]
      refine zx_val (y := nI (nd)) (c1) ?_
      refine zf_ne (tgt := 28) hx hb (by omega) dL_works_21 (by decide) (fun c_64 => ?_) (fun c_64 => ?_)
      · refine lv_iconst (v := nI (0)) hx hb dL_works_28 (by decide) ?_
        exact J29 (0) ls ⟨lv_sub hl [0, 1, 2, 3, 4, 5, 6, 7, 8, 9] rfl, by omega⟩
      · refine lv_iconst (v := nI (1)) hx hb dL_works_24 (by decide) ?_
        refine lv_goto (tgt := 29) hx hb dL_works_25 (by decide) ?_
        exact J29 (1) ls ⟨lv_sub hl [0, 1, 2, 3, 4, 5, 6, 7, 8, 9] rfl, by omega⟩
