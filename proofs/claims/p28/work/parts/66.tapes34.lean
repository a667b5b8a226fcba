set_option maxHeartbeats 4000000 in
set_option maxRecDepth 100000 in
theorem c_L_tapes_3 (l : Launch) (hlt : l.stackTraces = false) (D : va_G) (cA : Nat → ClassId) (sz : Nat) (ad : Nat → Nat) (T : Nat → Nat) (Bd : Nat → Nat) (E : Nat → Nat) (PT : Nat → Nat) (PB : Nat → Nat) (PE : Nat → Nat) (n : Nat) (tr : Nat → Nat) (le : Nat → Nat) (sl : Nat → Nat) (mo : Nat → Option Nat) (la : Nat → Bool) (fc : Nat → Nat) (bo : Nat → Nat → Nat) (nd : Nat) (mk : Nat → Nat) (ck : Nat → Int32) (ct : Nat → Nat) (hd : Nat → Option Nat) (pq : Nat → Int32) (nj : Nat) (fw : Nat → Int32) (jf : Nat → Nat) (dl : Nat → Nat) (dn : Nat) (oc : Nat) (s8 : Nat → Int32) (s9 : Nat → Int32) (s10 : Nat → Int32) (s11 : Nat → Int32) (s12 : Nat → Int32) (cf : Nat → Int32) (tf : Nat → Int32) (ff : Nat → Int32) (vf : Nat → Int32) (jj : Nat → Int32) (lt : Nat → Int32) (dd : Nat → Int32) (jt : Nat → Nat) (fin : Nat → Bool) (g : Nat → Nat) (cw : va_W) (hL : zL cA cw ad T Bd E PT PB PE n tr le sl mo la fc bo nd mk ck ct hd pq nj fw jf dl dn oc s8 s9 s10 s11 s12) (hI : zI n tr le sl mo fc bo nd mk ct hd pq nj fw jf dl) (hp : pL n tr le sl mo la fc bo nd mk ck ct hd pq nj fw jf dl dn cf tf ff vf jj lt dd jt fin) (y : Int32) : Met l yL_tapes wsL_tapes ({ frames := 10, cells := 8, slots := 64, locals := 194 }) (va_Pc [.ref (ad 0), .int (nI (3)), .int (y), .ref (g 0), .ref (g 1), .ref (g 3)] (zMW D cA ((g 0, zInts cA 4 cf) :: (g 1, zInts cA 24 tf) :: (g 2, zInts cA 24 ff) :: (g 3, zInts cA 10 vf) :: (g 4, zInts cA 40 jj) :: (g 5, zInts cA 20 lt) :: (g 6, zInts cA 20 dd) :: cw) sz)) (va_Qi (fun (r : Int32) (u : va_W) => r = bI true ∧ LV cA ad g u) (fun u => zB D (va_A ((g 0, zInts cA 4 cf) :: (g 1, zInts cA 24 tf) :: (g 2, zInts cA 24 ff) :: (g 3, zInts cA 10 vf) :: (g 4, zInts cA 40 jj) :: (g 5, zInts cA 20 lt) :: (g 6, zInts cA 20 dd) :: cw) sz) u) (va_A ((g 0, zInts cA 4 cf) :: (g 1, zInts cA 24 tf) :: (g 2, zInts cA 24 ff) :: (g 3, zInts cA 10 vf) :: (g 4, zInts cA 40 jj) :: (g 5, zInts cA 20 lt) :: (g 6, zInts cA 20 dd) :: cw) sz)) 8 64 (va_A ((g 0, zInts cA 4 cf) :: (g 1, zInts cA 24 tf) :: (g 2, zInts cA 24 ff) :: (g 3, zInts cA 10 vf) :: (g 4, zInts cA 40 jj) :: (g 5, zInts cA 20 lt) :: (g 6, zInts cA 20 dd) :: cw) sz) := by
  refine zOpen (cc := cL_tapes) (maxL := 14) (ret := (some .boolean)) (own := RL) (by decide) rfl rfl (Nat.le_of_ble_eq_true rfl) ?_
  intro p e s m below meth c ls hx hb hr hml hts hown hlocks hnm ⟨⟨⟨hZ, hP, hD0, hsz⟩, hX⟩, hN⟩ hl
  subst hsz
  have hD := hD0.self (sz := s.heap.size)
  generalize hAe : va_A ((g 0, zInts cA 4 cf) :: (g 1, zInts cA 24 tf) :: (g 2, zInts cA 24 ff) :: (g 3, zInts cA 10 vf) :: (g 4, zInts cA 40 jj) :: (g 5, zInts cA 20 lt) :: (g 6, zInts cA 20 dd) :: cw) s.heap.size = A at hD hX ⊢
  have hA : ∀ q : Nat, s.heap.size ≤ q → A q := fun q h => by rw [← hAe]; exact Or.inr h
  have hS : va_S A s.heap s.heap [] := va_S.rf
  have hl : lv_has ls 14 [(0, .ref (ad 0)), (1, .int (nI (3))), (2, .int (y)), (3, .ref (g 0)), (4, .ref (g 1)), (5, .ref (g 3))] := hl
  have hL0 := hL
  have l0 := hL.1.1
  obtain ⟨hn8, hd3, hj60, hIT, hID, hIJ, hIdl, hIw⟩ := id hI
  obtain ⟨⟨hn4, hd2, hj20⟩, ⟨c0, c1, c2, c3⟩, qT, qT0, qF, qV, qV0, qJ, qJ0, qW⟩ := id hp
  refine lv_iload_n hx hb dL_tapes_0 rfl (lv_at hl 2 rfl) ?_
  refine lv_aload_n hx hb dL_tapes_1 rfl (lv_at hl 3 rfl) ?_
  refine lv_iconst (v := nI (0)) hx hb dL_tapes_2 (by decide) ?_
  refine va_iald hx hb hZ.1 hP 0 0 rfl rfl (vp_in_nI (show 0 < 4 by omega) (by omega)) dL_tapes_3 ?_
  rw [nI_clamp (show 0 < 2 ^ 31 by omega)]
  refine zx_val (y := nI (n)) (c0) ?_
  refine lv_iconst (v := nI (1)) hx hb dL_tapes_4 (by decide) ?_
  refine zo_add hx hb dL_tapes_5 ?_
  refine zk_S_i (n := 2) (As := [.int (y), .int (nI (n + 1))]) (rest := []) hx hb hml hts hown hZ hP (c_L_some l D cA _ y (n + 1) (by omega) (by omega)) gL_tapes_L_some rfl ⟨rfl, rfl⟩ ⟨by decide +kernel, (Nat.le_of_ble_eq_true rfl), (Nat.le_of_ble_eq_true rfl)⟩ hl.1 rfl (Nat.le_of_ble_eq_true rfl) ⟨(Nat.le_of_ble_eq_true rfl), (Nat.le_of_ble_eq_true rfl)⟩ rfl dL_tapes_6 (fun r1 hr1 => ?_)
  obtain ⟨q1, hq1, hb1⟩ : ∃ z, r1 = nI z ∧ z < (n + 1) := ⟨_, hr1, sm_lt (by omega)⟩
  subst hq1
  refine lv_iload_n hx hb dL_tapes_9 rfl (lv_at hl 2 rfl) ?_
  refine lv_bipush (v := nI (9)) hx hb dL_tapes_10 (by decide) ?_
  refine lv_ishr hx hb dL_tapes_12 ?_
  refine lv_bipush (v := nI (19)) hx hb dL_tapes_13 (by decide) ?_
  refine zk_S_i (n := 2) (As := [.int ((y) >>> ((nI (9)) &&& 31)), .int (nI (19))]) (rest := [.int (nI (q1))]) hx hb hml hts hown hZ hP (c_L_some l D cA _ ((y) >>> ((nI (9)) &&& 31)) 19 (by omega) (by omega)) gL_tapes_L_some rfl ⟨rfl, rfl⟩ ⟨by decide +kernel, (Nat.le_of_ble_eq_true rfl), (Nat.le_of_ble_eq_true rfl)⟩ hl.1 rfl (Nat.le_of_ble_eq_true rfl) ⟨(Nat.le_of_ble_eq_true rfl), (Nat.le_of_ble_eq_true rfl)⟩ rfl dL_tapes_15 (fun r2 hr2 => ?_)
  obtain ⟨q2, hq2, hb2⟩ : ∃ z, r2 = nI z ∧ z < 19 := ⟨_, hr2, sm_lt (by omega)⟩
  subst hq2
  refine z_join (α := Nat) (pc' := 26) (fun v ls => lv_has ls 14 [(0, .ref (ad 0)), (1, .int (nI (3))), (2, .int (y)), (3, .ref (g 0)), (4, .ref (g 1)), (5, .ref (g 3))] ∧ v ≤ 1) (fun v => [.int (nI (v)), .int (nI (q1))]) ?_ (fun J26 => ?_)
  · intro x1 ls hv
    obtain ⟨hl, hI26⟩ := hv
    have hl : lv_has ls 14 [(0, .ref (ad 0)), (1, .int (nI (3))), (2, .int (y)), (3, .ref (g 0)), (4, .ref (g 1)), (5, .ref (g 3))] := hl
    have hI26 : x1 ≤ 1 := hI26
    obtain ⟨va, hva, hAq⟩ := tapes_va hn4 hb1 hI26
    refine lv_isub hx hb dL_tapes_26 ?_
    refine zx_val (y := va) hva ?_
    refine lv_istore (lv' := [(6, .int (va)), (0, .ref (ad 0)), (1, .int (nI (3))), (2, .int (y)), (3, .ref (g 0)), (4, .ref (g 1)), (5, .ref (g 3))]) hx hb dL_tapes_27 hl (by decide) rfl (fun ls hl => ?_)
    refine z_join (α := Bool) (pc' := 47) (fun bA ls => lv_has ls 14 [(0, .ref (ad 0)), (1, .int (nI (3))), (2, .int (y)), (3, .ref (g 0)), (4, .ref (g 1)), (5, .ref (g 3)), (6, .int (va))] ∧ ((bA = true ∧ ∃ a, a < n ∧ va = nI a) ∨ (bA = false ∧ ∀ j, j < n → va ≠ nI j))) (fun bA => [.int (bI bA)]) ?_ (fun J47 => ?_)
    · intro bA ls hv
      obtain ⟨hl, hAA⟩ := hv
      have hl : lv_has ls 14 [(0, .ref (ad 0)), (1, .int (nI (3))), (2, .int (y)), (3, .ref (g 0)), (4, .ref (g 1)), (5, .ref (g 3)), (6, .int (va))] := hl
      refine lv_istore (lv' := [(7, .int (bI (bA))), (0, .ref (ad 0)), (1, .int (nI (3))), (2, .int (y)), (3, .ref (g 0)), (4, .ref (g 1)), (5, .ref (g 3)), (6, .int (va))]) hx hb dL_tapes_47 hl (by decide) rfl (fun ls hl => ?_)
      refine lv_iload_n hx hb dL_tapes_49 rfl (lv_at hl 3 rfl) ?_
      refine lv_iconst (v := nI (3)) hx hb dL_tapes_50 (by decide) ?_
      refine lv_ishr hx hb dL_tapes_51 ?_
      refine lv_aload_n hx hb dL_tapes_52 rfl (lv_at hl 4 rfl) ?_
      refine lv_iconst (v := nI (1)) hx hb dL_tapes_53 (by decide) ?_
      refine va_iald hx hb hZ.1 hP 0 0 rfl rfl (vp_in_nI (show 1 < 4 by omega) (by omega)) dL_tapes_54 ?_
      rw [nI_clamp (show 1 < 2 ^ 31 by omega)]
      refine zx_val (y := nI (nd)) (c1) ?_
      refine lv_iload_n hx hb dL_tapes_55 rfl (lv_at hl 3 rfl) ?_
      refine lv_bipush (v := nI (7)) hx hb dL_tapes_56 (by decide) ?_
      refine lv_ishr hx hb dL_tapes_58 ?_
      refine lv_bipush (v := nI (9)) hx hb dL_tapes_59 (by decide) ?_
      refine zk_S_i (n := 2) (As := [.int ((y) >>> ((nI (7)) &&& 31)), .int (nI (9))]) (rest := [.int (nI (nd)), .int ((y) >>> ((nI (3)) &&& 31))]) hx hb hml hts hown hZ hP (c_L_some l D cA _ ((y) >>> ((nI (7)) &&& 31)) 9 (by omega) (by omega)) gL_tapes_L_some rfl ⟨rfl, rfl⟩ ⟨by decide +kernel, (Nat.le_of_ble_eq_true rfl), (Nat.le_of_ble_eq_true rfl)⟩ hl.1 rfl (Nat.le_of_ble_eq_true rfl) ⟨(Nat.le_of_ble_eq_true rfl), (Nat.le_of_ble_eq_true rfl)⟩ rfl dL_tapes_61 (fun r3 hr3 => ?_)
      obtain ⟨q3, hq3, hb3⟩ : ∃ z, r3 = nI z ∧ z < 9 := ⟨_, hr3, sm_lt (by omega)⟩
      subst hq3
      refine z_join (α := Nat) (pc' := 78) (fun v ls => lv_has ls 14 [(0, .ref (ad 0)), (1, .int (nI (3))), (2, .int (y)), (3, .ref (g 0)), (4, .ref (g 1)), (5, .ref (g 3)), (6, .int (va)), (7, .int (bI (bA)))] ∧ v ≤ 1 ∧ (nd = 0 → v = 1)) (fun v => [.int (nI (v)), .int (nI (nd)), .int ((y) >>> ((nI (3)) &&& 31))]) ?_ (fun J78 => ?_)
      · intro x2 ls hv
        obtain ⟨hl, hI78⟩ := hv
        have hl : lv_has ls 14 [(0, .ref (ad 0)), (1, .int (nI (3))), (2, .int (y)), (3, .ref (g 0)), (4, .ref (g 1)), (5, .ref (g 3)), (6, .int (va)), (7, .int (bI (bA)))] := hl
        have hI78 : x2 ≤ 1 ∧ (nd = 0 → x2 = 1) := hI78
        refine zo_add hx hb dL_tapes_78 ?_
        obtain ⟨hx2, hx20⟩ := hI78
        refine zk_S_i (n := 2) (As := [.int ((y) >>> ((nI (3)) &&& 31)), .int (nI (nd + x2))]) (rest := []) hx hb hml hts hown hZ hP (c_L_some l D cA _ ((y) >>> ((nI (3)) &&& 31)) (nd + x2) (by omega) (by omega)) gL_tapes_L_some rfl ⟨rfl, rfl⟩ ⟨by decide +kernel, (Nat.le_of_ble_eq_true rfl), (Nat.le_of_ble_eq_true rfl)⟩ hl.1 rfl (Nat.le_of_ble_eq_true rfl) ⟨(Nat.le_of_ble_eq_true rfl), (Nat.le_of_ble_eq_true rfl)⟩ rfl dL_tapes_79 (fun r4 hr4 => ?_)
        obtain ⟨q4, hq4, hb4⟩ : ∃ z, r4 = nI z ∧ z < (nd + x2) := ⟨_, hr4, sm_lt (by omega)⟩
        subst hq4
        refine lv_istore (lv' := [(8, .int (nI (q4))), (0, .ref (ad 0)), (1, .int (nI (3))), (2, .int (y)), (3, .ref (g 0)), (4, .ref (g 1)), (5, .ref (g 3)), (6, .int (va)), (7, .int (bI (bA)))]) hx hb dL_tapes_82 hl (by decide) rfl (fun ls hl => ?_)
        refine z_join (α := Bool) (pc' := 97) (fun v ls => lv_has ls 14 [(0, .ref (ad 0)), (1, .int (nI (3))), (2, .int (y)), (3, .ref (g 0)), (4, .ref (g 1)), (5, .ref (g 3)), (6, .int (va)), (7, .int (bI (bA))), (8, .int (nI (q4)))] ∧ v = decide (q4 < nd)) (fun v => [.int (bI (v))]) ?_ (fun J97 => ?_)
        · intro bD ls hv
          obtain ⟨hl, hI97⟩ := hv
          have hl : lv_has ls 14 [(0, .ref (ad 0)), (1, .int (nI (3))), (2, .int (y)), (3, .ref (g 0)), (4, .ref (g 1)), (5, .ref (g 3)), (6, .int (va)), (7, .int (bI (bA))), (8, .int (nI (q4)))] := hl
          have hI97 : bD = decide (q4 < nd) := hI97
          have hDd : q4 ≤ nd := by omega
          refine lv_istore (lv' := [(9, .int (bI (bD))), (0, .ref (ad 0)), (1, .int (nI (3))), (2, .int (y)), (3, .ref (g 0)), (4, .ref (g 1)), (5, .ref (g 3)), (6, .int (va)), (7, .int (bI (bA))), (8, .int (nI (q4)))]) hx hb dL_tapes_97 hl (by decide) rfl (fun ls hl => ?_)
          refine lv_iload_n hx hb dL_tapes_99 rfl (lv_at hl 2 rfl) ?_
          refine zf_ne (tgt := 290) hx hb (by omega) dL_tapes_100 (by decide) (fun c_1 => ?_) (fun c_1 => False.elim (by omega))
          refine lv_iload_n hx hb dL_tapes_290 rfl (lv_at hl 2 rfl) ?_
          refine lv_iconst (v := nI (1)) hx hb dL_tapes_291 (by decide) ?_
          refine zc_ne (tgt := 392) hx hb (by omega) (by omega) dL_tapes_292 (by decide) (fun c_2 => ?_) (fun c_2 => False.elim (by omega))
          refine lv_iload_n hx hb dL_tapes_392 rfl (lv_at hl 2 rfl) ?_
          refine lv_iconst (v := nI (2)) hx hb dL_tapes_393 (by decide) ?_
          refine zc_ne (tgt := 550) hx hb (by omega) (by omega) dL_tapes_394 (by decide) (fun c_3 => ?_) (fun c_3 => False.elim (by omega))
          refine lv_iload_n hx hb dL_tapes_550 rfl (lv_at hl 2 rfl) ?_
          refine lv_iconst (v := nI (3)) hx hb dL_tapes_551 (by decide) ?_
          refine lv_icmp_ne (tgt := 710) hx hb dL_tapes_552 (by decide) (fun c_4 => absurd rfl c_4) (fun c_4 => ?_)
          rcases Nat.lt_or_ge q4 nd with hdn | hdn
          · obtain rfl : bD = true := by rw [hI97]; exact decide_eq_true hdn
            obtain ⟨qv1, qv2, qv3, qv4, qv5⟩ := qV q4 hdn
            obtain ⟨hmk1, hct1, hpn1, hps1⟩ := hID q4 hdn
            rcases hAA with ⟨rfl, a, han, hva1⟩ | ⟨rfl, hAn⟩
            · rw [hva1] at hl
              obtain ⟨qa1, qa2, qa3, qa4, qa5, qa6, qa7⟩ := qT a han
              obtain ⟨t1, t2, t3, t4, t5, t6, t7, t8, t9x, t10⟩ := hIT a han
              rcases hhd : hd q4 with _ | t
              · have qv6 : vf (6 + q4) = -1 := by rw [qv4, hhd]; rfl
                rcases hmo : mo a with _ | j0
                · have qm : tf (12 + a) = -1 := by rw [qa4, hmo]; rfl
                  cases hla : la a
                  · have qn : tf (16 + a) = bI true := by rw [qa5, hla]; rfl
                    refine lv_iload hx hb dL_tapes_555 (lv_at hl 0 rfl) ?_
                    refine zb_eq (tgt := 602) hx hb dL_tapes_557 (by decide) (fun c_5 => Bool.noConfusion c_5) (fun c_5 => ?_)
                    refine lv_iload hx hb dL_tapes_560 (lv_at hl 8 rfl) ?_
                    refine zb_eq (tgt := 602) hx hb dL_tapes_562 (by decide) (fun c_6 => Bool.noConfusion c_6) (fun c_6 => ?_)
                    refine lv_aload hx hb dL_tapes_565 (lv_at hl 6 rfl) ?_
                    refine lv_bipush (v := nI (6)) hx hb dL_tapes_567 (by decide) ?_
                    refine lv_iload hx hb dL_tapes_569 (lv_at hl 9 rfl) ?_
                    refine zo_add hx hb dL_tapes_571 ?_
                    refine va_iald hx hb hZ.1 hP 3 0 rfl rfl (vp_in_nI (show 6 + q4 < 10 by omega) (by omega)) dL_tapes_572 ?_
                    rw [nI_clamp (show 6 + q4 < 2 ^ 31 by omega)]
                    refine zx_val (y := (-1)) (qv6) ?_
                    refine lv_if_ge (tgt := 602) hx hb dL_tapes_573 (by decide) (fun c_7 => absurd c_7 (by decide)) (fun c_7 => ?_)
                    refine lv_aload hx hb dL_tapes_576 (lv_at hl 5 rfl) ?_
                    refine lv_bipush (v := nI (12)) hx hb dL_tapes_578 (by decide) ?_
                    refine lv_iload hx hb dL_tapes_580 (lv_at hl 7 rfl) ?_
                    refine zo_add hx hb dL_tapes_582 ?_
                    refine va_iald hx hb hZ.1 hP 1 0 rfl rfl (vp_in_nI (show 12 + a < 24 by omega) (by omega)) dL_tapes_583 ?_
                    rw [nI_clamp (show 12 + a < 2 ^ 31 by omega)]
                    refine zx_val (y := (-1)) (qm) ?_
                    refine lv_if_ge (tgt := 602) hx hb dL_tapes_584 (by decide) (fun c_8 => absurd c_8 (by decide)) (fun c_8 => ?_)
                    refine lv_aload hx hb dL_tapes_587 (lv_at hl 5 rfl) ?_
                    refine lv_bipush (v := nI (16)) hx hb dL_tapes_589 (by decide) ?_
                    refine lv_iload hx hb dL_tapes_591 (lv_at hl 7 rfl) ?_
                    refine zo_add hx hb dL_tapes_593 ?_
                    refine va_iald hx hb hZ.1 hP 1 0 rfl rfl (vp_in_nI (show 16 + a < 24 by omega) (by omega)) dL_tapes_594 ?_
                    rw [nI_clamp (show 16 + a < 2 ^ 31 by omega)]
                    refine zx_val (y := bI (true)) (qn) ?_
                    refine zb_ne (tgt := 602) hx hb dL_tapes_595 (by decide) (fun c_9 => ?_) (fun c_9 => Bool.noConfusion c_9)
                    refine lv_iconst (v := bI (false)) hx hb dL_tapes_602 (by decide) ?_
                    refine lv_istore (lv' := [(10, .int (bI (false))), (9, .int (bI (true))), (0, .ref (ad 0)), (1, .int (nI (3))), (2, .int (y)), (3, .ref (g 0)), (4, .ref (g 1)), (5, .ref (g 3)), (6, .int (nI (a))), (7, .int (bI (true))), (8, .int (nI (q4)))]) hx hb dL_tapes_603 hl (by decide) rfl (fun ls hl => ?_)
                    refine lv_iload hx hb dL_tapes_605 (lv_at hl 0 rfl) ?_
                    refine zb_eq (tgt := 658) hx hb dL_tapes_607 (by decide) (fun c_10 => ?_) (fun c_10 => Bool.noConfusion c_10)
                    refine lv_aload_n hx hb dL_tapes_658 rfl (lv_at hl 2 rfl) ?_
                    refine lv_iconst (v := nI (1)) hx hb dL_tapes_659 (by decide) ?_
                    refine lv_iload hx hb dL_tapes_660 (lv_at hl 10 rfl) ?_
                    refine lv_iload hx hb dL_tapes_662 (lv_at hl 8 rfl) ?_
                    refine ze_H_i (n := 4) (mc := 3) (ms := 18) (ws := cw) (es := [(g 0, zInts cA 4 cf), (g 1, zInts cA 24 tf), (g 2, zInts cA 24 ff), (g 3, zInts cA 10 vf), (g 4, zInts cA 40 jj), (g 5, zInts cA 20 lt), (g 6, zInts cA 20 dd)]) (As := [.ref (ad 0), .int (nI (1)), .int (nI (q4)), .int (nI (a))]) (rest := []) hx hb hml hts hown hZ hX hN [0, 1, 2, 3, 4, 5, 6] rfl rfl hP hD hS hA (c_L_two_1 l D cA _ cw (ad 0) _ l0 _ _ _ _ (k2 (ix (nI (q4)) nd) (ix (nI (a)) n) (fun j t => (hd j).isNone && !(mo t).isSome && la t)) (nI (q4)) (nI (a)) (fun sz9 => c_X4_mount l hlt D cA sz9 cw ad T Bd E PT PB PE n tr le sl mo la fc bo nd mk ck ct hd pq nj fw jf dl dn oc s8 s9 s10 s11 s12 hL hI (nI (q4)) (nI (a))) (fun _ _ h => h)) gL_tapes_L_two rfl ⟨rfl, rfl⟩ ⟨by decide +kernel, (Nat.le_of_ble_eq_true rfl), (Nat.le_of_ble_eq_true rfl)⟩ hl.1 rfl (Nat.le_of_ble_eq_true rfl) ⟨(Nat.le_of_ble_eq_true rfl), (Nat.le_of_ble_eq_true rfl)⟩ rfl dL_tapes_664 (fun r9 u9 H locs hp9 hP hD hS hz => ?_)
                    rcases u9 with ⟨j9, t9, w1⟩ | u9
                    · dsimp only [zwP] at hp9
                      obtain ⟨hjn, hv0, htn, hv1, ⟨hhj, hmt, hla9⟩, hr9, hkp, hL1⟩ := hp9
                      have e8 := (nI_eq (by omega) (by omega)).mp hv1
                      rw [← e8, hla] at hla9; cases hla9
                    · dsimp only [zwP] at hp9
                      obtain ⟨hr9, hK9, E9, hE9⟩ := hp9
                      have hr9 : r9 = (-102) := by rw [hr9, show (k2 (ix (nI (q4)) nd) (ix (nI (a)) n) (fun j t => (hd j).isNone && !(mo t).isSome && la t)) = 2 from k2_n (ix_in (by omega) hdn) (ix_in (by omega) han) (by rw [hhd, hmo, hla]; rfl)]; rfl
                      subst hr9
                      have hP : va_P D vwCl ((g 0, zInts cA 4 cf) :: (g 1, zInts cA 24 tf) :: (g 2, zInts cA 24 ff) :: (g 3, zInts cA 10 vf) :: (g 4, zInts cA 40 jj) :: (g 5, zInts cA 20 lt) :: (g 6, zInts cA 20 dd) :: cw) H := hP
                      have hD : va_D A ((g 0, zInts cA 4 cf) :: (g 1, zInts cA 24 tf) :: (g 2, zInts cA 24 ff) :: (g 3, zInts cA 10 vf) :: (g 4, zInts cA 40 jj) :: (g 5, zInts cA 20 lt) :: (g 6, zInts cA 20 dd) :: cw) := hD
                      refine lv_iload hx hb dL_tapes_667 (lv_at hl 1 rfl) ?_
                      refine zb_eq (tgt := 677) hx hb dL_tapes_669 (by decide) (fun c_11 => Bool.noConfusion c_11) (fun c_11 => ?_)
                      refine lv_iload hx hb dL_tapes_672 (lv_at hl 9 rfl) ?_
                      refine zb_ne (tgt := 682) hx hb dL_tapes_674 (by decide) (fun c_12 => ?_) (fun c_12 => Bool.noConfusion c_12)
                      refine lv_iload hx hb dL_tapes_682 (lv_at hl 0 rfl) ?_
                      refine zb_eq (tgt := 699) hx hb dL_tapes_684 (by decide) (fun c_13 => ?_) (fun c_13 => Bool.noConfusion c_13)
                      refine lv_bipush (v := (-102)) hx hb dL_tapes_699 (by decide) ?_
                      refine lv_icmp_ne (tgt := 708) hx hb dL_tapes_701 (by decide) (fun c_14 => absurd rfl c_14) (fun c_14 => ?_)
                      refine lv_iconst (v := bI (true)) hx hb dL_tapes_704 (by decide) ?_
                      refine lv_goto (tgt := 709) hx hb dL_tapes_705 (by decide) ?_
                      exact W.widen (k := 8) (n := 64) (by omega) (by omega) (zr_qz (S := va_W) (post := (fun (r : Int32) (u : va_W) => r = bI true ∧ LV cA ad g u)) (w1 := fun u => u) ((g 0, zInts cA 4 cf) :: (g 1, zInts cA 24 tf) :: (g 2, zInts cA 24 ff) :: (g 3, zInts cA 10 vf) :: (g 4, zInts cA 40 jj) :: (g 5, zInts cA 20 lt) :: (g 6, zInts cA 20 dd) :: cw) hx hb hr hlocks ⟨rfl, ⟨_, _, _, _, _, _, _, _, _, _, _, _, _, _, _, _, _, _, _, _, _, _, _, _, _, _, _, _, _, _, _, _, _, _, _, _, _, _, _, _, cw, rfl, hL, hI, hp⟩⟩ hP hD hS rfl dL_tapes_709)
                  · have qn : tf (16 + a) = bI false := by rw [qa5, hla]; rfl
                    refine lv_iload hx hb dL_tapes_555 (lv_at hl 0 rfl) ?_
                    refine zb_eq (tgt := 602) hx hb dL_tapes_557 (by decide) (fun c_15 => Bool.noConfusion c_15) (fun c_15 => ?_)
                    refine lv_iload hx hb dL_tapes_560 (lv_at hl 8 rfl) ?_
                    refine zb_eq (tgt := 602) hx hb dL_tapes_562 (by decide) (fun c_16 => Bool.noConfusion c_16) (fun c_16 => ?_)
                    refine lv_aload hx hb dL_tapes_565 (lv_at hl 6 rfl) ?_
                    refine lv_bipush (v := nI (6)) hx hb dL_tapes_567 (by decide) ?_
                    refine lv_iload hx hb dL_tapes_569 (lv_at hl 9 rfl) ?_
                    refine zo_add hx hb dL_tapes_571 ?_
                    refine va_iald hx hb hZ.1 hP 3 0 rfl rfl (vp_in_nI (show 6 + q4 < 10 by omega) (by omega)) dL_tapes_572 ?_
                    rw [nI_clamp (show 6 + q4 < 2 ^ 31 by omega)]
                    refine zx_val (y := (-1)) (qv6) ?_
                    refine lv_if_ge (tgt := 602) hx hb dL_tapes_573 (by decide) (fun c_17 => absurd c_17 (by decide)) (fun c_17 => ?_)
                    refine lv_aload hx hb dL_tapes_576 (lv_at hl 5 rfl) ?_
                    refine lv_bipush (v := nI (12)) hx hb dL_tapes_578 (by decide) ?_
                    refine lv_iload hx hb dL_tapes_580 (lv_at hl 7 rfl) ?_
                    refine zo_add hx hb dL_tapes_582 ?_
                    refine va_iald hx hb hZ.1 hP 1 0 rfl rfl (vp_in_nI (show 12 + a < 24 by omega) (by omega)) dL_tapes_583 ?_
                    rw [nI_clamp (show 12 + a < 2 ^ 31 by omega)]
                    refine zx_val (y := (-1)) (qm) ?_
                    refine lv_if_ge (tgt := 602) hx hb dL_tapes_584 (by decide) (fun c_18 => absurd c_18 (by decide)) (fun c_18 => ?_)
                    refine lv_aload hx hb dL_tapes_587 (lv_at hl 5 rfl) ?_
                    refine lv_bipush (v := nI (16)) hx hb dL_tapes_589 (by decide) ?_
                    refine lv_iload hx hb dL_tapes_591 (lv_at hl 7 rfl) ?_
                    refine zo_add hx hb dL_tapes_593 ?_
                    refine va_iald hx hb hZ.1 hP 1 0 rfl rfl (vp_in_nI (show 16 + a < 24 by omega) (by omega)) dL_tapes_594 ?_
                    rw [nI_clamp (show 16 + a < 2 ^ 31 by omega)]
                    refine zx_val (y := bI (false)) (qn) ?_
                    refine zb_ne (tgt := 602) hx hb dL_tapes_595 (by decide) (fun c_19 => Bool.noConfusion c_19) (fun c_19 => ?_)
                    refine lv_iconst (v := bI (true)) hx hb dL_tapes_598 (by decide) ?_
                    refine lv_goto (tgt := 603) hx hb dL_tapes_599 (by decide) ?_
                    refine lv_istore (lv' := [(10, .int (bI (true))), (9, .int (bI (true))), (0, .ref (ad 0)), (1, .int (nI (3))), (2, .int (y)), (3, .ref (g 0)), (4, .ref (g 1)), (5, .ref (g 3)), (6, .int (nI (a))), (7, .int (bI (true))), (8, .int (nI (q4)))]) hx hb dL_tapes_603 hl (by decide) rfl (fun ls hl => ?_)
                    refine lv_iload hx hb dL_tapes_605 (lv_at hl 0 rfl) ?_
                    refine zb_eq (tgt := 658) hx hb dL_tapes_607 (by decide) (fun c_20 => Bool.noConfusion c_20) (fun c_20 => ?_)
                    obtain ⟨hI2, hp2⟩ := J_mount (j := q4) (t := a) (c9 := ck q4 + nI (20 + 2 * dif (4 * q4) (sl a))) hI hp hdn han hhd hmo
                    refine lv_aload hx hb dL_tapes_610 (lv_at hl 7 rfl) ?_
                    refine lv_bipush (v := nI (6)) hx hb dL_tapes_612 (by decide) ?_
                    refine lv_iload hx hb dL_tapes_614 (lv_at hl 10 rfl) ?_
                    refine zo_add hx hb dL_tapes_616 ?_
                    refine lv_iload hx hb dL_tapes_617 (lv_at hl 8 rfl) ?_
                    refine va_iast hx hb hZ.1 hP hD hS 3 0 rfl rfl (vp_in_nI (show 6 + q4 < 10 by omega) (by omega)) dL_tapes_619 (fun H locs hP hD hS => ?_)
                    rw [nI_clamp (show 6 + q4 < 2 ^ 31 by omega)] at hP hD
                    have hP : va_P D vwCl ((g 0, zInts cA 4 cf) :: (g 1, zInts cA 24 tf) :: (g 2, zInts cA 24 ff) :: (g 3, zInts cA 10 (upd vf (6 + q4) (nI (a)))) :: (g 4, zInts cA 40 jj) :: (g 5, zInts cA 20 lt) :: (g 6, zInts cA 20 dd) :: cw) H := hP
                    have hD : va_D A ((g 0, zInts cA 4 cf) :: (g 1, zInts cA 24 tf) :: (g 2, zInts cA 24 ff) :: (g 3, zInts cA 10 (upd vf (6 + q4) (nI (a)))) :: (g 4, zInts cA 40 jj) :: (g 5, zInts cA 20 lt) :: (g 6, zInts cA 20 dd) :: cw) := hD
                    refine lv_aload hx hb dL_tapes_620 (lv_at hl 7 rfl) ?_
                    refine lv_bipush (v := nI (8)) hx hb dL_tapes_622 (by decide) ?_
                    refine lv_iload hx hb dL_tapes_624 (lv_at hl 10 rfl) ?_
                    refine zo_add hx hb dL_tapes_626 ?_
                    refine lv_iconst (v := nI (0)) hx hb dL_tapes_627 (by decide) ?_
                    refine va_iast hx hb hZ.1 hP hD hS 3 0 rfl rfl (vp_in_nI (show 8 + q4 < 10 by omega) (by omega)) dL_tapes_628 (fun H locs hP hD hS => ?_)
                    rw [nI_clamp (show 8 + q4 < 2 ^ 31 by omega)] at hP hD
                    have hP : va_P D vwCl ((g 0, zInts cA 4 cf) :: (g 1, zInts cA 24 tf) :: (g 2, zInts cA 24 ff) :: (g 3, zInts cA 10 (upd (upd vf (6 + q4) (nI (a))) (8 + q4) (nI (0)))) :: (g 4, zInts cA 40 jj) :: (g 5, zInts cA 20 lt) :: (g 6, zInts cA 20 dd) :: cw) H := hP
                    have hD : va_D A ((g 0, zInts cA 4 cf) :: (g 1, zInts cA 24 tf) :: (g 2, zInts cA 24 ff) :: (g 3, zInts cA 10 (upd (upd vf (6 + q4) (nI (a))) (8 + q4) (nI (0)))) :: (g 4, zInts cA 40 jj) :: (g 5, zInts cA 20 lt) :: (g 6, zInts cA 20 dd) :: cw) := hD
                    refine lv_aload hx hb dL_tapes_629 (lv_at hl 7 rfl) ?_
                    refine lv_iconst (v := nI (2)) hx hb dL_tapes_631 (by decide) ?_
                    refine lv_iload hx hb dL_tapes_632 (lv_at hl 10 rfl) ?_
                    refine zo_add hx hb dL_tapes_634 ?_
                    refine lv_dup2_11 hx hb dL_tapes_635 rfl rfl ?_
                    refine va_iald hx hb hZ.1 hP 3 0 rfl rfl (vp_in_nI (show 2 + q4 < 10 by omega) (by omega)) dL_tapes_636 ?_
                    rw [nI_clamp (show 2 + q4 < 2 ^ 31 by omega)]
                    refine zx_val (y := ck q4) (by rw [pk_un (by omega), pk_un (by omega)]; exact qv2) ?_
                    refine lv_aload hx hb dL_tapes_637 (lv_at hl 6 rfl) ?_
                    refine lv_iload hx hb dL_tapes_639 (lv_at hl 10 rfl) ?_
                    refine lv_iload hx hb dL_tapes_641 (lv_at hl 8 rfl) ?_
                    refine zk_S_i (n := 3) (As := [.ref (g 1), .int (nI (q4)), .int (nI (a))]) (rest := [.int (ck q4), .int (nI (2 + q4)), .ref (g 3)]) hx hb hml hts hown hZ hP (c_L_robot l D cA ((g 0, zInts cA 4 cf) :: (g 1, zInts cA 24 tf) :: (g 2, zInts cA 24 ff) :: (g 3, zInts cA 10 (upd (upd vf (6 + q4) (nI (a))) (8 + q4) (nI (0)))) :: (g 4, zInts cA 40 jj) :: (g 5, zInts cA 20 lt) :: (g 6, zInts cA 20 dd) :: cw) 1 (g 1) tf rfl q4 a (sl a) (by first | exact qa3 | (rw [pk_un (by omega)]; exact qa3)) t5 (by omega) (by omega)) gL_tapes_L_robot rfl ⟨rfl, rfl⟩ ⟨by decide +kernel, (Nat.le_of_ble_eq_true rfl), (Nat.le_of_ble_eq_true rfl)⟩ hl.1 rfl (Nat.le_of_ble_eq_true rfl) ⟨(Nat.le_of_ble_eq_true rfl), (Nat.le_of_ble_eq_true rfl)⟩ rfl dL_tapes_643 (fun r5 hr5 => ?_)
                    obtain rfl := show r5 = nI (20 + 2 * dif (4 * q4) (sl a)) from hr5
                    refine lv_iadd hx hb dL_tapes_646 ?_
                    refine va_iast hx hb hZ.1 hP hD hS 3 0 rfl rfl (vp_in_nI (show 2 + q4 < 10 by omega) (by omega)) dL_tapes_647 (fun H locs hP hD hS => ?_)
                    rw [nI_clamp (show 2 + q4 < 2 ^ 31 by omega)] at hP hD
                    have hP : va_P D vwCl ((g 0, zInts cA 4 cf) :: (g 1, zInts cA 24 tf) :: (g 2, zInts cA 24 ff) :: (g 3, zInts cA 10 (upd (upd (upd vf (6 + q4) (nI (a))) (8 + q4) (nI (0))) (2 + q4) ((ck q4) + (nI (20 + 2 * dif (4 * q4) (sl a)))))) :: (g 4, zInts cA 40 jj) :: (g 5, zInts cA 20 lt) :: (g 6, zInts cA 20 dd) :: cw) H := hP
                    have hD : va_D A ((g 0, zInts cA 4 cf) :: (g 1, zInts cA 24 tf) :: (g 2, zInts cA 24 ff) :: (g 3, zInts cA 10 (upd (upd (upd vf (6 + q4) (nI (a))) (8 + q4) (nI (0))) (2 + q4) ((ck q4) + (nI (20 + 2 * dif (4 * q4) (sl a)))))) :: (g 4, zInts cA 40 jj) :: (g 5, zInts cA 20 lt) :: (g 6, zInts cA 20 dd) :: cw) := hD
                    refine lv_aload hx hb dL_tapes_648 (lv_at hl 6 rfl) ?_
                    refine lv_bipush (v := nI (12)) hx hb dL_tapes_650 (by decide) ?_
                    refine lv_iload hx hb dL_tapes_652 (lv_at hl 8 rfl) ?_
                    refine zo_add hx hb dL_tapes_654 ?_
                    refine lv_iload hx hb dL_tapes_655 (lv_at hl 10 rfl) ?_
                    refine va_iast hx hb hZ.1 hP hD hS 1 0 rfl rfl (vp_in_nI (show 12 + a < 24 by omega) (by omega)) dL_tapes_657 (fun H locs hP hD hS => ?_)
                    rw [nI_clamp (show 12 + a < 2 ^ 31 by omega)] at hP hD
                    have hP : va_P D vwCl ((g 0, zInts cA 4 cf) :: (g 1, zInts cA 24 (upd tf (12 + a) (nI (q4)))) :: (g 2, zInts cA 24 ff) :: (g 3, zInts cA 10 (upd (upd (upd vf (6 + q4) (nI (a))) (8 + q4) (nI (0))) (2 + q4) ((ck q4) + (nI (20 + 2 * dif (4 * q4) (sl a)))))) :: (g 4, zInts cA 40 jj) :: (g 5, zInts cA 20 lt) :: (g 6, zInts cA 20 dd) :: cw) H := hP
                    have hD : va_D A ((g 0, zInts cA 4 cf) :: (g 1, zInts cA 24 (upd tf (12 + a) (nI (q4)))) :: (g 2, zInts cA 24 ff) :: (g 3, zInts cA 10 (upd (upd (upd vf (6 + q4) (nI (a))) (8 + q4) (nI (0))) (2 + q4) ((ck q4) + (nI (20 + 2 * dif (4 * q4) (sl a)))))) :: (g 4, zInts cA 40 jj) :: (g 5, zInts cA 20 lt) :: (g 6, zInts cA 20 dd) :: cw) := hD
                    refine lv_aload_n hx hb dL_tapes_658 rfl (lv_at hl 2 rfl) ?_
                    refine lv_iconst (v := nI (1)) hx hb dL_tapes_659 (by decide) ?_
                    refine lv_iload hx hb dL_tapes_660 (lv_at hl 10 rfl) ?_
                    refine lv_iload hx hb dL_tapes_662 (lv_at hl 8 rfl) ?_
                    refine ze_H_i (n := 4) (mc := 3) (ms := 18) (ws := cw) (es := [(g 0, zInts cA 4 cf), (g 1, zInts cA 24 (upd tf (12 + a) (nI (q4)))), (g 2, zInts cA 24 ff), (g 3, zInts cA 10 (upd (upd (upd vf (6 + q4) (nI (a))) (8 + q4) (nI (0))) (2 + q4) ((ck q4) + (nI (20 + 2 * dif (4 * q4) (sl a)))))), (g 4, zInts cA 40 jj), (g 5, zInts cA 20 lt), (g 6, zInts cA 20 dd)]) (As := [.ref (ad 0), .int (nI (1)), .int (nI (q4)), .int (nI (a))]) (rest := []) hx hb hml hts hown hZ hX hN [0, 1, 2, 3, 4, 5, 6] rfl rfl hP hD hS hA (c_L_two_1 l D cA _ cw (ad 0) _ l0 _ _ _ _ (k2 (ix (nI (q4)) nd) (ix (nI (a)) n) (fun j t => (hd j).isNone && !(mo t).isSome && la t)) (nI (q4)) (nI (a)) (fun sz9 => c_X4_mount l hlt D cA sz9 cw ad T Bd E PT PB PE n tr le sl mo la fc bo nd mk ck ct hd pq nj fw jf dl dn oc s8 s9 s10 s11 s12 hL hI (nI (q4)) (nI (a))) (fun _ _ h => h)) gL_tapes_L_two rfl ⟨rfl, rfl⟩ ⟨by decide +kernel, (Nat.le_of_ble_eq_true rfl), (Nat.le_of_ble_eq_true rfl)⟩ hl.1 rfl (Nat.le_of_ble_eq_true rfl) ⟨(Nat.le_of_ble_eq_true rfl), (Nat.le_of_ble_eq_true rfl)⟩ rfl dL_tapes_664 (fun r9 u9 H locs hp9 hP hD hS hz => ?_)
                    rcases u9 with ⟨j9, t9, w1⟩ | u9
                    · dsimp only [zwP] at hp9
                      obtain ⟨hjn, hv0, htn, hv1, ⟨hhj, hmt, hla9⟩, hr9, hkp, hL1⟩ := hp9
                      have e9 := (nI_eq (by omega) (by omega)).mp hv0
                      have e8 := (nI_eq (by omega) (by omega)).mp hv1
                      subst e9; subst e8; subst hr9
                      have hP : va_P D vwCl ((g 0, zInts cA 4 cf) :: (g 1, zInts cA 24 (upd tf (12 + a) (nI (q4)))) :: (g 2, zInts cA 24 ff) :: (g 3, zInts cA 10 (upd (upd (upd vf (6 + q4) (nI (a))) (8 + q4) (nI (0))) (2 + q4) ((ck q4) + (nI (20 + 2 * dif (4 * q4) (sl a)))))) :: (g 4, zInts cA 40 jj) :: (g 5, zInts cA 20 lt) :: (g 6, zInts cA 20 dd) :: w1) H := hP
                      have hD : va_D A ((g 0, zInts cA 4 cf) :: (g 1, zInts cA 24 (upd tf (12 + a) (nI (q4)))) :: (g 2, zInts cA 24 ff) :: (g 3, zInts cA 10 (upd (upd (upd vf (6 + q4) (nI (a))) (8 + q4) (nI (0))) (2 + q4) ((ck q4) + (nI (20 + 2 * dif (4 * q4) (sl a)))))) :: (g 4, zInts cA 40 jj) :: (g 5, zInts cA 20 lt) :: (g 6, zInts cA 20 dd) :: w1) := hD
                      refine lv_iload hx hb dL_tapes_667 (lv_at hl 1 rfl) ?_
                      refine zb_eq (tgt := 677) hx hb dL_tapes_669 (by decide) (fun c_21 => Bool.noConfusion c_21) (fun c_21 => ?_)
                      refine lv_iload hx hb dL_tapes_672 (lv_at hl 9 rfl) ?_
                      refine zb_ne (tgt := 682) hx hb dL_tapes_674 (by decide) (fun c_22 => ?_) (fun c_22 => Bool.noConfusion c_22)
                      refine lv_iload hx hb dL_tapes_682 (lv_at hl 0 rfl) ?_
                      refine zb_eq (tgt := 699) hx hb dL_tapes_684 (by decide) (fun c_23 => Bool.noConfusion c_23) (fun c_23 => ?_)
                      refine lv_aload hx hb dL_tapes_687 (lv_at hl 6 rfl) ?_
                      refine lv_iload hx hb dL_tapes_689 (lv_at hl 10 rfl) ?_
                      refine lv_iload hx hb dL_tapes_691 (lv_at hl 8 rfl) ?_
                      refine zk_S_i (n := 3) (As := [.ref (g 1), .int (nI (q4)), .int (nI (a))]) (rest := [.int (nI (20 + 2 * dif (4 * q4) (sl a)))]) hx hb hml hts hown hZ hP (c_L_robot l D cA ((g 0, zInts cA 4 cf) :: (g 1, zInts cA 24 (upd tf (12 + a) (nI (q4)))) :: (g 2, zInts cA 24 ff) :: (g 3, zInts cA 10 (upd (upd (upd vf (6 + q4) (nI (a))) (8 + q4) (nI (0))) (2 + q4) ((ck q4) + (nI (20 + 2 * dif (4 * q4) (sl a)))))) :: (g 4, zInts cA 40 jj) :: (g 5, zInts cA 20 lt) :: (g 6, zInts cA 20 dd) :: w1) 1 (g 1) (upd tf (12 + a) (nI (q4))) rfl q4 a (sl a) (by first | exact qa3 | (rw [pk_un (by omega)]; exact qa3)) t5 (by omega) (by omega)) gL_tapes_L_robot rfl ⟨rfl, rfl⟩ ⟨by decide +kernel, (Nat.le_of_ble_eq_true rfl), (Nat.le_of_ble_eq_true rfl)⟩ hl.1 rfl (Nat.le_of_ble_eq_true rfl) ⟨(Nat.le_of_ble_eq_true rfl), (Nat.le_of_ble_eq_true rfl)⟩ rfl dL_tapes_693 (fun r6 hr6 => ?_)
                      obtain rfl := show r6 = nI (20 + 2 * dif (4 * q4) (sl a)) from hr6
                      refine lv_goto (tgt := 701) hx hb dL_tapes_696 (by decide) ?_
                      refine lv_icmp_ne (tgt := 708) hx hb dL_tapes_701 (by decide) (fun c_24 => absurd rfl c_24) (fun c_24 => ?_)
                      refine lv_iconst (v := bI (true)) hx hb dL_tapes_704 (by decide) ?_
                      refine lv_goto (tgt := 709) hx hb dL_tapes_705 (by decide) ?_
                      exact W.widen (k := 8) (n := 64) (by omega) (by omega) (zr_qz (S := va_W) (post := (fun (r : Int32) (u : va_W) => r = bI true ∧ LV cA ad g u)) (w1 := fun u => u) ((g 0, zInts cA 4 cf) :: (g 1, zInts cA 24 (upd tf (12 + a) (nI (q4)))) :: (g 2, zInts cA 24 ff) :: (g 3, zInts cA 10 (upd (upd (upd vf (6 + q4) (nI (a))) (8 + q4) (nI (0))) (2 + q4) ((ck q4) + (nI (20 + 2 * dif (4 * q4) (sl a)))))) :: (g 4, zInts cA 40 jj) :: (g 5, zInts cA 20 lt) :: (g 6, zInts cA 20 dd) :: w1) hx hb hr hlocks ⟨rfl, ⟨_, _, _, _, _, _, _, _, _, _, _, _, _, _, _, _, _, _, _, _, _, _, _, _, _, _, _, _, _, _, _, _, _, _, _, _, _, _, _, _, w1, rfl, hL1, hI2, hp2⟩⟩ hP hD hS rfl dL_tapes_709)
                    · exact absurd (show (k2 (ix (nI (q4)) nd) (ix (nI (a)) n) (fun j t => (hd j).isNone && !(mo t).isSome && la t)) = 0 from k2_y (ix_in (by omega) hdn) (ix_in (by omega) han) (by rw [hhd, hmo, hla]; rfl)) hp9.2.1
                · have qm : tf (12 + a) = nI j0 := by rw [qa4, hmo]; rfl
                  have hj9 := (t6 j0 hmo).1
                  refine lv_iload hx hb dL_tapes_555 (lv_at hl 0 rfl) ?_
                  refine zb_eq (tgt := 602) hx hb dL_tapes_557 (by decide) (fun c_25 => Bool.noConfusion c_25) (fun c_25 => ?_)
                  refine lv_iload hx hb dL_tapes_560 (lv_at hl 8 rfl) ?_
                  refine zb_eq (tgt := 602) hx hb dL_tapes_562 (by decide) (fun c_26 => Bool.noConfusion c_26) (fun c_26 => ?_)
                  refine lv_aload hx hb dL_tapes_565 (lv_at hl 6 rfl) ?_
                  refine lv_bipush (v := nI (6)) hx hb dL_tapes_567 (by decide) ?_
                  refine lv_iload hx hb dL_tapes_569 (lv_at hl 9 rfl) ?_
                  refine zo_add hx hb dL_tapes_571 ?_
                  refine va_iald hx hb hZ.1 hP 3 0 rfl rfl (vp_in_nI (show 6 + q4 < 10 by omega) (by omega)) dL_tapes_572 ?_
                  rw [nI_clamp (show 6 + q4 < 2 ^ 31 by omega)]
                  refine zx_val (y := (-1)) (qv6) ?_
                  refine lv_if_ge (tgt := 602) hx hb dL_tapes_573 (by decide) (fun c_27 => absurd c_27 (by decide)) (fun c_27 => ?_)
                  refine lv_aload hx hb dL_tapes_576 (lv_at hl 5 rfl) ?_
                  refine lv_bipush (v := nI (12)) hx hb dL_tapes_578 (by decide) ?_
                  refine lv_iload hx hb dL_tapes_580 (lv_at hl 7 rfl) ?_
                  refine zo_add hx hb dL_tapes_582 ?_
                  refine va_iald hx hb hZ.1 hP 1 0 rfl rfl (vp_in_nI (show 12 + a < 24 by omega) (by omega)) dL_tapes_583 ?_
                  rw [nI_clamp (show 12 + a < 2 ^ 31 by omega)]
                  refine zx_val (y := nI (j0)) (qm) ?_
                  refine zf_ge (tgt := 602) hx hb (by omega) dL_tapes_584 (by decide) ?_
                  refine lv_iconst (v := bI (false)) hx hb dL_tapes_602 (by decide) ?_
                  refine lv_istore (lv' := [(10, .int (bI (false))), (9, .int (bI (true))), (0, .ref (ad 0)), (1, .int (nI (3))), (2, .int (y)), (3, .ref (g 0)), (4, .ref (g 1)), (5, .ref (g 3)), (6, .int (nI (a))), (7, .int (bI (true))), (8, .int (nI (q4)))]) hx hb dL_tapes_603 hl (by decide) rfl (fun ls hl => ?_)
                  refine lv_iload hx hb dL_tapes_605 (lv_at hl 0 rfl) ?_
                  refine zb_eq (tgt := 658) hx hb dL_tapes_607 (by decide) (fun c_29 => ?_) (fun c_29 => Bool.noConfusion c_29)
                  refine lv_aload_n hx hb dL_tapes_658 rfl (lv_at hl 2 rfl) ?_
                  refine lv_iconst (v := nI (1)) hx hb dL_tapes_659 (by decide) ?_
                  refine lv_iload hx hb dL_tapes_660 (lv_at hl 10 rfl) ?_
                  refine lv_iload hx hb dL_tapes_662 (lv_at hl 8 rfl) ?_
                  refine ze_H_i (n := 4) (mc := 3) (ms := 18) (ws := cw) (es := [(g 0, zInts cA 4 cf), (g 1, zInts cA 24 tf), (g 2, zInts cA 24 ff), (g 3, zInts cA 10 vf), (g 4, zInts cA 40 jj), (g 5, zInts cA 20 lt), (g 6, zInts cA 20 dd)]) (As := [.ref (ad 0), .int (nI (1)), .int (nI (q4)), .int (nI (a))]) (rest := []) hx hb hml hts hown hZ hX hN [0, 1, 2, 3, 4, 5, 6] rfl rfl hP hD hS hA (c_L_two_1 l D cA _ cw (ad 0) _ l0 _ _ _ _ (k2 (ix (nI (q4)) nd) (ix (nI (a)) n) (fun j t => (hd j).isNone && !(mo t).isSome && la t)) (nI (q4)) (nI (a)) (fun sz9 => c_X4_mount l hlt D cA sz9 cw ad T Bd E PT PB PE n tr le sl mo la fc bo nd mk ck ct hd pq nj fw jf dl dn oc s8 s9 s10 s11 s12 hL hI (nI (q4)) (nI (a))) (fun _ _ h => h)) gL_tapes_L_two rfl ⟨rfl, rfl⟩ ⟨by decide +kernel, (Nat.le_of_ble_eq_true rfl), (Nat.le_of_ble_eq_true rfl)⟩ hl.1 rfl (Nat.le_of_ble_eq_true rfl) ⟨(Nat.le_of_ble_eq_true rfl), (Nat.le_of_ble_eq_true rfl)⟩ rfl dL_tapes_664 (fun r9 u9 H locs hp9 hP hD hS hz => ?_)
                  rcases u9 with ⟨j9, t9, w1⟩ | u9
                  · dsimp only [zwP] at hp9
                    obtain ⟨hjn, hv0, htn, hv1, ⟨hhj, hmt, hla9⟩, hr9, hkp, hL1⟩ := hp9
                    have e8 := (nI_eq (by omega) (by omega)).mp hv1
                    rw [← e8, hmo] at hmt; cases hmt
                  · dsimp only [zwP] at hp9
                    obtain ⟨hr9, hK9, E9, hE9⟩ := hp9
                    have hr9 : r9 = (-102) := by rw [hr9, show (k2 (ix (nI (q4)) nd) (ix (nI (a)) n) (fun j t => (hd j).isNone && !(mo t).isSome && la t)) = 2 from k2_n (ix_in (by omega) hdn) (ix_in (by omega) han) (by rw [hhd, hmo]; rfl)]; rfl
                    subst hr9
                    have hP : va_P D vwCl ((g 0, zInts cA 4 cf) :: (g 1, zInts cA 24 tf) :: (g 2, zInts cA 24 ff) :: (g 3, zInts cA 10 vf) :: (g 4, zInts cA 40 jj) :: (g 5, zInts cA 20 lt) :: (g 6, zInts cA 20 dd) :: cw) H := hP
                    have hD : va_D A ((g 0, zInts cA 4 cf) :: (g 1, zInts cA 24 tf) :: (g 2, zInts cA 24 ff) :: (g 3, zInts cA 10 vf) :: (g 4, zInts cA 40 jj) :: (g 5, zInts cA 20 lt) :: (g 6, zInts cA 20 dd) :: cw) := hD
                    refine lv_iload hx hb dL_tapes_667 (lv_at hl 1 rfl) ?_
                    refine zb_eq (tgt := 677) hx hb dL_tapes_669 (by decide) (fun c_30 => Bool.noConfusion c_30) (fun c_30 => ?_)
                    refine lv_iload hx hb dL_tapes_672 (lv_at hl 9 rfl) ?_
                    refine zb_ne (tgt := 682) hx hb dL_tapes_674 (by decide) (fun c_31 => ?_) (fun c_31 => Bool.noConfusion c_31)
                    refine lv_iload hx hb dL_tapes_682 (lv_at hl 0 rfl) ?_
                    refine zb_eq (tgt := 699) hx hb dL_tapes_684 (by decide) (fun c_32 => ?_) (fun c_32 => Bool.noConfusion c_32)
                    refine lv_bipush (v := (-102)) hx hb dL_tapes_699 (by decide) ?_
                    refine lv_icmp_ne (tgt := 708) hx hb dL_tapes_701 (by decide) (fun c_33 => absurd rfl c_33) (fun c_33 => ?_)
                    refine lv_iconst (v := bI (true)) hx hb dL_tapes_704 (by decide) ?_
                    refine lv_goto (tgt := 709) hx hb dL_tapes_705 (by decide) ?_
                    exact W.widen (k := 8) (n := 64) (by omega) (by omega) (zr_qz (S := va_W) (post := (fun (r : Int32) (u : va_W) => r = bI true ∧ LV cA ad g u)) (w1 := fun u => u) ((g 0, zInts cA 4 cf) :: (g 1, zInts cA 24 tf) :: (g 2, zInts cA 24 ff) :: (g 3, zInts cA 10 vf) :: (g 4, zInts cA 40 jj) :: (g 5, zInts cA 20 lt) :: (g 6, zInts cA 20 dd) :: cw) hx hb hr hlocks ⟨rfl, ⟨_, _, _, _, _, _, _, _, _, _, _, _, _, _, _, _, _, _, _, _, _, _, _, _, _, _, _, _, _, _, _, _, _, _, _, _, _, _, _, _, cw, rfl, hL, hI, hp⟩⟩ hP hD hS rfl dL_tapes_709)
              · have qv6 : vf (6 + q4) = nI t := by rw [qv4, hhd]; rfl
                obtain ⟨htn, hmt1, Pq, hPq1, hPq2⟩ := hps1 t hhd
                obtain ⟨qa1, qa2, qa3, qa4, qa5, qa6, qa7⟩ := qT t htn
                obtain ⟨t1, t2, t3, t4, t5, t6, t7, t8, t9x, t10⟩ := hIT t htn
                have hm8 : tr t * le t ≤ 8 * 200 := Nat.mul_le_mul t2 t4
                have qv7 : vf (8 + q4) = nI Pq := by rw [qv5 t hhd, hPq1]
                refine lv_iload hx hb dL_tapes_555 (lv_at hl 0 rfl) ?_
                refine zb_eq (tgt := 602) hx hb dL_tapes_557 (by decide) (fun c_34 => Bool.noConfusion c_34) (fun c_34 => ?_)
                refine lv_iload hx hb dL_tapes_560 (lv_at hl 8 rfl) ?_
                refine zb_eq (tgt := 602) hx hb dL_tapes_562 (by decide) (fun c_35 => Bool.noConfusion c_35) (fun c_35 => ?_)
                refine lv_aload hx hb dL_tapes_565 (lv_at hl 6 rfl) ?_
                refine lv_bipush (v := nI (6)) hx hb dL_tapes_567 (by decide) ?_
                refine lv_iload hx hb dL_tapes_569 (lv_at hl 9 rfl) ?_
                refine zo_add hx hb dL_tapes_571 ?_
                refine va_iald hx hb hZ.1 hP 3 0 rfl rfl (vp_in_nI (show 6 + q4 < 10 by omega) (by omega)) dL_tapes_572 ?_
                rw [nI_clamp (show 6 + q4 < 2 ^ 31 by omega)]
                refine zx_val (y := nI (t)) (qv6) ?_
                refine zf_ge (tgt := 602) hx hb (by omega) dL_tapes_573 (by decide) ?_
                refine lv_iconst (v := bI (false)) hx hb dL_tapes_602 (by decide) ?_
                refine lv_istore (lv' := [(10, .int (bI (false))), (9, .int (bI (true))), (0, .ref (ad 0)), (1, .int (nI (3))), (2, .int (y)), (3, .ref (g 0)), (4, .ref (g 1)), (5, .ref (g 3)), (6, .int (nI (a))), (7, .int (bI (true))), (8, .int (nI (q4)))]) hx hb dL_tapes_603 hl (by decide) rfl (fun ls hl => ?_)
                refine lv_iload hx hb dL_tapes_605 (lv_at hl 0 rfl) ?_
                refine zb_eq (tgt := 658) hx hb dL_tapes_607 (by decide) (fun c_37 => ?_) (fun c_37 => Bool.noConfusion c_37)
                refine lv_aload_n hx hb dL_tapes_658 rfl (lv_at hl 2 rfl) ?_
                refine lv_iconst (v := nI (1)) hx hb dL_tapes_659 (by decide) ?_
                refine lv_iload hx hb dL_tapes_660 (lv_at hl 10 rfl) ?_
                refine lv_iload hx hb dL_tapes_662 (lv_at hl 8 rfl) ?_
                refine ze_H_i (n := 4) (mc := 3) (ms := 18) (ws := cw) (es := [(g 0, zInts cA 4 cf), (g 1, zInts cA 24 tf), (g 2, zInts cA 24 ff), (g 3, zInts cA 10 vf), (g 4, zInts cA 40 jj), (g 5, zInts cA 20 lt), (g 6, zInts cA 20 dd)]) (As := [.ref (ad 0), .int (nI (1)), .int (nI (q4)), .int (nI (a))]) (rest := []) hx hb hml hts hown hZ hX hN [0, 1, 2, 3, 4, 5, 6] rfl rfl hP hD hS hA (c_L_two_1 l D cA _ cw (ad 0) _ l0 _ _ _ _ (k2 (ix (nI (q4)) nd) (ix (nI (a)) n) (fun j t => (hd j).isNone && !(mo t).isSome && la t)) (nI (q4)) (nI (a)) (fun sz9 => c_X4_mount l hlt D cA sz9 cw ad T Bd E PT PB PE n tr le sl mo la fc bo nd mk ck ct hd pq nj fw jf dl dn oc s8 s9 s10 s11 s12 hL hI (nI (q4)) (nI (a))) (fun _ _ h => h)) gL_tapes_L_two rfl ⟨rfl, rfl⟩ ⟨by decide +kernel, (Nat.le_of_ble_eq_true rfl), (Nat.le_of_ble_eq_true rfl)⟩ hl.1 rfl (Nat.le_of_ble_eq_true rfl) ⟨(Nat.le_of_ble_eq_true rfl), (Nat.le_of_ble_eq_true rfl)⟩ rfl dL_tapes_664 (fun r9 u9 H locs hp9 hP hD hS hz => ?_)
                rcases u9 with ⟨j9, t9, w1⟩ | u9
                · dsimp only [zwP] at hp9
                  obtain ⟨hjn, hv0, htn, hv1, ⟨hhj, hmt, hla9⟩, hr9, hkp, hL1⟩ := hp9
                  have e9 := (nI_eq (by omega) (by omega)).mp hv0
                  rw [← e9, hhd] at hhj; cases hhj
                · dsimp only [zwP] at hp9
                  obtain ⟨hr9, hK9, E9, hE9⟩ := hp9
                  have hr9 : r9 = (-102) := by rw [hr9, show (k2 (ix (nI (q4)) nd) (ix (nI (a)) n) (fun j t => (hd j).isNone && !(mo t).isSome && la t)) = 2 from k2_n (ix_in (by omega) hdn) (ix_in (by omega) han) (by rw [hhd]; rfl)]; rfl
                  subst hr9
                  have hP : va_P D vwCl ((g 0, zInts cA 4 cf) :: (g 1, zInts cA 24 tf) :: (g 2, zInts cA 24 ff) :: (g 3, zInts cA 10 vf) :: (g 4, zInts cA 40 jj) :: (g 5, zInts cA 20 lt) :: (g 6, zInts cA 20 dd) :: cw) H := hP
                  have hD : va_D A ((g 0, zInts cA 4 cf) :: (g 1, zInts cA 24 tf) :: (g 2, zInts cA 24 ff) :: (g 3, zInts cA 10 vf) :: (g 4, zInts cA 40 jj) :: (g 5, zInts cA 20 lt) :: (g 6, zInts cA 20 dd) :: cw) := hD
                  refine lv_iload hx hb dL_tapes_667 (lv_at hl 1 rfl) ?_
                  refine zb_eq (tgt := 677) hx hb dL_tapes_669 (by decide) (fun c_38 => Bool.noConfusion c_38) (fun c_38 => ?_)
                  refine lv_iload hx hb dL_tapes_672 (lv_at hl 9 rfl) ?_
                  refine zb_ne (tgt := 682) hx hb dL_tapes_674 (by decide) (fun c_39 => ?_) (fun c_39 => Bool.noConfusion c_39)
                  refine lv_iload hx hb dL_tapes_682 (lv_at hl 0 rfl) ?_
                  refine zb_eq (tgt := 699) hx hb dL_tapes_684 (by decide) (fun c_40 => ?_) (fun c_40 => Bool.noConfusion c_40)
                  refine lv_bipush (v := (-102)) hx hb dL_tapes_699 (by decide) ?_
                  refine lv_icmp_ne (tgt := 708) hx hb dL_tapes_701 (by decide) (fun c_41 => absurd rfl c_41) (fun c_41 => ?_)
                  refine lv_iconst (v := bI (true)) hx hb dL_tapes_704 (by decide) ?_
                  refine lv_goto (tgt := 709) hx hb dL_tapes_705 (by decide) ?_
                  exact W.widen (k := 8) (n := 64) (by omega) (by omega) (zr_qz (S := va_W) (post := (fun (r : Int32) (u : va_W) => r = bI true ∧ LV cA ad g u)) (w1 := fun u => u) ((g 0, zInts cA 4 cf) :: (g 1, zInts cA 24 tf) :: (g 2, zInts cA 24 ff) :: (g 3, zInts cA 10 vf) :: (g 4, zInts cA 40 jj) :: (g 5, zInts cA 20 lt) :: (g 6, zInts cA 20 dd) :: cw) hx hb hr hlocks ⟨rfl, ⟨_, _, _, _, _, _, _, _, _, _, _, _, _, _, _, _, _, _, _, _, _, _, _, _, _, _, _, _, _, _, _, _, _, _, _, _, _, _, _, _, cw, rfl, hL, hI, hp⟩⟩ hP hD hS rfl dL_tapes_709)
            · refine lv_iload hx hb dL_tapes_555 (lv_at hl 0 rfl) ?_
              refine zb_eq (tgt := 602) hx hb dL_tapes_557 (by decide) (fun c_42 => Bool.noConfusion c_42) (fun c_42 => ?_)
              refine lv_iload hx hb dL_tapes_560 (lv_at hl 8 rfl) ?_
              refine zb_eq (tgt := 602) hx hb dL_tapes_562 (by decide) (fun c_43 => ?_) (fun c_43 => Bool.noConfusion c_43)
              refine lv_iconst (v := bI (false)) hx hb dL_tapes_602 (by decide) ?_
              refine lv_istore (lv' := [(10, .int (bI (false))), (9, .int (bI (true))), (0, .ref (ad 0)), (1, .int (nI (3))), (2, .int (y)), (3, .ref (g 0)), (4, .ref (g 1)), (5, .ref (g 3)), (6, .int (va)), (7, .int (bI (false))), (8, .int (nI (q4)))]) hx hb dL_tapes_603 hl (by decide) rfl (fun ls hl => ?_)
              refine lv_iload hx hb dL_tapes_605 (lv_at hl 0 rfl) ?_
              refine zb_eq (tgt := 658) hx hb dL_tapes_607 (by decide) (fun c_44 => ?_) (fun c_44 => Bool.noConfusion c_44)
              refine lv_aload_n hx hb dL_tapes_658 rfl (lv_at hl 2 rfl) ?_
              refine lv_iconst (v := nI (1)) hx hb dL_tapes_659 (by decide) ?_
              refine lv_iload hx hb dL_tapes_660 (lv_at hl 10 rfl) ?_
              refine lv_iload hx hb dL_tapes_662 (lv_at hl 8 rfl) ?_
              refine ze_H_i (n := 4) (mc := 3) (ms := 18) (ws := cw) (es := [(g 0, zInts cA 4 cf), (g 1, zInts cA 24 tf), (g 2, zInts cA 24 ff), (g 3, zInts cA 10 vf), (g 4, zInts cA 40 jj), (g 5, zInts cA 20 lt), (g 6, zInts cA 20 dd)]) (As := [.ref (ad 0), .int (nI (1)), .int (nI (q4)), .int (va)]) (rest := []) hx hb hml hts hown hZ hX hN [0, 1, 2, 3, 4, 5, 6] rfl rfl hP hD hS hA (c_L_two_1 l D cA _ cw (ad 0) _ l0 _ _ _ _ (k2 (ix (nI (q4)) nd) (ix va n) (fun j t => (hd j).isNone && !(mo t).isSome && la t)) (nI (q4)) va (fun sz9 => c_X4_mount l hlt D cA sz9 cw ad T Bd E PT PB PE n tr le sl mo la fc bo nd mk ck ct hd pq nj fw jf dl dn oc s8 s9 s10 s11 s12 hL hI (nI (q4)) va) (fun _ _ h => h)) gL_tapes_L_two rfl ⟨rfl, rfl⟩ ⟨by decide +kernel, (Nat.le_of_ble_eq_true rfl), (Nat.le_of_ble_eq_true rfl)⟩ hl.1 rfl (Nat.le_of_ble_eq_true rfl) ⟨(Nat.le_of_ble_eq_true rfl), (Nat.le_of_ble_eq_true rfl)⟩ rfl dL_tapes_664 (fun r9 u9 H locs hp9 hP hD hS hz => ?_)
              rcases u9 with ⟨j9, t9, w1⟩ | u9
              · dsimp only [zwP] at hp9
                obtain ⟨hjn, hv0, htn, hv1, ⟨hhj, hmt, hla9⟩, hr9, hkp, hL1⟩ := hp9
                exact absurd hv1 (hAn t9 htn)
              · dsimp only [zwP] at hp9
                obtain ⟨hr9, hK9, E9, hE9⟩ := hp9
                have hr9 : r9 = (-101) := by rw [hr9, show (k2 (ix (nI (q4)) nd) (ix va n) (fun j t => (hd j).isNone && !(mo t).isSome && la t)) = 1 from k2_r (ix_none (by omega) hAn)]; rfl
                subst hr9
                have hP : va_P D vwCl ((g 0, zInts cA 4 cf) :: (g 1, zInts cA 24 tf) :: (g 2, zInts cA 24 ff) :: (g 3, zInts cA 10 vf) :: (g 4, zInts cA 40 jj) :: (g 5, zInts cA 20 lt) :: (g 6, zInts cA 20 dd) :: cw) H := hP
                have hD : va_D A ((g 0, zInts cA 4 cf) :: (g 1, zInts cA 24 tf) :: (g 2, zInts cA 24 ff) :: (g 3, zInts cA 10 vf) :: (g 4, zInts cA 40 jj) :: (g 5, zInts cA 20 lt) :: (g 6, zInts cA 20 dd) :: cw) := hD
                refine lv_iload hx hb dL_tapes_667 (lv_at hl 1 rfl) ?_
                refine zb_eq (tgt := 677) hx hb dL_tapes_669 (by decide) (fun c_45 => Bool.noConfusion c_45) (fun c_45 => ?_)
                refine lv_iload hx hb dL_tapes_672 (lv_at hl 9 rfl) ?_
                refine zb_ne (tgt := 682) hx hb dL_tapes_674 (by decide) (fun c_46 => Bool.noConfusion c_46) (fun c_46 => ?_)
                refine lv_bipush (v := (-101)) hx hb dL_tapes_677 (by decide) ?_
                refine lv_goto (tgt := 701) hx hb dL_tapes_679 (by decide) ?_
                refine lv_icmp_ne (tgt := 708) hx hb dL_tapes_701 (by decide) (fun c_47 => absurd rfl c_47) (fun c_47 => ?_)
                refine lv_iconst (v := bI (true)) hx hb dL_tapes_704 (by decide) ?_
                refine lv_goto (tgt := 709) hx hb dL_tapes_705 (by decide) ?_
                exact W.widen (k := 8) (n := 64) (by omega) (by omega) (zr_qz (S := va_W) (post := (fun (r : Int32) (u : va_W) => r = bI true ∧ LV cA ad g u)) (w1 := fun u => u) ((g 0, zInts cA 4 cf) :: (g 1, zInts cA 24 tf) :: (g 2, zInts cA 24 ff) :: (g 3, zInts cA 10 vf) :: (g 4, zInts cA 40 jj) :: (g 5, zInts cA 20 lt) :: (g 6, zInts cA 20 dd) :: cw) hx hb hr hlocks ⟨rfl, ⟨_, _, _, _, _, _, _, _, _, _, _, _, _, _, _, _, _, _, _, _, _, _, _, _, _, _, _, _, _, _, _, _, _, _, _, _, _, _, _, _, cw, rfl, hL, hI, hp⟩⟩ hP hD hS rfl dL_tapes_709)
          · obtain rfl : bD = false := by rw [hI97]; exact decide_eq_false (Nat.not_lt.mpr hdn)
            refine lv_iload hx hb dL_tapes_555 (lv_at hl 0 rfl) ?_
            refine zb_eq (tgt := 602) hx hb dL_tapes_557 (by decide) (fun c_48 => ?_) (fun c_48 => Bool.noConfusion c_48)
            refine lv_iconst (v := bI (false)) hx hb dL_tapes_602 (by decide) ?_
            refine lv_istore (lv' := [(10, .int (bI (false))), (9, .int (bI (false))), (0, .ref (ad 0)), (1, .int (nI (3))), (2, .int (y)), (3, .ref (g 0)), (4, .ref (g 1)), (5, .ref (g 3)), (6, .int (va)), (7, .int (bI (bA))), (8, .int (nI (q4)))]) hx hb dL_tapes_603 hl (by decide) rfl (fun ls hl => ?_)
            refine lv_iload hx hb dL_tapes_605 (lv_at hl 0 rfl) ?_
            refine zb_eq (tgt := 658) hx hb dL_tapes_607 (by decide) (fun c_49 => ?_) (fun c_49 => Bool.noConfusion c_49)
            refine lv_aload_n hx hb dL_tapes_658 rfl (lv_at hl 2 rfl) ?_
            refine lv_iconst (v := nI (1)) hx hb dL_tapes_659 (by decide) ?_
            refine lv_iload hx hb dL_tapes_660 (lv_at hl 10 rfl) ?_
            refine lv_iload hx hb dL_tapes_662 (lv_at hl 8 rfl) ?_
            refine ze_H_i (n := 4) (mc := 3) (ms := 18) (ws := cw) (es := [(g 0, zInts cA 4 cf), (g 1, zInts cA 24 tf), (g 2, zInts cA 24 ff), (g 3, zInts cA 10 vf), (g 4, zInts cA 40 jj), (g 5, zInts cA 20 lt), (g 6, zInts cA 20 dd)]) (As := [.ref (ad 0), .int (nI (1)), .int (nI (q4)), .int (va)]) (rest := []) hx hb hml hts hown hZ hX hN [0, 1, 2, 3, 4, 5, 6] rfl rfl hP hD hS hA (c_L_two_1 l D cA _ cw (ad 0) _ l0 _ _ _ _ (k2 (ix (nI (q4)) nd) (ix va n) (fun j t => (hd j).isNone && !(mo t).isSome && la t)) (nI (q4)) va (fun sz9 => c_X4_mount l hlt D cA sz9 cw ad T Bd E PT PB PE n tr le sl mo la fc bo nd mk ck ct hd pq nj fw jf dl dn oc s8 s9 s10 s11 s12 hL hI (nI (q4)) va) (fun _ _ h => h)) gL_tapes_L_two rfl ⟨rfl, rfl⟩ ⟨by decide +kernel, (Nat.le_of_ble_eq_true rfl), (Nat.le_of_ble_eq_true rfl)⟩ hl.1 rfl (Nat.le_of_ble_eq_true rfl) ⟨(Nat.le_of_ble_eq_true rfl), (Nat.le_of_ble_eq_true rfl)⟩ rfl dL_tapes_664 (fun r9 u9 H locs hp9 hP hD hS hz => ?_)
            rcases u9 with ⟨j9, t9, w1⟩ | u9
            · dsimp only [zwP] at hp9
              obtain ⟨hjn, hv0, htn, hv1, ⟨hhj, hmt, hla9⟩, hr9, hkp, hL1⟩ := hp9
              have e9 := (nI_eq (by omega) (by omega)).mp hv0
              omega
            · dsimp only [zwP] at hp9
              obtain ⟨hr9, hK9, E9, hE9⟩ := hp9
              have hr9 : r9 = (-101) := by rw [hr9, show (k2 (ix (nI (q4)) nd) (ix va n) (fun j t => (hd j).isNone && !(mo t).isSome && la t)) = 1 from k2_l (by rw [ix_nI (by omega), if_neg (by omega)])]; rfl
              subst hr9
              have hP : va_P D vwCl ((g 0, zInts cA 4 cf) :: (g 1, zInts cA 24 tf) :: (g 2, zInts cA 24 ff) :: (g 3, zInts cA 10 vf) :: (g 4, zInts cA 40 jj) :: (g 5, zInts cA 20 lt) :: (g 6, zInts cA 20 dd) :: cw) H := hP
              have hD : va_D A ((g 0, zInts cA 4 cf) :: (g 1, zInts cA 24 tf) :: (g 2, zInts cA 24 ff) :: (g 3, zInts cA 10 vf) :: (g 4, zInts cA 40 jj) :: (g 5, zInts cA 20 lt) :: (g 6, zInts cA 20 dd) :: cw) := hD
              refine lv_iload hx hb dL_tapes_667 (lv_at hl 1 rfl) ?_
              refine zb_eq (tgt := 677) hx hb dL_tapes_669 (by decide) (fun c_50 => ?_) (fun c_50 => Bool.noConfusion c_50)
              refine lv_bipush (v := (-101)) hx hb dL_tapes_677 (by decide) ?_
              refine lv_goto (tgt := 701) hx hb dL_tapes_679 (by decide) ?_
              refine lv_icmp_ne (tgt := 708) hx hb dL_tapes_701 (by decide) (fun c_51 => absurd rfl c_51) (fun c_51 => ?_)
              refine lv_iconst (v := bI (true)) hx hb dL_tapes_704 (by decide) ?_
              refine lv_goto (tgt := 709) hx hb dL_tapes_705 (by decide) ?_
              exact W.widen (k := 8) (n := 64) (by omega) (by omega) (zr_qz (S := va_W) (post := (fun (r : Int32) (u : va_W) => r = bI true ∧ LV cA ad g u)) (w1 := fun u => u) ((g 0, zInts cA 4 cf) :: (g 1, zInts cA 24 tf) :: (g 2, zInts cA 24 ff) :: (g 3, zInts cA 10 vf) :: (g 4, zInts cA 40 jj) :: (g 5, zInts cA 20 lt) :: (g 6, zInts cA 20 dd) :: cw) hx hb hr hlocks ⟨rfl, ⟨_, _, _, _, _, _, _, _, _, _, _, _, _, _, _, _, _, _, _, _, _, _, _, _, _, _, _, _, _, _, _, _, _, _, _, _, _, _, _, _, cw, rfl, hL, hI, hp⟩⟩ hP hD hS rfl dL_tapes_709)
        · skip
          refine lv_iload hx hb dL_tapes_84 (lv_at hl 0 rfl) ?_
          refine lv_aload_n hx hb dL_tapes_86 rfl (lv_at hl 4 rfl) ?_
          refine lv_iconst (v := nI (1)) hx hb dL_tapes_87 (by decide) ?_
          refine va_iald hx hb hZ.1 hP 0 0 rfl rfl (vp_in_nI (show 1 < 4 by omega) (by omega)) dL_tapes_88 ?_
          rw [nI_clamp (show 1 < 2 ^ 31 by omega)]
          refine zx_val (y := nI (nd)) (c1) ?_
          refine zc_ge (tgt := 96) hx hb (by omega) (by omega) dL_tapes_89 (by decide) (fun c_52 => ?_) (fun c_52 => ?_)
          · refine lv_iconst (v := bI (false)) hx hb dL_tapes_96 (by decide) ?_
            exact J97 (false) ls ⟨lv_sub hl [1, 2, 3, 4, 5, 6, 7, 8, 0] rfl, (decide_eq_false (by omega)).symm⟩
          · refine lv_iconst (v := bI (true)) hx hb dL_tapes_92 (by decide) ?_
            refine lv_goto (tgt := 97) hx hb dL_tapes_93 (by decide) ?_
            exact J97 (true) ls ⟨lv_sub hl [1, 2, 3, 4, 5, 6, 7, 8, 0] rfl, (decide_eq_true (by omega)).symm⟩
      · skip
        refine zf_eq (tgt := 73) hx hb (by omega) dL_tapes_64 (by decide) (fun c_53 => ?_) (fun c_53 => ?_)
        · refine lv_iconst (v := nI (1)) hx hb dL_tapes_73 (by decide) ?_
          refine lv_goto (tgt := 78) hx hb dL_tapes_74 (by decide) ?_
          exact J78 (1) ls ⟨lv_sub hl [1, 2, 3, 4, 5, 6, 7, 0] rfl, by omega⟩
        · refine lv_aload_n hx hb dL_tapes_67 rfl (lv_at hl 4 rfl) ?_
          refine lv_iconst (v := nI (1)) hx hb dL_tapes_68 (by decide) ?_
          refine va_iald hx hb hZ.1 hP 0 0 rfl rfl (vp_in_nI (show 1 < 4 by omega) (by omega)) dL_tapes_69 ?_
          rw [nI_clamp (show 1 < 2 ^ 31 by omega)]
          refine zx_val (y := nI (nd)) (c1) ?_
          refine zf_ne (tgt := 77) hx hb (by omega) dL_tapes_70 (by decide) (fun c_54 => ?_) (fun c_54 => ?_)
          · refine lv_iconst (v := nI (0)) hx hb dL_tapes_77 (by decide) ?_
            exact J78 (0) ls ⟨lv_sub hl [1, 2, 3, 4, 5, 6, 7, 0] rfl, by omega⟩
          · refine lv_iconst (v := nI (1)) hx hb dL_tapes_73 (by decide) ?_
            refine lv_goto (tgt := 78) hx hb dL_tapes_74 (by decide) ?_
            exact J78 (1) ls ⟨lv_sub hl [1, 2, 3, 4, 5, 6, 7, 0] rfl, by omega⟩
    · skip
      rcases hAq with ⟨a, han, hva1⟩ | ⟨hAn, hva1 | hva1⟩
      · rw [hva1] at hl
        refine lv_iload hx hb dL_tapes_29 (lv_at hl 0 rfl) ?_
        refine zf_lt (tgt := 46) hx hb (by omega) dL_tapes_31 (by decide) ?_
        refine lv_iload hx hb dL_tapes_34 (lv_at hl 0 rfl) ?_
        refine lv_aload_n hx hb dL_tapes_36 rfl (lv_at hl 4 rfl) ?_
        refine lv_iconst (v := nI (0)) hx hb dL_tapes_37 (by decide) ?_
        refine va_iald hx hb hZ.1 hP 0 0 rfl rfl (vp_in_nI (show 0 < 4 by omega) (by omega)) dL_tapes_38 ?_
        rw [nI_clamp (show 0 < 2 ^ 31 by omega)]
        refine zx_val (y := nI (n)) (c0) ?_
        refine zc_ge (tgt := 46) hx hb (by omega) (by omega) dL_tapes_39 (by decide) (fun c_56 => False.elim (by omega)) (fun c_56 => ?_)
        refine lv_iconst (v := bI (true)) hx hb dL_tapes_42 (by decide) ?_
        refine lv_goto (tgt := 47) hx hb dL_tapes_43 (by decide) ?_
        rw [← hva1] at hl
        exact J47 true ls ⟨lv_sub hl [1, 2, 3, 4, 5, 6, 0] rfl, Or.inl ⟨rfl, a, han, hva1⟩⟩
      · rw [hva1] at hl
        refine lv_iload hx hb dL_tapes_29 (lv_at hl 0 rfl) ?_
        refine lv_if_lt (tgt := 46) hx hb dL_tapes_31 (by decide) (fun c_57 => ?_) (fun c_57 => absurd (by decide) c_57)
        refine lv_iconst (v := bI (false)) hx hb dL_tapes_46 (by decide) ?_
        rw [← hva1] at hl
        exact J47 false ls ⟨lv_sub hl [1, 2, 3, 4, 5, 6, 0] rfl, Or.inr ⟨rfl, hAn⟩⟩
      · rw [hva1] at hl
        refine lv_iload hx hb dL_tapes_29 (lv_at hl 0 rfl) ?_
        refine zf_lt (tgt := 46) hx hb (by omega) dL_tapes_31 (by decide) ?_
        refine lv_iload hx hb dL_tapes_34 (lv_at hl 0 rfl) ?_
        refine lv_aload_n hx hb dL_tapes_36 rfl (lv_at hl 4 rfl) ?_
        refine lv_iconst (v := nI (0)) hx hb dL_tapes_37 (by decide) ?_
        refine va_iald hx hb hZ.1 hP 0 0 rfl rfl (vp_in_nI (show 0 < 4 by omega) (by omega)) dL_tapes_38 ?_
        rw [nI_clamp (show 0 < 2 ^ 31 by omega)]
        refine zx_val (y := nI (n)) (c0) ?_
        refine zc_ge (tgt := 46) hx hb (by omega) (by omega) dL_tapes_39 (by decide) (fun c_59 => ?_) (fun c_59 => False.elim (by omega))
        refine lv_iconst (v := bI (false)) hx hb dL_tapes_46 (by decide) ?_
        rw [← hva1] at hl
        exact J47 false ls ⟨lv_sub hl [1, 2, 3, 4, 5, 6, 0] rfl, Or.inr ⟨rfl, hAn⟩⟩
  · skip
    refine zf_ne (tgt := 25) hx hb (by omega) dL_tapes_18 (by decide) (fun c_60 => ?_) (fun c_60 => ?_)
    · refine lv_iconst (v := nI (0)) hx hb dL_tapes_25 (by decide) ?_
      exact J26 (0) ls ⟨lv_sub hl [0, 1, 2, 3, 4, 5] rfl, by omega⟩
    · refine lv_iconst (v := nI (1)) hx hb dL_tapes_21 (by decide) ?_
      refine lv_goto (tgt := 26) hx hb dL_tapes_22 (by decide) ?_
      exact J26 (1) ls ⟨lv_sub hl [0, 1, 2, 3, 4, 5] rfl, by omega⟩

set_option maxHeartbeats 4000000 in
set_option maxRecDepth 100000 in
theorem c_L_tapes_4 (l : Launch) (hlt : l.stackTraces = false) (D : va_G) (cA : Nat → ClassId) (sz : Nat) (ad : Nat → Nat) (T : Nat → Nat) (Bd : Nat → Nat) (E : Nat → Nat) (PT : Nat → Nat) (PB : Nat → Nat) (PE : Nat → Nat) (n : Nat) (tr : Nat → Nat) (le : Nat → Nat) (sl : Nat → Nat) (mo : Nat → Option Nat) (la : Nat → Bool) (fc : Nat → Nat) (bo : Nat → Nat → Nat) (nd : Nat) (mk : Nat → Nat) (ck : Nat → Int32) (ct : Nat → Nat) (hd : Nat → Option Nat) (pq : Nat → Int32) (nj : Nat) (fw : Nat → Int32) (jf : Nat → Nat) (dl : Nat → Nat) (dn : Nat) (oc : Nat) (s8 : Nat → Int32) (s9 : Nat → Int32) (s10 : Nat → Int32) (s11 : Nat → Int32) (s12 : Nat → Int32) (cf : Nat → Int32) (tf : Nat → Int32) (ff : Nat → Int32) (vf : Nat → Int32) (jj : Nat → Int32) (lt : Nat → Int32) (dd : Nat → Int32) (jt : Nat → Nat) (fin : Nat → Bool) (g : Nat → Nat) (cw : va_W) (hL : zL cA cw ad T Bd E PT PB PE n tr le sl mo la fc bo nd mk ck ct hd pq nj fw jf dl dn oc s8 s9 s10 s11 s12) (hI : zI n tr le sl mo fc bo nd mk ct hd pq nj fw jf dl) (hp : pL n tr le sl mo la fc bo nd mk ck ct hd pq nj fw jf dl dn cf tf ff vf jj lt dd jt fin) (y : Int32) : Met l yL_tapes wsL_tapes ({ frames := 10, cells := 8, slots := 64, locals := 194 }) (va_Pc [.ref (ad 0), .int (nI (4)), .int (y), .ref (g 0), .ref (g 1), .ref (g 3)] (zMW D cA ((g 0, zInts cA 4 cf) :: (g 1, zInts cA 24 tf) :: (g 2, zInts cA 24 ff) :: (g 3, zInts cA 10 vf) :: (g 4, zInts cA 40 jj) :: (g 5, zInts cA 20 lt) :: (g 6, zInts cA 20 dd) :: cw) sz)) (va_Qi (fun (r : Int32) (u : va_W) => r = bI true ∧ LV cA ad g u) (fun u => zB D (va_A ((g 0, zInts cA 4 cf) :: (g 1, zInts cA 24 tf) :: (g 2, zInts cA 24 ff) :: (g 3, zInts cA 10 vf) :: (g 4, zInts cA 40 jj) :: (g 5, zInts cA 20 lt) :: (g 6, zInts cA 20 dd) :: cw) sz) u) (va_A ((g 0, zInts cA 4 cf) :: (g 1, zInts cA 24 tf) :: (g 2, zInts cA 24 ff) :: (g 3, zInts cA 10 vf) :: (g 4, zInts cA 40 jj) :: (g 5, zInts cA 20 lt) :: (g 6, zInts cA 20 dd) :: cw) sz)) 8 64 (va_A ((g 0, zInts cA 4 cf) :: (g 1, zInts cA 24 tf) :: (g 2, zInts cA 24 ff) :: (g 3, zInts cA 10 vf) :: (g 4, zInts cA 40 jj) :: (g 5, zInts cA 20 lt) :: (g 6, zInts cA 20 dd) :: cw) sz) := by
  refine zOpen (cc := cL_tapes) (maxL := 14) (ret := (some .boolean)) (own := RL) (by decide) rfl rfl (Nat.le_of_ble_eq_true rfl) ?_
  intro p e s m below meth c ls hx hb hr hml hts hown hlocks hnm ⟨⟨⟨hZ, hP, hD0, hsz⟩, hX⟩, hN⟩ hl
  subst hsz
  have hD := hD0.self (sz := s.heap.size)
  generalize hAe : va_A ((g 0, zInts cA 4 cf) :: (g 1, zInts cA 24 tf) :: (g 2, zInts cA 24 ff) :: (g 3, zInts cA 10 vf) :: (g 4, zInts cA 40 jj) :: (g 5, zInts cA 20 lt) :: (g 6, zInts cA 20 dd) :: cw) s.heap.size = A at hD hX ⊢
  have hA : ∀ q : Nat, s.heap.size ≤ q → A q := fun q h => by rw [← hAe]; exact Or.inr h
  have hS : va_S A s.heap s.heap [] := va_S.rf
  have hl : lv_has ls 14 [(0, .ref (ad 0)), (1, .int (nI (4))), (2, .int (y)), (3, .ref (g 0)), (4, .ref (g 1)), (5, .ref (g 3))] := hl
  have hL0 := hL
  have l0 := hL.1.1
  obtain ⟨hn8, hd3, hj60, hIT, hID, hIJ, hIdl, hIw⟩ := id hI
  obtain ⟨⟨hn4, hd2, hj20⟩, ⟨c0, c1, c2, c3⟩, qT, qT0, qF, qV, qV0, qJ, qJ0, qW⟩ := id hp
  refine lv_iload_n hx hb dL_tapes_0 rfl (lv_at hl 2 rfl) ?_
  refine lv_aload_n hx hb dL_tapes_1 rfl (lv_at hl 3 rfl) ?_
  refine lv_iconst (v := nI (0)) hx hb dL_tapes_2 (by decide) ?_
  refine va_iald hx hb hZ.1 hP 0 0 rfl rfl (vp_in_nI (show 0 < 4 by omega) (by omega)) dL_tapes_3 ?_
  rw [nI_clamp (show 0 < 2 ^ 31 by omega)]
  refine zx_val (y := nI (n)) (c0) ?_
  refine lv_iconst (v := nI (1)) hx hb dL_tapes_4 (by decide) ?_
  refine zo_add hx hb dL_tapes_5 ?_
  refine zk_S_i (n := 2) (As := [.int (y), .int (nI (n + 1))]) (rest := []) hx hb hml hts hown hZ hP (c_L_some l D cA _ y (n + 1) (by omega) (by omega)) gL_tapes_L_some rfl ⟨rfl, rfl⟩ ⟨by decide +kernel, (Nat.le_of_ble_eq_true rfl), (Nat.le_of_ble_eq_true rfl)⟩ hl.1 rfl (Nat.le_of_ble_eq_true rfl) ⟨(Nat.le_of_ble_eq_true rfl), (Nat.le_of_ble_eq_true rfl)⟩ rfl dL_tapes_6 (fun r1 hr1 => ?_)
  obtain ⟨q1, hq1, hb1⟩ : ∃ z, r1 = nI z ∧ z < (n + 1) := ⟨_, hr1, sm_lt (by omega)⟩
  subst hq1
  refine lv_iload_n hx hb dL_tapes_9 rfl (lv_at hl 2 rfl) ?_
  refine lv_bipush (v := nI (9)) hx hb dL_tapes_10 (by decide) ?_
  refine lv_ishr hx hb dL_tapes_12 ?_
  refine lv_bipush (v := nI (19)) hx hb dL_tapes_13 (by decide) ?_
  refine zk_S_i (n := 2) (As := [.int ((y) >>> ((nI (9)) &&& 31)), .int (nI (19))]) (rest := [.int (nI (q1))]) hx hb hml hts hown hZ hP (c_L_some l D cA _ ((y) >>> ((nI (9)) &&& 31)) 19 (by omega) (by omega)) gL_tapes_L_some rfl ⟨rfl, rfl⟩ ⟨by decide +kernel, (Nat.le_of_ble_eq_true rfl), (Nat.le_of_ble_eq_true rfl)⟩ hl.1 rfl (Nat.le_of_ble_eq_true rfl) ⟨(Nat.le_of_ble_eq_true rfl), (Nat.le_of_ble_eq_true rfl)⟩ rfl dL_tapes_15 (fun r2 hr2 => ?_)
  obtain ⟨q2, hq2, hb2⟩ : ∃ z, r2 = nI z ∧ z < 19 := ⟨_, hr2, sm_lt (by omega)⟩
  subst hq2
  refine z_join (α := Nat) (pc' := 26) (fun v ls => lv_has ls 14 [(0, .ref (ad 0)), (1, .int (nI (4))), (2, .int (y)), (3, .ref (g 0)), (4, .ref (g 1)), (5, .ref (g 3))] ∧ v ≤ 1) (fun v => [.int (nI (v)), .int (nI (q1))]) ?_ (fun J26 => ?_)
  · intro x1 ls hv
    obtain ⟨hl, hI26⟩ := hv
    have hl : lv_has ls 14 [(0, .ref (ad 0)), (1, .int (nI (4))), (2, .int (y)), (3, .ref (g 0)), (4, .ref (g 1)), (5, .ref (g 3))] := hl
    have hI26 : x1 ≤ 1 := hI26
    obtain ⟨va, hva, hAq⟩ := tapes_va hn4 hb1 hI26
    refine lv_isub hx hb dL_tapes_26 ?_
    refine zx_val (y := va) hva ?_
    refine lv_istore (lv' := [(6, .int (va)), (0, .ref (ad 0)), (1, .int (nI (4))), (2, .int (y)), (3, .ref (g 0)), (4, .ref (g 1)), (5, .ref (g 3))]) hx hb dL_tapes_27 hl (by decide) rfl (fun ls hl => ?_)
    refine z_join (α := Bool) (pc' := 47) (fun bA ls => lv_has ls 14 [(0, .ref (ad 0)), (1, .int (nI (4))), (2, .int (y)), (3, .ref (g 0)), (4, .ref (g 1)), (5, .ref (g 3)), (6, .int (va))] ∧ ((bA = true ∧ ∃ a, a < n ∧ va = nI a) ∨ (bA = false ∧ ∀ j, j < n → va ≠ nI j))) (fun bA => [.int (bI bA)]) ?_ (fun J47 => ?_)
    · intro bA ls hv
      obtain ⟨hl, hAA⟩ := hv
      have hl : lv_has ls 14 [(0, .ref (ad 0)), (1, .int (nI (4))), (2, .int (y)), (3, .ref (g 0)), (4, .ref (g 1)), (5, .ref (g 3)), (6, .int (va))] := hl
      refine lv_istore (lv' := [(7, .int (bI (bA))), (0, .ref (ad 0)), (1, .int (nI (4))), (2, .int (y)), (3, .ref (g 0)), (4, .ref (g 1)), (5, .ref (g 3)), (6, .int (va))]) hx hb dL_tapes_47 hl (by decide) rfl (fun ls hl => ?_)
      refine lv_iload_n hx hb dL_tapes_49 rfl (lv_at hl 3 rfl) ?_
      refine lv_iconst (v := nI (3)) hx hb dL_tapes_50 (by decide) ?_
      refine lv_ishr hx hb dL_tapes_51 ?_
      refine lv_aload_n hx hb dL_tapes_52 rfl (lv_at hl 4 rfl) ?_
      refine lv_iconst (v := nI (1)) hx hb dL_tapes_53 (by decide) ?_
      refine va_iald hx hb hZ.1 hP 0 0 rfl rfl (vp_in_nI (show 1 < 4 by omega) (by omega)) dL_tapes_54 ?_
      rw [nI_clamp (show 1 < 2 ^ 31 by omega)]
      refine zx_val (y := nI (nd)) (c1) ?_
      refine lv_iload_n hx hb dL_tapes_55 rfl (lv_at hl 3 rfl) ?_
      refine lv_bipush (v := nI (7)) hx hb dL_tapes_56 (by decide) ?_
      refine lv_ishr hx hb dL_tapes_58 ?_
      refine lv_bipush (v := nI (9)) hx hb dL_tapes_59 (by decide) ?_
      refine zk_S_i (n := 2) (As := [.int ((y) >>> ((nI (7)) &&& 31)), .int (nI (9))]) (rest := [.int (nI (nd)), .int ((y) >>> ((nI (3)) &&& 31))]) hx hb hml hts hown hZ hP (c_L_some l D cA _ ((y) >>> ((nI (7)) &&& 31)) 9 (by omega) (by omega)) gL_tapes_L_some rfl ⟨rfl, rfl⟩ ⟨by decide +kernel, (Nat.le_of_ble_eq_true rfl), (Nat.le_of_ble_eq_true rfl)⟩ hl.1 rfl (Nat.le_of_ble_eq_true rfl) ⟨(Nat.le_of_ble_eq_true rfl), (Nat.le_of_ble_eq_true rfl)⟩ rfl dL_tapes_61 (fun r3 hr3 => ?_)
      obtain ⟨q3, hq3, hb3⟩ : ∃ z, r3 = nI z ∧ z < 9 := ⟨_, hr3, sm_lt (by omega)⟩
      subst hq3
      refine z_join (α := Nat) (pc' := 78) (fun v ls => lv_has ls 14 [(0, .ref (ad 0)), (1, .int (nI (4))), (2, .int (y)), (3, .ref (g 0)), (4, .ref (g 1)), (5, .ref (g 3)), (6, .int (va)), (7, .int (bI (bA)))] ∧ v ≤ 1 ∧ (nd = 0 → v = 1)) (fun v => [.int (nI (v)), .int (nI (nd)), .int ((y) >>> ((nI (3)) &&& 31))]) ?_ (fun J78 => ?_)
      · intro x2 ls hv
        obtain ⟨hl, hI78⟩ := hv
        have hl : lv_has ls 14 [(0, .ref (ad 0)), (1, .int (nI (4))), (2, .int (y)), (3, .ref (g 0)), (4, .ref (g 1)), (5, .ref (g 3)), (6, .int (va)), (7, .int (bI (bA)))] := hl
        have hI78 : x2 ≤ 1 ∧ (nd = 0 → x2 = 1) := hI78
        refine zo_add hx hb dL_tapes_78 ?_
        obtain ⟨hx2, hx20⟩ := hI78
        refine zk_S_i (n := 2) (As := [.int ((y) >>> ((nI (3)) &&& 31)), .int (nI (nd + x2))]) (rest := []) hx hb hml hts hown hZ hP (c_L_some l D cA _ ((y) >>> ((nI (3)) &&& 31)) (nd + x2) (by omega) (by omega)) gL_tapes_L_some rfl ⟨rfl, rfl⟩ ⟨by decide +kernel, (Nat.le_of_ble_eq_true rfl), (Nat.le_of_ble_eq_true rfl)⟩ hl.1 rfl (Nat.le_of_ble_eq_true rfl) ⟨(Nat.le_of_ble_eq_true rfl), (Nat.le_of_ble_eq_true rfl)⟩ rfl dL_tapes_79 (fun r4 hr4 => ?_)
        obtain ⟨q4, hq4, hb4⟩ : ∃ z, r4 = nI z ∧ z < (nd + x2) := ⟨_, hr4, sm_lt (by omega)⟩
        subst hq4
        refine lv_istore (lv' := [(8, .int (nI (q4))), (0, .ref (ad 0)), (1, .int (nI (4))), (2, .int (y)), (3, .ref (g 0)), (4, .ref (g 1)), (5, .ref (g 3)), (6, .int (va)), (7, .int (bI (bA)))]) hx hb dL_tapes_82 hl (by decide) rfl (fun ls hl => ?_)
        refine z_join (α := Bool) (pc' := 97) (fun v ls => lv_has ls 14 [(0, .ref (ad 0)), (1, .int (nI (4))), (2, .int (y)), (3, .ref (g 0)), (4, .ref (g 1)), (5, .ref (g 3)), (6, .int (va)), (7, .int (bI (bA))), (8, .int (nI (q4)))] ∧ v = decide (q4 < nd)) (fun v => [.int (bI (v))]) ?_ (fun J97 => ?_)
        · intro bD ls hv
          obtain ⟨hl, hI97⟩ := hv
          have hl : lv_has ls 14 [(0, .ref (ad 0)), (1, .int (nI (4))), (2, .int (y)), (3, .ref (g 0)), (4, .ref (g 1)), (5, .ref (g 3)), (6, .int (va)), (7, .int (bI (bA))), (8, .int (nI (q4)))] := hl
          have hI97 : bD = decide (q4 < nd) := hI97
          have hDd : q4 ≤ nd := by omega
          refine lv_istore (lv' := [(9, .int (bI (bD))), (0, .ref (ad 0)), (1, .int (nI (4))), (2, .int (y)), (3, .ref (g 0)), (4, .ref (g 1)), (5, .ref (g 3)), (6, .int (va)), (7, .int (bI (bA))), (8, .int (nI (q4)))]) hx hb dL_tapes_97 hl (by decide) rfl (fun ls hl => ?_)
          refine lv_iload_n hx hb dL_tapes_99 rfl (lv_at hl 2 rfl) ?_
          refine zf_ne (tgt := 290) hx hb (by omega) dL_tapes_100 (by decide) (fun c_1 => ?_) (fun c_1 => False.elim (by omega))
          refine lv_iload_n hx hb dL_tapes_290 rfl (lv_at hl 2 rfl) ?_
          refine lv_iconst (v := nI (1)) hx hb dL_tapes_291 (by decide) ?_
          refine zc_ne (tgt := 392) hx hb (by omega) (by omega) dL_tapes_292 (by decide) (fun c_2 => ?_) (fun c_2 => False.elim (by omega))
          refine lv_iload_n hx hb dL_tapes_392 rfl (lv_at hl 2 rfl) ?_
          refine lv_iconst (v := nI (2)) hx hb dL_tapes_393 (by decide) ?_
          refine zc_ne (tgt := 550) hx hb (by omega) (by omega) dL_tapes_394 (by decide) (fun c_3 => ?_) (fun c_3 => False.elim (by omega))
          refine lv_iload_n hx hb dL_tapes_550 rfl (lv_at hl 2 rfl) ?_
          refine lv_iconst (v := nI (3)) hx hb dL_tapes_551 (by decide) ?_
          refine zc_ne (tgt := 710) hx hb (by omega) (by omega) dL_tapes_552 (by decide) (fun c_4 => ?_) (fun c_4 => False.elim (by omega))
          refine lv_iload_n hx hb dL_tapes_710 rfl (lv_at hl 2 rfl) ?_
          refine lv_iconst (v := nI (4)) hx hb dL_tapes_711 (by decide) ?_
          refine lv_icmp_ne (tgt := 862) hx hb dL_tapes_712 (by decide) (fun c_5 => absurd rfl c_5) (fun c_5 => ?_)
          rcases Nat.lt_or_ge q4 nd with hdn | hdn
          · obtain rfl : bD = true := by rw [hI97]; exact decide_eq_true hdn
            obtain ⟨qv1, qv2, qv3, qv4, qv5⟩ := qV q4 hdn
            obtain ⟨hmk1, hct1, hpn1, hps1⟩ := hID q4 hdn
            rcases hhd : hd q4 with _ | t
            · have qv6 : vf (6 + q4) = -1 := by rw [qv4, hhd]; rfl
              refine lv_iload hx hb dL_tapes_715 (lv_at hl 0 rfl) ?_
              refine zb_eq (tgt := 735) hx hb dL_tapes_717 (by decide) (fun c_6 => Bool.noConfusion c_6) (fun c_6 => ?_)
              refine lv_aload hx hb dL_tapes_720 (lv_at hl 6 rfl) ?_
              refine lv_bipush (v := nI (6)) hx hb dL_tapes_722 (by decide) ?_
              refine lv_iload hx hb dL_tapes_724 (lv_at hl 9 rfl) ?_
              refine zo_add hx hb dL_tapes_726 ?_
              refine va_iald hx hb hZ.1 hP 3 0 rfl rfl (vp_in_nI (show 6 + q4 < 10 by omega) (by omega)) dL_tapes_727 ?_
              rw [nI_clamp (show 6 + q4 < 2 ^ 31 by omega)]
              refine zx_val (y := (-1)) (qv6) ?_
              refine lv_if_lt (tgt := 735) hx hb dL_tapes_728 (by decide) (fun c_7 => ?_) (fun c_7 => absurd (by decide) c_7)
              refine lv_iconst (v := bI (false)) hx hb dL_tapes_735 (by decide) ?_
              refine lv_istore (lv' := [(10, .int (bI (false))), (9, .int (bI (true))), (0, .ref (ad 0)), (1, .int (nI (4))), (2, .int (y)), (3, .ref (g 0)), (4, .ref (g 1)), (5, .ref (g 3)), (6, .int (va)), (7, .int (bI (bA))), (8, .int (nI (q4)))]) hx hb dL_tapes_736 hl (by decide) rfl (fun ls hl => ?_)
              refine lv_iload hx hb dL_tapes_738 (lv_at hl 0 rfl) ?_
              refine zb_eq (tgt := 780) hx hb dL_tapes_740 (by decide) (fun c_8 => ?_) (fun c_8 => Bool.noConfusion c_8)
              refine lv_iconst (v := nI (0)) hx hb dL_tapes_780 (by decide) ?_
              refine lv_istore (lv' := [(11, .int (nI (0))), (10, .int (bI (false))), (9, .int (bI (true))), (0, .ref (ad 0)), (1, .int (nI (4))), (2, .int (y)), (3, .ref (g 0)), (4, .ref (g 1)), (5, .ref (g 3)), (6, .int (va)), (7, .int (bI (bA))), (8, .int (nI (q4)))]) hx hb dL_tapes_781 hl (by decide) rfl (fun ls hl => ?_)
              refine lv_iload hx hb dL_tapes_783 (lv_at hl 1 rfl) ?_
              refine zb_eq (tgt := 824) hx hb dL_tapes_785 (by decide) (fun c_9 => ?_) (fun c_9 => Bool.noConfusion c_9)
              refine lv_aload_n hx hb dL_tapes_824 rfl (lv_at hl 3 rfl) ?_
              refine lv_iconst (v := nI (0)) hx hb dL_tapes_825 (by decide) ?_
              refine lv_iload hx hb dL_tapes_826 (lv_at hl 11 rfl) ?_
              refine ze_H_i (n := 3) (mc := 2) (ms := 12) (ws := cw) (es := [(g 0, zInts cA 4 cf), (g 1, zInts cA 24 tf), (g 2, zInts cA 24 ff), (g 3, zInts cA 10 vf), (g 4, zInts cA 40 jj), (g 5, zInts cA 20 lt), (g 6, zInts cA 20 dd)]) (As := [.ref (ad 0), .int (nI (0)), .int (nI (q4))]) (rest := []) hx hb hml hts hown hZ hX hN [0, 1, 2, 3, 4, 5, 6] rfl rfl hP hD hS hA (c_L_one_0 l D cA _ cw (ad 0) _ l0 _ _ _ _ (kS (ix (nI (q4)) nd) (fun j => (hd j).isSome)) (nI (q4)) (fun sz9 => c_X4_unmount l hlt D cA sz9 cw ad T Bd E PT PB PE n tr le sl mo la fc bo nd mk ck ct hd pq nj fw jf dl dn oc s8 s9 s10 s11 s12 hL hI (nI (q4))) (fun _ _ h => h)) gL_tapes_L_one rfl ⟨rfl, rfl⟩ ⟨by decide +kernel, (Nat.le_of_ble_eq_true rfl), (Nat.le_of_ble_eq_true rfl)⟩ hl.1 rfl (Nat.le_of_ble_eq_true rfl) ⟨(Nat.le_of_ble_eq_true rfl), (Nat.le_of_ble_eq_true rfl)⟩ rfl dL_tapes_828 (fun r9 u9 H locs hp9 hP hD hS hz => ?_)
              rcases u9 with ⟨j9, t9, P9, w1⟩ | u9
              · dsimp only [zwP] at hp9
                obtain ⟨hjn, hv0, hht9, hpq9, hP16, hr9, hkp, hL1⟩ := hp9
                have e9 := (nI_eq (by omega) (by omega)).mp hv0
                rw [← e9, hhd] at hht9; cases hht9
              · dsimp only [zwP] at hp9
                obtain ⟨hr9, hK9, E9, hE9⟩ := hp9
                have hr9 : r9 = (-102) := by rw [hr9, show (kS (ix (nI (q4)) nd) (fun j => (hd j).isSome)) = 2 from kS_n (ix_in (by omega) hdn) (by rw [hhd]; rfl)]; rfl
                subst hr9
                have hP : va_P D vwCl ((g 0, zInts cA 4 cf) :: (g 1, zInts cA 24 tf) :: (g 2, zInts cA 24 ff) :: (g 3, zInts cA 10 vf) :: (g 4, zInts cA 40 jj) :: (g 5, zInts cA 20 lt) :: (g 6, zInts cA 20 dd) :: cw) H := hP
                have hD : va_D A ((g 0, zInts cA 4 cf) :: (g 1, zInts cA 24 tf) :: (g 2, zInts cA 24 ff) :: (g 3, zInts cA 10 vf) :: (g 4, zInts cA 40 jj) :: (g 5, zInts cA 20 lt) :: (g 6, zInts cA 20 dd) :: cw) := hD
                refine lv_iload hx hb dL_tapes_831 (lv_at hl 2 rfl) ?_
                refine zb_ne (tgt := 841) hx hb dL_tapes_833 (by decide) (fun c_10 => ?_) (fun c_10 => Bool.noConfusion c_10)
                refine lv_iload hx hb dL_tapes_841 (lv_at hl 1 rfl) ?_
                refine zb_eq (tgt := 851) hx hb dL_tapes_843 (by decide) (fun c_11 => ?_) (fun c_11 => Bool.noConfusion c_11)
                refine lv_bipush (v := (-102)) hx hb dL_tapes_851 (by decide) ?_
                refine lv_icmp_ne (tgt := 860) hx hb dL_tapes_853 (by decide) (fun c_12 => absurd rfl c_12) (fun c_12 => ?_)
                refine lv_iconst (v := bI (true)) hx hb dL_tapes_856 (by decide) ?_
                refine lv_goto (tgt := 861) hx hb dL_tapes_857 (by decide) ?_
                exact W.widen (k := 8) (n := 64) (by omega) (by omega) (zr_qz (S := va_W) (post := (fun (r : Int32) (u : va_W) => r = bI true ∧ LV cA ad g u)) (w1 := fun u => u) ((g 0, zInts cA 4 cf) :: (g 1, zInts cA 24 tf) :: (g 2, zInts cA 24 ff) :: (g 3, zInts cA 10 vf) :: (g 4, zInts cA 40 jj) :: (g 5, zInts cA 20 lt) :: (g 6, zInts cA 20 dd) :: cw) hx hb hr hlocks ⟨rfl, ⟨_, _, _, _, _, _, _, _, _, _, _, _, _, _, _, _, _, _, _, _, _, _, _, _, _, _, _, _, _, _, _, _, _, _, _, _, _, _, _, _, cw, rfl, hL, hI, hp⟩⟩ hP hD hS rfl dL_tapes_861)
            · have qv6 : vf (6 + q4) = nI t := by rw [qv4, hhd]; rfl
              obtain ⟨htn, hmt1, Pq, hPq1, hPq2⟩ := hps1 t hhd
              obtain ⟨qa1, qa2, qa3, qa4, qa5, qa6, qa7⟩ := qT t htn
              obtain ⟨t1, t2, t3, t4, t5, t6, t7, t8, t9x, t10⟩ := hIT t htn
              have hm8 : tr t * le t ≤ 8 * 200 := Nat.mul_le_mul t2 t4
              have qv7 : vf (8 + q4) = nI Pq := by rw [qv5 t hhd, hPq1]
              refine lv_iload hx hb dL_tapes_715 (lv_at hl 0 rfl) ?_
              refine zb_eq (tgt := 735) hx hb dL_tapes_717 (by decide) (fun c_13 => Bool.noConfusion c_13) (fun c_13 => ?_)
              refine lv_aload hx hb dL_tapes_720 (lv_at hl 6 rfl) ?_
              refine lv_bipush (v := nI (6)) hx hb dL_tapes_722 (by decide) ?_
              refine lv_iload hx hb dL_tapes_724 (lv_at hl 9 rfl) ?_
              refine zo_add hx hb dL_tapes_726 ?_
              refine va_iald hx hb hZ.1 hP 3 0 rfl rfl (vp_in_nI (show 6 + q4 < 10 by omega) (by omega)) dL_tapes_727 ?_
              rw [nI_clamp (show 6 + q4 < 2 ^ 31 by omega)]
              refine zx_val (y := nI (t)) (qv6) ?_
              refine zf_lt (tgt := 735) hx hb (by omega) dL_tapes_728 (by decide) ?_
              refine lv_iconst (v := bI (true)) hx hb dL_tapes_731 (by decide) ?_
              refine lv_goto (tgt := 736) hx hb dL_tapes_732 (by decide) ?_
              refine lv_istore (lv' := [(10, .int (bI (true))), (9, .int (bI (true))), (0, .ref (ad 0)), (1, .int (nI (4))), (2, .int (y)), (3, .ref (g 0)), (4, .ref (g 1)), (5, .ref (g 3)), (6, .int (va)), (7, .int (bI (bA))), (8, .int (nI (q4)))]) hx hb dL_tapes_736 hl (by decide) rfl (fun ls hl => ?_)
              refine lv_iload hx hb dL_tapes_738 (lv_at hl 0 rfl) ?_
              refine zb_eq (tgt := 780) hx hb dL_tapes_740 (by decide) (fun c_15 => Bool.noConfusion c_15) (fun c_15 => ?_)
              refine lv_aload hx hb dL_tapes_743 (lv_at hl 6 rfl) ?_
              refine lv_aload hx hb dL_tapes_745 (lv_at hl 7 rfl) ?_
              refine lv_iload hx hb dL_tapes_747 (lv_at hl 10 rfl) ?_
              refine lv_aload hx hb dL_tapes_749 (lv_at hl 7 rfl) ?_
              refine lv_bipush (v := nI (8)) hx hb dL_tapes_751 (by decide) ?_
              refine lv_iload hx hb dL_tapes_753 (lv_at hl 10 rfl) ?_
              refine zo_add hx hb dL_tapes_755 ?_
              refine va_iald hx hb hZ.1 hP 3 0 rfl rfl (vp_in_nI (show 8 + q4 < 10 by omega) (by omega)) dL_tapes_756 ?_
              rw [nI_clamp (show 8 + q4 < 2 ^ 31 by omega)]
              refine zx_val (y := nI (Pq)) (qv7) ?_
              refine lv_iconst (v := nI (0)) hx hb dL_tapes_757 (by decide) ?_
              refine zk_S_i (n := 5) (As := [.ref (g 1), .ref (g 3), .int (nI (q4)), .int (nI (Pq)), .int (nI (0))]) (rest := []) hx hb hml hts hown hZ hP (c_L_way l D cA ((g 0, zInts cA 4 cf) :: (g 1, zInts cA 24 tf) :: (g 2, zInts cA 24 ff) :: (g 3, zInts cA 10 vf) :: (g 4, zInts cA 40 jj) :: (g 5, zInts cA 20 lt) :: (g 6, zInts cA 20 dd) :: cw) 1 (g 1) tf rfl 3 (g 3) vf rfl q4 t (tr t) (le t) (mk q4) qv6 qa1 qa2 qv1 hmk1 t1 (by omega) t2 t4 (by omega) (by omega) Pq 0 (by omega) (by omega)) gL_tapes_L_way rfl ⟨rfl, rfl⟩ ⟨by decide +kernel, (Nat.le_of_ble_eq_true rfl), (Nat.le_of_ble_eq_true rfl)⟩ hl.1 rfl (Nat.le_of_ble_eq_true rfl) ⟨(Nat.le_of_ble_eq_true rfl), (Nat.le_of_ble_eq_true rfl)⟩ rfl dL_tapes_758 (fun r5 hr5 => ?_)
              obtain rfl := show r5 = nI (wayT (zpa (mk q4)) (zsp (mk q4)) (tr t) (le t) Pq 0) from hr5
              refine lv_aload hx hb dL_tapes_761 (lv_at hl 6 rfl) ?_
              refine lv_iload hx hb dL_tapes_763 (lv_at hl 10 rfl) ?_
              refine lv_aload hx hb dL_tapes_765 (lv_at hl 7 rfl) ?_
              refine lv_bipush (v := nI (6)) hx hb dL_tapes_767 (by decide) ?_
              refine lv_iload hx hb dL_tapes_769 (lv_at hl 10 rfl) ?_
              refine zo_add hx hb dL_tapes_771 ?_
              refine va_iald hx hb hZ.1 hP 3 0 rfl rfl (vp_in_nI (show 6 + q4 < 10 by omega) (by omega)) dL_tapes_772 ?_
              rw [nI_clamp (show 6 + q4 < 2 ^ 31 by omega)]
              refine zx_val (y := nI (t)) (qv6) ?_
              refine zk_S_i (n := 3) (As := [.ref (g 1), .int (nI (q4)), .int (nI (t))]) (rest := [.int (nI (wayT (zpa (mk q4)) (zsp (mk q4)) (tr t) (le t) Pq 0))]) hx hb hml hts hown hZ hP (c_L_robot l D cA ((g 0, zInts cA 4 cf) :: (g 1, zInts cA 24 tf) :: (g 2, zInts cA 24 ff) :: (g 3, zInts cA 10 vf) :: (g 4, zInts cA 40 jj) :: (g 5, zInts cA 20 lt) :: (g 6, zInts cA 20 dd) :: cw) 1 (g 1) tf rfl q4 t (sl t) (by first | exact qa3 | (rw [pk_un (by omega)]; exact qa3)) t5 (by omega) (by omega)) gL_tapes_L_robot rfl ⟨rfl, rfl⟩ ⟨by decide +kernel, (Nat.le_of_ble_eq_true rfl), (Nat.le_of_ble_eq_true rfl)⟩ hl.1 rfl (Nat.le_of_ble_eq_true rfl) ⟨(Nat.le_of_ble_eq_true rfl), (Nat.le_of_ble_eq_true rfl)⟩ rfl dL_tapes_773 (fun r6 hr6 => ?_)
              obtain rfl := show r6 = nI (20 + 2 * dif (4 * q4) (sl t)) from hr6
              refine zo_add hx hb dL_tapes_776 ?_
              refine lv_goto (tgt := 781) hx hb dL_tapes_777 (by decide) ?_
              refine lv_istore (lv' := [(11, .int (nI ((wayT (zpa (mk q4)) (zsp (mk q4)) (tr t) (le t) Pq 0) + (20 + 2 * dif (4 * q4) (sl t))))), (10, .int (bI (true))), (9, .int (bI (true))), (0, .ref (ad 0)), (1, .int (nI (4))), (2, .int (y)), (3, .ref (g 0)), (4, .ref (g 1)), (5, .ref (g 3)), (6, .int (va)), (7, .int (bI (bA))), (8, .int (nI (q4)))]) hx hb dL_tapes_781 hl (by decide) rfl (fun ls hl => ?_)
              refine lv_iload hx hb dL_tapes_783 (lv_at hl 1 rfl) ?_
              refine zb_eq (tgt := 824) hx hb dL_tapes_785 (by decide) (fun c_16 => Bool.noConfusion c_16) (fun c_16 => ?_)
              obtain ⟨hI2, hp2⟩ := J_unmount (j := q4) (t := t) (c9 := ck q4 + nI (wayT (zpa (mk q4)) (zsp (mk q4)) (tr t) (le t) Pq 0 + (20 + 2 * dif (4 * q4) (sl t)))) hI hp hdn hhd
              refine lv_aload hx hb dL_tapes_788 (lv_at hl 7 rfl) ?_
              refine lv_bipush (v := nI (12)) hx hb dL_tapes_790 (by decide) ?_
              refine lv_aload hx hb dL_tapes_792 (lv_at hl 8 rfl) ?_
              refine lv_bipush (v := nI (6)) hx hb dL_tapes_794 (by decide) ?_
              refine lv_iload hx hb dL_tapes_796 (lv_at hl 11 rfl) ?_
              refine zo_add hx hb dL_tapes_798 ?_
              refine va_iald hx hb hZ.1 hP 3 0 rfl rfl (vp_in_nI (show 6 + q4 < 10 by omega) (by omega)) dL_tapes_799 ?_
              rw [nI_clamp (show 6 + q4 < 2 ^ 31 by omega)]
              refine zx_val (y := nI (t)) (qv6) ?_
              refine zo_add hx hb dL_tapes_800 ?_
              refine lv_iconst (v := (-1)) hx hb dL_tapes_801 (by decide) ?_
              refine va_iast hx hb hZ.1 hP hD hS 1 0 rfl rfl (vp_in_nI (show 12 + t < 24 by omega) (by omega)) dL_tapes_802 (fun H locs hP hD hS => ?_)
              rw [nI_clamp (show 12 + t < 2 ^ 31 by omega)] at hP hD
              have hP : va_P D vwCl ((g 0, zInts cA 4 cf) :: (g 1, zInts cA 24 (upd tf (12 + t) ((-1)))) :: (g 2, zInts cA 24 ff) :: (g 3, zInts cA 10 vf) :: (g 4, zInts cA 40 jj) :: (g 5, zInts cA 20 lt) :: (g 6, zInts cA 20 dd) :: cw) H := hP
              have hD : va_D A ((g 0, zInts cA 4 cf) :: (g 1, zInts cA 24 (upd tf (12 + t) ((-1)))) :: (g 2, zInts cA 24 ff) :: (g 3, zInts cA 10 vf) :: (g 4, zInts cA 40 jj) :: (g 5, zInts cA 20 lt) :: (g 6, zInts cA 20 dd) :: cw) := hD
              refine lv_aload hx hb dL_tapes_803 (lv_at hl 8 rfl) ?_
              refine lv_bipush (v := nI (6)) hx hb dL_tapes_805 (by decide) ?_
              refine lv_iload hx hb dL_tapes_807 (lv_at hl 11 rfl) ?_
              refine zo_add hx hb dL_tapes_809 ?_
              refine lv_iconst (v := (-1)) hx hb dL_tapes_810 (by decide) ?_
              refine va_iast hx hb hZ.1 hP hD hS 3 0 rfl rfl (vp_in_nI (show 6 + q4 < 10 by omega) (by omega)) dL_tapes_811 (fun H locs hP hD hS => ?_)
              rw [nI_clamp (show 6 + q4 < 2 ^ 31 by omega)] at hP hD
              have hP : va_P D vwCl ((g 0, zInts cA 4 cf) :: (g 1, zInts cA 24 (upd tf (12 + t) ((-1)))) :: (g 2, zInts cA 24 ff) :: (g 3, zInts cA 10 (upd vf (6 + q4) ((-1)))) :: (g 4, zInts cA 40 jj) :: (g 5, zInts cA 20 lt) :: (g 6, zInts cA 20 dd) :: cw) H := hP
              have hD : va_D A ((g 0, zInts cA 4 cf) :: (g 1, zInts cA 24 (upd tf (12 + t) ((-1)))) :: (g 2, zInts cA 24 ff) :: (g 3, zInts cA 10 (upd vf (6 + q4) ((-1)))) :: (g 4, zInts cA 40 jj) :: (g 5, zInts cA 20 lt) :: (g 6, zInts cA 20 dd) :: cw) := hD
              refine lv_aload hx hb dL_tapes_812 (lv_at hl 8 rfl) ?_
              refine lv_iconst (v := nI (2)) hx hb dL_tapes_814 (by decide) ?_
              refine lv_iload hx hb dL_tapes_815 (lv_at hl 11 rfl) ?_
              refine zo_add hx hb dL_tapes_817 ?_
              refine lv_dup2_11 hx hb dL_tapes_818 rfl rfl ?_
              refine va_iald hx hb hZ.1 hP 3 0 rfl rfl (vp_in_nI (show 2 + q4 < 10 by omega) (by omega)) dL_tapes_819 ?_
              rw [nI_clamp (show 2 + q4 < 2 ^ 31 by omega)]
              refine zx_val (y := ck q4) (by rw [pk_un (by omega)]; exact qv2) ?_
              refine lv_iload hx hb dL_tapes_820 (lv_at hl 0 rfl) ?_
              refine lv_iadd hx hb dL_tapes_822 ?_
              refine va_iast hx hb hZ.1 hP hD hS 3 0 rfl rfl (vp_in_nI (show 2 + q4 < 10 by omega) (by omega)) dL_tapes_823 (fun H locs hP hD hS => ?_)
              rw [nI_clamp (show 2 + q4 < 2 ^ 31 by omega)] at hP hD
              have hP : va_P D vwCl ((g 0, zInts cA 4 cf) :: (g 1, zInts cA 24 (upd tf (12 + t) ((-1)))) :: (g 2, zInts cA 24 ff) :: (g 3, zInts cA 10 (upd (upd vf (6 + q4) ((-1))) (2 + q4) ((ck q4) + (nI ((wayT (zpa (mk q4)) (zsp (mk q4)) (tr t) (le t) Pq 0) + (20 + 2 * dif (4 * q4) (sl t))))))) :: (g 4, zInts cA 40 jj) :: (g 5, zInts cA 20 lt) :: (g 6, zInts cA 20 dd) :: cw) H := hP
              have hD : va_D A ((g 0, zInts cA 4 cf) :: (g 1, zInts cA 24 (upd tf (12 + t) ((-1)))) :: (g 2, zInts cA 24 ff) :: (g 3, zInts cA 10 (upd (upd vf (6 + q4) ((-1))) (2 + q4) ((ck q4) + (nI ((wayT (zpa (mk q4)) (zsp (mk q4)) (tr t) (le t) Pq 0) + (20 + 2 * dif (4 * q4) (sl t))))))) :: (g 4, zInts cA 40 jj) :: (g 5, zInts cA 20 lt) :: (g 6, zInts cA 20 dd) :: cw) := hD
              refine lv_aload_n hx hb dL_tapes_824 rfl (lv_at hl 3 rfl) ?_
              refine lv_iconst (v := nI (0)) hx hb dL_tapes_825 (by decide) ?_
              refine lv_iload hx hb dL_tapes_826 (lv_at hl 11 rfl) ?_
              refine ze_H_i (n := 3) (mc := 2) (ms := 12) (ws := cw) (es := [(g 0, zInts cA 4 cf), (g 1, zInts cA 24 (upd tf (12 + t) ((-1)))), (g 2, zInts cA 24 ff), (g 3, zInts cA 10 (upd (upd vf (6 + q4) ((-1))) (2 + q4) ((ck q4) + (nI ((wayT (zpa (mk q4)) (zsp (mk q4)) (tr t) (le t) Pq 0) + (20 + 2 * dif (4 * q4) (sl t))))))), (g 4, zInts cA 40 jj), (g 5, zInts cA 20 lt), (g 6, zInts cA 20 dd)]) (As := [.ref (ad 0), .int (nI (0)), .int (nI (q4))]) (rest := []) hx hb hml hts hown hZ hX hN [0, 1, 2, 3, 4, 5, 6] rfl rfl hP hD hS hA (c_L_one_0 l D cA _ cw (ad 0) _ l0 _ _ _ _ (kS (ix (nI (q4)) nd) (fun j => (hd j).isSome)) (nI (q4)) (fun sz9 => c_X4_unmount l hlt D cA sz9 cw ad T Bd E PT PB PE n tr le sl mo la fc bo nd mk ck ct hd pq nj fw jf dl dn oc s8 s9 s10 s11 s12 hL hI (nI (q4))) (fun _ _ h => h)) gL_tapes_L_one rfl ⟨rfl, rfl⟩ ⟨by decide +kernel, (Nat.le_of_ble_eq_true rfl), (Nat.le_of_ble_eq_true rfl)⟩ hl.1 rfl (Nat.le_of_ble_eq_true rfl) ⟨(Nat.le_of_ble_eq_true rfl), (Nat.le_of_ble_eq_true rfl)⟩ rfl dL_tapes_828 (fun r9 u9 H locs hp9 hP hD hS hz => ?_)
              rcases u9 with ⟨j9, t9, P9, w1⟩ | u9
              · dsimp only [zwP] at hp9
                obtain ⟨hjn, hv0, hht9, hpq9, hP16, hr9, hkp, hL1⟩ := hp9
                have e9 := (nI_eq (by omega) (by omega)).mp hv0
                subst e9
                have e8 : t = t9 := Option.some.inj (hhd.symm.trans hht9)
                subst e8
                have e7 : Pq = P9 := (nI_eq (by omega) (by omega)).mp (hPq1.symm.trans hpq9)
                subst e7; subst hr9
                have hP : va_P D vwCl ((g 0, zInts cA 4 cf) :: (g 1, zInts cA 24 (upd tf (12 + t) ((-1)))) :: (g 2, zInts cA 24 ff) :: (g 3, zInts cA 10 (upd (upd vf (6 + q4) ((-1))) (2 + q4) ((ck q4) + (nI ((wayT (zpa (mk q4)) (zsp (mk q4)) (tr t) (le t) Pq 0) + (20 + 2 * dif (4 * q4) (sl t))))))) :: (g 4, zInts cA 40 jj) :: (g 5, zInts cA 20 lt) :: (g 6, zInts cA 20 dd) :: w1) H := hP
                have hD : va_D A ((g 0, zInts cA 4 cf) :: (g 1, zInts cA 24 (upd tf (12 + t) ((-1)))) :: (g 2, zInts cA 24 ff) :: (g 3, zInts cA 10 (upd (upd vf (6 + q4) ((-1))) (2 + q4) ((ck q4) + (nI ((wayT (zpa (mk q4)) (zsp (mk q4)) (tr t) (le t) Pq 0) + (20 + 2 * dif (4 * q4) (sl t))))))) :: (g 4, zInts cA 40 jj) :: (g 5, zInts cA 20 lt) :: (g 6, zInts cA 20 dd) :: w1) := hD
                refine lv_iload hx hb dL_tapes_831 (lv_at hl 2 rfl) ?_
                refine zb_ne (tgt := 841) hx hb dL_tapes_833 (by decide) (fun c_17 => ?_) (fun c_17 => Bool.noConfusion c_17)
                refine lv_iload hx hb dL_tapes_841 (lv_at hl 1 rfl) ?_
                refine zb_eq (tgt := 851) hx hb dL_tapes_843 (by decide) (fun c_18 => Bool.noConfusion c_18) (fun c_18 => ?_)
                refine lv_iload hx hb dL_tapes_846 (lv_at hl 0 rfl) ?_
                refine lv_goto (tgt := 853) hx hb dL_tapes_848 (by decide) ?_
                refine lv_icmp_ne (tgt := 860) hx hb dL_tapes_853 (by decide) (fun c_19 => absurd rfl c_19) (fun c_19 => ?_)
                refine lv_iconst (v := bI (true)) hx hb dL_tapes_856 (by decide) ?_
                refine lv_goto (tgt := 861) hx hb dL_tapes_857 (by decide) ?_
                exact W.widen (k := 8) (n := 64) (by omega) (by omega) (zr_qz (S := va_W) (post := (fun (r : Int32) (u : va_W) => r = bI true ∧ LV cA ad g u)) (w1 := fun u => u) ((g 0, zInts cA 4 cf) :: (g 1, zInts cA 24 (upd tf (12 + t) ((-1)))) :: (g 2, zInts cA 24 ff) :: (g 3, zInts cA 10 (upd (upd vf (6 + q4) ((-1))) (2 + q4) ((ck q4) + (nI ((wayT (zpa (mk q4)) (zsp (mk q4)) (tr t) (le t) Pq 0) + (20 + 2 * dif (4 * q4) (sl t))))))) :: (g 4, zInts cA 40 jj) :: (g 5, zInts cA 20 lt) :: (g 6, zInts cA 20 dd) :: w1) hx hb hr hlocks ⟨rfl, ⟨_, _, _, _, _, _, _, _, _, _, _, _, _, _, _, _, _, _, _, _, _, _, _, _, _, _, _, _, _, _, _, _, _, _, _, _, _, _, _, _, w1, rfl, hL1, hI2, hp2⟩⟩ hP hD hS rfl dL_tapes_861)
              · exact absurd (show (kS (ix (nI (q4)) nd) (fun j => (hd j).isSome)) = 0 from kS_y (ix_in (by omega) hdn) (by rw [hhd]; rfl)) hp9.2.1
          · obtain rfl : bD = false := by rw [hI97]; exact decide_eq_false (Nat.not_lt.mpr hdn)
            refine lv_iload hx hb dL_tapes_715 (lv_at hl 0 rfl) ?_
            refine zb_eq (tgt := 735) hx hb dL_tapes_717 (by decide) (fun c_20 => ?_) (fun c_20 => Bool.noConfusion c_20)
            refine lv_iconst (v := bI (false)) hx hb dL_tapes_735 (by decide) ?_
            refine lv_istore (lv' := [(10, .int (bI (false))), (9, .int (bI (false))), (0, .ref (ad 0)), (1, .int (nI (4))), (2, .int (y)), (3, .ref (g 0)), (4, .ref (g 1)), (5, .ref (g 3)), (6, .int (va)), (7, .int (bI (bA))), (8, .int (nI (q4)))]) hx hb dL_tapes_736 hl (by decide) rfl (fun ls hl => ?_)
            refine lv_iload hx hb dL_tapes_738 (lv_at hl 0 rfl) ?_
            refine zb_eq (tgt := 780) hx hb dL_tapes_740 (by decide) (fun c_21 => ?_) (fun c_21 => Bool.noConfusion c_21)
            refine lv_iconst (v := nI (0)) hx hb dL_tapes_780 (by decide) ?_
            refine lv_istore (lv' := [(11, .int (nI (0))), (10, .int (bI (false))), (9, .int (bI (false))), (0, .ref (ad 0)), (1, .int (nI (4))), (2, .int (y)), (3, .ref (g 0)), (4, .ref (g 1)), (5, .ref (g 3)), (6, .int (va)), (7, .int (bI (bA))), (8, .int (nI (q4)))]) hx hb dL_tapes_781 hl (by decide) rfl (fun ls hl => ?_)
            refine lv_iload hx hb dL_tapes_783 (lv_at hl 1 rfl) ?_
            refine zb_eq (tgt := 824) hx hb dL_tapes_785 (by decide) (fun c_22 => ?_) (fun c_22 => Bool.noConfusion c_22)
            refine lv_aload_n hx hb dL_tapes_824 rfl (lv_at hl 3 rfl) ?_
            refine lv_iconst (v := nI (0)) hx hb dL_tapes_825 (by decide) ?_
            refine lv_iload hx hb dL_tapes_826 (lv_at hl 11 rfl) ?_
            refine ze_H_i (n := 3) (mc := 2) (ms := 12) (ws := cw) (es := [(g 0, zInts cA 4 cf), (g 1, zInts cA 24 tf), (g 2, zInts cA 24 ff), (g 3, zInts cA 10 vf), (g 4, zInts cA 40 jj), (g 5, zInts cA 20 lt), (g 6, zInts cA 20 dd)]) (As := [.ref (ad 0), .int (nI (0)), .int (nI (q4))]) (rest := []) hx hb hml hts hown hZ hX hN [0, 1, 2, 3, 4, 5, 6] rfl rfl hP hD hS hA (c_L_one_0 l D cA _ cw (ad 0) _ l0 _ _ _ _ (kS (ix (nI (q4)) nd) (fun j => (hd j).isSome)) (nI (q4)) (fun sz9 => c_X4_unmount l hlt D cA sz9 cw ad T Bd E PT PB PE n tr le sl mo la fc bo nd mk ck ct hd pq nj fw jf dl dn oc s8 s9 s10 s11 s12 hL hI (nI (q4))) (fun _ _ h => h)) gL_tapes_L_one rfl ⟨rfl, rfl⟩ ⟨by decide +kernel, (Nat.le_of_ble_eq_true rfl), (Nat.le_of_ble_eq_true rfl)⟩ hl.1 rfl (Nat.le_of_ble_eq_true rfl) ⟨(Nat.le_of_ble_eq_true rfl), (Nat.le_of_ble_eq_true rfl)⟩ rfl dL_tapes_828 (fun r9 u9 H locs hp9 hP hD hS hz => ?_)
            rcases u9 with ⟨j9, t9, P9, w1⟩ | u9
            · dsimp only [zwP] at hp9
              obtain ⟨hjn, hv0, hht9, hpq9, hP16, hr9, hkp, hL1⟩ := hp9
              have e9 := (nI_eq (by omega) (by omega)).mp hv0
              omega
            · dsimp only [zwP] at hp9
              obtain ⟨hr9, hK9, E9, hE9⟩ := hp9
              have hr9 : r9 = (-101) := by rw [hr9, show (kS (ix (nI (q4)) nd) (fun j => (hd j).isSome)) = 1 from kS_1 (by rw [ix_nI (by omega), if_neg (by omega)])]; rfl
              subst hr9
              have hP : va_P D vwCl ((g 0, zInts cA 4 cf) :: (g 1, zInts cA 24 tf) :: (g 2, zInts cA 24 ff) :: (g 3, zInts cA 10 vf) :: (g 4, zInts cA 40 jj) :: (g 5, zInts cA 20 lt) :: (g 6, zInts cA 20 dd) :: cw) H := hP
              have hD : va_D A ((g 0, zInts cA 4 cf) :: (g 1, zInts cA 24 tf) :: (g 2, zInts cA 24 ff) :: (g 3, zInts cA 10 vf) :: (g 4, zInts cA 40 jj) :: (g 5, zInts cA 20 lt) :: (g 6, zInts cA 20 dd) :: cw) := hD
              refine lv_iload hx hb dL_tapes_831 (lv_at hl 2 rfl) ?_
              refine zb_ne (tgt := 841) hx hb dL_tapes_833 (by decide) (fun c_23 => Bool.noConfusion c_23) (fun c_23 => ?_)
              refine lv_bipush (v := (-101)) hx hb dL_tapes_836 (by decide) ?_
              refine lv_goto (tgt := 853) hx hb dL_tapes_838 (by decide) ?_
              refine lv_icmp_ne (tgt := 860) hx hb dL_tapes_853 (by decide) (fun c_24 => absurd rfl c_24) (fun c_24 => ?_)
              refine lv_iconst (v := bI (true)) hx hb dL_tapes_856 (by decide) ?_
              refine lv_goto (tgt := 861) hx hb dL_tapes_857 (by decide) ?_
              exact W.widen (k := 8) (n := 64) (by omega) (by omega) (zr_qz (S := va_W) (post := (fun (r : Int32) (u : va_W) => r = bI true ∧ LV cA ad g u)) (w1 := fun u => u) ((g 0, zInts cA 4 cf) :: (g 1, zInts cA 24 tf) :: (g 2, zInts cA 24 ff) :: (g 3, zInts cA 10 vf) :: (g 4, zInts cA 40 jj) :: (g 5, zInts cA 20 lt) :: (g 6, zInts cA 20 dd) :: cw) hx hb hr hlocks ⟨rfl, ⟨_, _, _, _, _, _, _, _, _, _, _, _, _, _, _, _, _, _, _, _, _, _, _, _, _, _, _, _, _, _, _, _, _, _, _, _, _, _, _, _, cw, rfl, hL, hI, hp⟩⟩ hP hD hS rfl dL_tapes_861)
        · skip
          refine lv_iload hx hb dL_tapes_84 (lv_at hl 0 rfl) ?_
          refine lv_aload_n hx hb dL_tapes_86 rfl (lv_at hl 4 rfl) ?_
          refine lv_iconst (v := nI (1)) hx hb dL_tapes_87 (by decide) ?_
          refine va_iald hx hb hZ.1 hP 0 0 rfl rfl (vp_in_nI (show 1 < 4 by omega) (by omega)) dL_tapes_88 ?_
          rw [nI_clamp (show 1 < 2 ^ 31 by omega)]
          refine zx_val (y := nI (nd)) (c1) ?_
          refine zc_ge (tgt := 96) hx hb (by omega) (by omega) dL_tapes_89 (by decide) (fun c_25 => ?_) (fun c_25 => ?_)
          · refine lv_iconst (v := bI (false)) hx hb dL_tapes_96 (by decide) ?_
            exact J97 (false) ls ⟨lv_sub hl [1, 2, 3, 4, 5, 6, 7, 8, 0] rfl, (decide_eq_false (by omega)).symm⟩
          · refine lv_iconst (v := bI (true)) hx hb dL_tapes_92 (by decide) ?_
            refine lv_goto (tgt := 97) hx hb dL_tapes_93 (by decide) ?_
            exact J97 (true) ls ⟨lv_sub hl [1, 2, 3, 4, 5, 6, 7, 8, 0] rfl, (decide_eq_true (by omega)).symm⟩
      · skip
        refine zf_eq (tgt := 73) hx hb (by omega) dL_tapes_64 (by decide) (fun c_26 => ?_) (fun c_26 => ?_)
        · refine lv_iconst (v := nI (1)) hx hb dL_tapes_73 (by decide) ?_
          refine lv_goto (tgt := 78) hx hb dL_tapes_74 (by decide) ?_
          exact J78 (1) ls ⟨lv_sub hl [1, 2, 3, 4, 5, 6, 7, 0] rfl, by omega⟩
        · refine lv_aload_n hx hb dL_tapes_67 rfl (lv_at hl 4 rfl) ?_
          refine lv_iconst (v := nI (1)) hx hb dL_tapes_68 (by decide) ?_
          refine va_iald hx hb hZ.1 hP 0 0 rfl rfl (vp_in_nI (show 1 < 4 by omega) (by omega)) dL_tapes_69 ?_
          rw [nI_clamp (show 1 < 2 ^ 31 by omega)]
          refine zx_val (y := nI (nd)) (c1) ?_
          refine zf_ne (tgt := 77) hx hb (by omega) dL_tapes_70 (by decide) (fun c_27 => ?_) (fun c_27 => ?_)
          · refine lv_iconst (v := nI (0)) hx hb dL_tapes_77 (by decide) ?_
            exact J78 (0) ls ⟨lv_sub hl [1, 2, 3, 4, 5, 6, 7, 0] rfl, by omega⟩
          · refine lv_iconst (v := nI (1)) hx hb dL_tapes_73 (by decide) ?_
            refine lv_goto (tgt := 78) hx hb dL_tapes_74 (by decide) ?_
            exact J78 (1) ls ⟨lv_sub hl [1, 2, 3, 4, 5, 6, 7, 0] rfl, by omega⟩
    · skip
      rcases hAq with ⟨a, han, hva1⟩ | ⟨hAn, hva1 | hva1⟩
      · rw [hva1] at hl
        refine lv_iload hx hb dL_tapes_29 (lv_at hl 0 rfl) ?_
        refine zf_lt (tgt := 46) hx hb (by omega) dL_tapes_31 (by decide) ?_
        refine lv_iload hx hb dL_tapes_34 (lv_at hl 0 rfl) ?_
        refine lv_aload_n hx hb dL_tapes_36 rfl (lv_at hl 4 rfl) ?_
        refine lv_iconst (v := nI (0)) hx hb dL_tapes_37 (by decide) ?_
        refine va_iald hx hb hZ.1 hP 0 0 rfl rfl (vp_in_nI (show 0 < 4 by omega) (by omega)) dL_tapes_38 ?_
        rw [nI_clamp (show 0 < 2 ^ 31 by omega)]
        refine zx_val (y := nI (n)) (c0) ?_
        refine zc_ge (tgt := 46) hx hb (by omega) (by omega) dL_tapes_39 (by decide) (fun c_29 => False.elim (by omega)) (fun c_29 => ?_)
        refine lv_iconst (v := bI (true)) hx hb dL_tapes_42 (by decide) ?_
        refine lv_goto (tgt := 47) hx hb dL_tapes_43 (by decide) ?_
        rw [← hva1] at hl
        exact J47 true ls ⟨lv_sub hl [1, 2, 3, 4, 5, 6, 0] rfl, Or.inl ⟨rfl, a, han, hva1⟩⟩
      · rw [hva1] at hl
        refine lv_iload hx hb dL_tapes_29 (lv_at hl 0 rfl) ?_
        refine lv_if_lt (tgt := 46) hx hb dL_tapes_31 (by decide) (fun c_30 => ?_) (fun c_30 => absurd (by decide) c_30)
        refine lv_iconst (v := bI (false)) hx hb dL_tapes_46 (by decide) ?_
        rw [← hva1] at hl
        exact J47 false ls ⟨lv_sub hl [1, 2, 3, 4, 5, 6, 0] rfl, Or.inr ⟨rfl, hAn⟩⟩
      · rw [hva1] at hl
        refine lv_iload hx hb dL_tapes_29 (lv_at hl 0 rfl) ?_
        refine zf_lt (tgt := 46) hx hb (by omega) dL_tapes_31 (by decide) ?_
        refine lv_iload hx hb dL_tapes_34 (lv_at hl 0 rfl) ?_
        refine lv_aload_n hx hb dL_tapes_36 rfl (lv_at hl 4 rfl) ?_
        refine lv_iconst (v := nI (0)) hx hb dL_tapes_37 (by decide) ?_
        refine va_iald hx hb hZ.1 hP 0 0 rfl rfl (vp_in_nI (show 0 < 4 by omega) (by omega)) dL_tapes_38 ?_
        rw [nI_clamp (show 0 < 2 ^ 31 by omega)]
        refine zx_val (y := nI (n)) (c0) ?_
        refine zc_ge (tgt := 46) hx hb (by omega) (by omega) dL_tapes_39 (by decide) (fun c_32 => ?_) (fun c_32 => False.elim (by omega))
        refine lv_iconst (v := bI (false)) hx hb dL_tapes_46 (by decide) ?_
        rw [← hva1] at hl
        exact J47 false ls ⟨lv_sub hl [1, 2, 3, 4, 5, 6, 0] rfl, Or.inr ⟨rfl, hAn⟩⟩
  · skip
    refine zf_ne (tgt := 25) hx hb (by omega) dL_tapes_18 (by decide) (fun c_33 => ?_) (fun c_33 => ?_)
    · refine lv_iconst (v := nI (0)) hx hb dL_tapes_25 (by decide) ?_
      exact J26 (0) ls ⟨lv_sub hl [0, 1, 2, 3, 4, 5] rfl, by omega⟩
    · refine lv_iconst (v := nI (1)) hx hb dL_tapes_21 (by decide) ?_
      refine lv_goto (tgt := 26) hx hb dL_tapes_22 (by decide) ?_
      exact J26 (1) ls ⟨lv_sub hl [0, 1, 2, 3, 4, 5] rfl, by omega⟩
