set_option maxHeartbeats 4000000 in
set_option maxRecDepth 100000 in
theorem c_L_tapes_2 (l : Launch) (hlt : l.stackTraces = false) (D : va_G) (cA : Nat → ClassId) (sz : Nat) (ad : Nat → Nat) (T : Nat → Nat) (Bd : Nat → Nat) (E : Nat → Nat) (PT : Nat → Nat) (PB : Nat → Nat) (PE : Nat → Nat) (n : Nat) (tr : Nat → Nat) (le : Nat → Nat) (sl : Nat → Nat) (mo : Nat → Option Nat) (la : Nat → Bool) (fc : Nat → Nat) (bo : Nat → Nat → Nat) (nd : Nat) (mk : Nat → Nat) (ck : Nat → Int32) (ct : Nat → Nat) (hd : Nat → Option Nat) (pq : Nat → Int32) (nj : Nat) (fw : Nat → Int32) (jf : Nat → Nat) (dl : Nat → Nat) (dn : Nat) (oc : Nat) (s8 : Nat → Int32) (s9 : Nat → Int32) (s10 : Nat → Int32) (s11 : Nat → Int32) (s12 : Nat → Int32) (cf : Nat → Int32) (tf : Nat → Int32) (ff : Nat → Int32) (vf : Nat → Int32) (jj : Nat → Int32) (lt : Nat → Int32) (dd : Nat → Int32) (jt : Nat → Nat) (fin : Nat → Bool) (g : Nat → Nat) (cw : va_W) (hL : zL cA cw ad T Bd E PT PB PE n tr le sl mo la fc bo nd mk ck ct hd pq nj fw jf dl dn oc s8 s9 s10 s11 s12) (hI : zI n tr le sl mo fc bo nd mk ct hd pq nj fw jf dl) (hp : pL n tr le sl mo la fc bo nd mk ck ct hd pq nj fw jf dl dn cf tf ff vf jj lt dd jt fin) (y : Int32) : Met l yL_tapes wsL_tapes ({ frames := 10, cells := 8, slots := 64, locals := 194 }) (va_Pc [.ref (ad 0), .int (nI (2)), .int (y), .ref (g 0), .ref (g 1), .ref (g 3)] (zMW D cA ((g 0, zInts cA 4 cf) :: (g 1, zInts cA 24 tf) :: (g 2, zInts cA 24 ff) :: (g 3, zInts cA 10 vf) :: (g 4, zInts cA 40 jj) :: (g 5, zInts cA 20 lt) :: (g 6, zInts cA 20 dd) :: cw) sz)) (va_Qi (fun (r : Int32) (u : va_W) => r = bI true ∧ LV cA ad g u) (fun u => zB D (va_A ((g 0, zInts cA 4 cf) :: (g 1, zInts cA 24 tf) :: (g 2, zInts cA 24 ff) :: (g 3, zInts cA 10 vf) :: (g 4, zInts cA 40 jj) :: (g 5, zInts cA 20 lt) :: (g 6, zInts cA 20 dd) :: cw) sz) u) (va_A ((g 0, zInts cA 4 cf) :: (g 1, zInts cA 24 tf) :: (g 2, zInts cA 24 ff) :: (g 3, zInts cA 10 vf) :: (g 4, zInts cA 40 jj) :: (g 5, zInts cA 20 lt) :: (g 6, zInts cA 20 dd) :: cw) sz)) 8 64 (va_A ((g 0, zInts cA 4 cf) :: (g 1, zInts cA 24 tf) :: (g 2, zInts cA 24 ff) :: (g 3, zInts cA 10 vf) :: (g 4, zInts cA 40 jj) :: (g 5, zInts cA 20 lt) :: (g 6, zInts cA 20 dd) :: cw) sz) := by
  refine zOpen (cc := cL_tapes) (maxL := 14) (ret := (some .boolean)) (own := RL) (by decide) rfl rfl (Nat.le_of_ble_eq_true rfl) ?_
  intro p e s m below meth c ls hx hb hr hml hts hown hlocks hnm ⟨⟨⟨hZ, hP, hD0, hsz⟩, hX⟩, hN⟩ hl
  subst hsz
  have hD := hD0.self (sz := s.heap.size)
  generalize hAe : va_A ((g 0, zInts cA 4 cf) :: (g 1, zInts cA 24 tf) :: (g 2, zInts cA 24 ff) :: (g 3, zInts cA 10 vf) :: (g 4, zInts cA 40 jj) :: (g 5, zInts cA 20 lt) :: (g 6, zInts cA 20 dd) :: cw) s.heap.size = A at hD hX ⊢
  have hA : ∀ q : Nat, s.heap.size ≤ q → A q := fun q h => by rw [← hAe]; exact Or.inr h
  have hS : va_S A s.heap s.heap [] := va_S.rf
  have hl : lv_has ls 14 [(0, .ref (ad 0)), (1, .int (nI (2))), (2, .int (y)), (3, .ref (g 0)), (4, .ref (g 1)), (5, .ref (g 3))] := hl
  have hL0 := hL
  have l0 := hL.1.1
  obtain ⟨hn8, hd3, hj60, hIT, hID, hIJ, hIdl, hIw⟩ := id hI
  obtain ⟨⟨hn4, hd2, hj20⟩, ⟨c0, c1, c2, c3⟩, qT, qT0, qF, qV, qV0, qJ, qJ0, qW⟩ := id hp
  refine lv_iload_n hx hb dL_tapes_0 rfl (lv_at hl 2 rfl) ?_
  refine lv_aload_n hx hb dL_tapes_1 rfl (lv_at hl 3 rfl) ?_
  refine lv_iconst (v := nI (0)) hx hb dL_tapes_2 (by decide) ?_
  refine va_iald hx hb hZ.1 hP 0 0 rfl rfl (vp_in_nI (show 0 < 4 by omega) (by omega)) dL_tapes_3 ?_
  rw [nI_clamp (show 0 < 2 ^ 31 by omega)]
  refine zx_val (y := nI (n)) (c0) ?_
  refine lv_iconst (v := nI (1)) hx hb dL_tapes_4 (by decide) ?_
  refine zo_add hx hb dL_tapes_5 ?_
  refine zk_S_i (n := 2) (As := [.int (y), .int (nI (n + 1))]) (rest := []) hx hb hml hts hown hZ hP (c_L_some l D cA _ y (n + 1) (by omega) (by omega)) gL_tapes_L_some rfl ⟨rfl, rfl⟩ ⟨by decide +kernel, (Nat.le_of_ble_eq_true rfl), (Nat.le_of_ble_eq_true rfl)⟩ hl.1 rfl (Nat.le_of_ble_eq_true rfl) ⟨(Nat.le_of_ble_eq_true rfl), (Nat.le_of_ble_eq_true rfl)⟩ rfl dL_tapes_6 (fun r1 hr1 => ?_)
  obtain ⟨q1, hq1, hb1⟩ : ∃ z, r1 = nI z ∧ z < (n + 1) := ⟨_, hr1, sm_lt (by omega)⟩
  subst hq1
  refine lv_iload_n hx hb dL_tapes_9 rfl (lv_at hl 2 rfl) ?_
  refine lv_bipush (v := nI (9)) hx hb dL_tapes_10 (by decide) ?_
  refine lv_ishr hx hb dL_tapes_12 ?_
  refine lv_bipush (v := nI (19)) hx hb dL_tapes_13 (by decide) ?_
  refine zk_S_i (n := 2) (As := [.int ((y) >>> ((nI (9)) &&& 31)), .int (nI (19))]) (rest := [.int (nI (q1))]) hx hb hml hts hown hZ hP (c_L_some l D cA _ ((y) >>> ((nI (9)) &&& 31)) 19 (by omega) (by omega)) gL_tapes_L_some rfl ⟨rfl, rfl⟩ ⟨by decide +kernel, (Nat.le_of_ble_eq_true rfl), (Nat.le_of_ble_eq_true rfl)⟩ hl.1 rfl (Nat.le_of_ble_eq_true rfl) ⟨(Nat.le_of_ble_eq_true rfl), (Nat.le_of_ble_eq_true rfl)⟩ rfl dL_tapes_15 (fun r2 hr2 => ?_)
  obtain ⟨q2, hq2, hb2⟩ : ∃ z, r2 = nI z ∧ z < 19 := ⟨_, hr2, sm_lt (by omega)⟩
  subst hq2
  refine z_join (α := Nat) (pc' := 26) (fun v ls => lv_has ls 14 [(0, .ref (ad 0)), (1, .int (nI (2))), (2, .int (y)), (3, .ref (g 0)), (4, .ref (g 1)), (5, .ref (g 3))] ∧ v ≤ 1) (fun v => [.int (nI (v)), .int (nI (q1))]) ?_ (fun J26 => ?_)
  · intro x1 ls hv
    obtain ⟨hl, hI26⟩ := hv
    have hl : lv_has ls 14 [(0, .ref (ad 0)), (1, .int (nI (2))), (2, .int (y)), (3, .ref (g 0)), (4, .ref (g 1)), (5, .ref (g 3))] := hl
    have hI26 : x1 ≤ 1 := hI26
    obtain ⟨va, hva, hAq⟩ := tapes_va hn4 hb1 hI26
    refine lv_isub hx hb dL_tapes_26 ?_
    refine zx_val (y := va) hva ?_
    refine lv_istore (lv' := [(6, .int (va)), (0, .ref (ad 0)), (1, .int (nI (2))), (2, .int (y)), (3, .ref (g 0)), (4, .ref (g 1)), (5, .ref (g 3))]) hx hb dL_tapes_27 hl (by decide) rfl (fun ls hl => ?_)
    refine z_join (α := Bool) (pc' := 47) (fun bA ls => lv_has ls 14 [(0, .ref (ad 0)), (1, .int (nI (2))), (2, .int (y)), (3, .ref (g 0)), (4, .ref (g 1)), (5, .ref (g 3)), (6, .int (va))] ∧ ((bA = true ∧ ∃ a, a < n ∧ va = nI a) ∨ (bA = false ∧ ∀ j, j < n → va ≠ nI j))) (fun bA => [.int (bI bA)]) ?_ (fun J47 => ?_)
    · intro bA ls hv
      obtain ⟨hl, hAA⟩ := hv
      have hl : lv_has ls 14 [(0, .ref (ad 0)), (1, .int (nI (2))), (2, .int (y)), (3, .ref (g 0)), (4, .ref (g 1)), (5, .ref (g 3)), (6, .int (va))] := hl
      refine lv_istore (lv' := [(7, .int (bI (bA))), (0, .ref (ad 0)), (1, .int (nI (2))), (2, .int (y)), (3, .ref (g 0)), (4, .ref (g 1)), (5, .ref (g 3)), (6, .int (va))]) hx hb dL_tapes_47 hl (by decide) rfl (fun ls hl => ?_)
      refine lv_iload_n hx hb dL_tapes_49 rfl (lv_at hl 3 rfl) ?_
      refine lv_iconst (v := nI (3)) hx hb dL_tapes_50 (by decide) ?_
      refine lv_ishr hx hb dL_tapes_51 ?_
      refine lv_aload_n hx hb dL_tapes_52 rfl (lv_at hl 4 rfl) ?_
      refine lv_iconst (v := nI (1)) hx hb dL_tapes_53 (by decide) ?_
      refine va_iald hx hb hZ.1 hP 0 0 rfl rfl (vp_in_nI (show 1 < 4 by omega) (by omega)) dL_tapes_54 ?_
      rw [nI_clamp (show 1 < 2 ^ 31 by omega)]
      refine zx_val (y := nI (nd)) (c1) ?_
      refine lv_iload_n hx hb dL_tapes_55 rfl (lv_at hl 3 rfl) ?_
      refine lv_bipush (v := nI (7)) hx hb dL_tapes_56 (by decide) ?_
      refine lv_ishr hx hb dL_tapes_58 ?_
      refine lv_bipush (v := nI (9)) hx hb dL_tapes_59 (by decide) ?_
      refine zk_S_i (n := 2) (As := [.int ((y) >>> ((nI (7)) &&& 31)), .int (nI (9))]) (rest := [.int (nI (nd)), .int ((y) >>> ((nI (3)) &&& 31))]) hx hb hml hts hown hZ hP (c_L_some l D cA _ ((y) >>> ((nI (7)) &&& 31)) 9 (by omega) (by omega)) gL_tapes_L_some rfl ⟨rfl, rfl⟩ ⟨by decide +kernel, (Nat.le_of_ble_eq_true rfl), (Nat.le_of_ble_eq_true rfl)⟩ hl.1 rfl (Nat.le_of_ble_eq_true rfl) ⟨(Nat.le_of_ble_eq_true rfl), (Nat.le_of_ble_eq_true rfl)⟩ rfl dL_tapes_61 (fun r3 hr3 => ?_)
      obtain ⟨q3, hq3, hb3⟩ : ∃ z, r3 = nI z ∧ z < 9 := ⟨_, hr3, sm_lt (by omega)⟩
      subst hq3
      refine z_join (α := Nat) (pc' := 78) (fun v ls => lv_has ls 14 [(0, .ref (ad 0)), (1, .int (nI (2))), (2, .int (y)), (3, .ref (g 0)), (4, .ref (g 1)), (5, .ref (g 3)), (6, .int (va)), (7, .int (bI (bA)))] ∧ v ≤ 1 ∧ (nd = 0 → v = 1)) (fun v => [.int (nI (v)), .int (nI (nd)), .int ((y) >>> ((nI (3)) &&& 31))]) ?_ (fun J78 => ?_)
      · intro x2 ls hv
        obtain ⟨hl, hI78⟩ := hv
        have hl : lv_has ls 14 [(0, .ref (ad 0)), (1, .int (nI (2))), (2, .int (y)), (3, .ref (g 0)), (4, .ref (g 1)), (5, .ref (g 3)), (6, .int (va)), (7, .int (bI (bA)))] := hl
        have hI78 : x2 ≤ 1 ∧ (nd = 0 → x2 = 1) := hI78
        refine zo_add hx hb dL_tapes_78 ?_
        obtain ⟨hx2, hx20⟩ := hI78
        refine zk_S_i (n := 2) (As := [.int ((y) >>> ((nI (3)) &&& 31)), .int (nI (nd + x2))]) (rest := []) hx hb hml hts hown hZ hP (c_L_some l D cA _ ((y) >>> ((nI (3)) &&& 31)) (nd + x2) (by omega) (by omega)) gL_tapes_L_some rfl ⟨rfl, rfl⟩ ⟨by decide +kernel, (Nat.le_of_ble_eq_true rfl), (Nat.le_of_ble_eq_true rfl)⟩ hl.1 rfl (Nat.le_of_ble_eq_true rfl) ⟨(Nat.le_of_ble_eq_true rfl), (Nat.le_of_ble_eq_true rfl)⟩ rfl dL_tapes_79 (fun r4 hr4 => ?_)
        obtain ⟨q4, hq4, hb4⟩ : ∃ z, r4 = nI z ∧ z < (nd + x2) := ⟨_, hr4, sm_lt (by omega)⟩
        subst hq4
        refine lv_istore (lv' := [(8, .int (nI (q4))), (0, .ref (ad 0)), (1, .int (nI (2))), (2, .int (y)), (3, .ref (g 0)), (4, .ref (g 1)), (5, .ref (g 3)), (6, .int (va)), (7, .int (bI (bA)))]) hx hb dL_tapes_82 hl (by decide) rfl (fun ls hl => ?_)
        refine z_join (α := Bool) (pc' := 97) (fun v ls => lv_has ls 14 [(0, .ref (ad 0)), (1, .int (nI (2))), (2, .int (y)), (3, .ref (g 0)), (4, .ref (g 1)), (5, .ref (g 3)), (6, .int (va)), (7, .int (bI (bA))), (8, .int (nI (q4)))] ∧ v = decide (q4 < nd)) (fun v => [.int (bI (v))]) ?_ (fun J97 => ?_)
        · intro bD ls hv
          obtain ⟨hl, hI97⟩ := hv
          have hl : lv_has ls 14 [(0, .ref (ad 0)), (1, .int (nI (2))), (2, .int (y)), (3, .ref (g 0)), (4, .ref (g 1)), (5, .ref (g 3)), (6, .int (va)), (7, .int (bI (bA))), (8, .int (nI (q4)))] := hl
          have hI97 : bD = decide (q4 < nd) := hI97
          have hDd : q4 ≤ nd := by omega
          refine lv_istore (lv' := [(9, .int (bI (bD))), (0, .ref (ad 0)), (1, .int (nI (2))), (2, .int (y)), (3, .ref (g 0)), (4, .ref (g 1)), (5, .ref (g 3)), (6, .int (va)), (7, .int (bI (bA))), (8, .int (nI (q4)))]) hx hb dL_tapes_97 hl (by decide) rfl (fun ls hl => ?_)
          refine lv_iload_n hx hb dL_tapes_99 rfl (lv_at hl 2 rfl) ?_
          refine zf_ne (tgt := 290) hx hb (by omega) dL_tapes_100 (by decide) (fun c_1 => ?_) (fun c_1 => False.elim (by omega))
          refine lv_iload_n hx hb dL_tapes_290 rfl (lv_at hl 2 rfl) ?_
          refine lv_iconst (v := nI (1)) hx hb dL_tapes_291 (by decide) ?_
          refine zc_ne (tgt := 392) hx hb (by omega) (by omega) dL_tapes_292 (by decide) (fun c_2 => ?_) (fun c_2 => False.elim (by omega))
          refine lv_iload_n hx hb dL_tapes_392 rfl (lv_at hl 2 rfl) ?_
          refine lv_iconst (v := nI (2)) hx hb dL_tapes_393 (by decide) ?_
          refine zc_ne (tgt := 550) hx hb (by omega) (by omega) dL_tapes_394 (by decide) (fun c_3 => absurd rfl c_3) (fun c_3 => ?_)
          rcases hAA with ⟨rfl, a, han, hva1⟩ | ⟨rfl, hAn⟩
          · rw [hva1] at hl
            obtain ⟨qa1, qa2, qa3, qa4, qa5, qa6, qa7⟩ := qT a han
            obtain ⟨t1, t2, t3, t4, t5, t6, t7, t8, t9x, t10⟩ := hIT a han
            refine lv_iload_n hx hb dL_tapes_397 rfl (lv_at hl 3 rfl) ?_
            refine lv_iconst (v := nI (5)) hx hb dL_tapes_398 (by decide) ?_
            refine lv_ishr hx hb dL_tapes_399 ?_
            refine lv_bipush (v := nI (30)) hx hb dL_tapes_400 (by decide) ?_
            refine zk_S_i (n := 2) (As := [.int ((y) >>> ((nI (5)) &&& 31)), .int (nI (30))]) (rest := []) hx hb hml hts hown hZ hP (c_L_some l D cA _ ((y) >>> ((nI (5)) &&& 31)) 30 (by omega) (by omega)) gL_tapes_L_some rfl ⟨rfl, rfl⟩ ⟨by decide +kernel, (Nat.le_of_ble_eq_true rfl), (Nat.le_of_ble_eq_true rfl)⟩ hl.1 rfl (Nat.le_of_ble_eq_true rfl) ⟨(Nat.le_of_ble_eq_true rfl), (Nat.le_of_ble_eq_true rfl)⟩ rfl dL_tapes_402 (fun r5 hr5 => ?_)
            obtain ⟨q5, hq5, hb5⟩ : ∃ z, r5 = nI z ∧ z < 30 := ⟨_, hr5, sm_lt (by omega)⟩
            subst hq5
            refine z_join (α := Nat) (pc' := 421) (fun v ls => lv_has ls 14 [(0, .ref (ad 0)), (1, .int (nI (2))), (2, .int (y)), (3, .ref (g 0)), (4, .ref (g 1)), (5, .ref (g 3)), (6, .int (nI (a))), (7, .int (bI (true))), (8, .int (nI (q4))), (9, .int (bI (bD)))] ∧ v ≤ 12) (fun v => [.int (nI (v))]) ?_ (fun J421 => ?_)
            · intro so ls hv
              obtain ⟨hl, hI421⟩ := hv
              have hl : lv_has ls 14 [(0, .ref (ad 0)), (1, .int (nI (2))), (2, .int (y)), (3, .ref (g 0)), (4, .ref (g 1)), (5, .ref (g 3)), (6, .int (nI (a))), (7, .int (bI (true))), (8, .int (nI (q4))), (9, .int (bI (bD)))] := hl
              have hI421 : so ≤ 12 := hI421
              refine lv_istore (lv' := [(10, .int (nI (so))), (0, .ref (ad 0)), (1, .int (nI (2))), (2, .int (y)), (3, .ref (g 0)), (4, .ref (g 1)), (5, .ref (g 3)), (6, .int (nI (a))), (7, .int (bI (true))), (8, .int (nI (q4))), (9, .int (bI (bD)))]) hx hb dL_tapes_421 hl (by decide) rfl (fun ls hl => ?_)
              rcases Nat.lt_or_ge so 12 with hs9 | hs9
              · refine lv_iload hx hb dL_tapes_423 (lv_at hl 8 rfl) ?_
                refine zb_eq (tgt := 439) hx hb dL_tapes_425 (by decide) (fun c_4 => Bool.noConfusion c_4) (fun c_4 => ?_)
                refine lv_iload hx hb dL_tapes_428 (lv_at hl 0 rfl) ?_
                refine lv_bipush (v := nI (12)) hx hb dL_tapes_430 (by decide) ?_
                refine zc_ge (tgt := 439) hx hb (by omega) (by omega) dL_tapes_432 (by decide) (fun c_5 => False.elim (by omega)) (fun c_5 => ?_)
                refine lv_iconst (v := bI (true)) hx hb dL_tapes_435 (by decide) ?_
                refine lv_goto (tgt := 440) hx hb dL_tapes_436 (by decide) ?_
                refine lv_istore (lv' := [(11, .int (bI (true))), (10, .int (nI (so))), (0, .ref (ad 0)), (1, .int (nI (2))), (2, .int (y)), (3, .ref (g 0)), (4, .ref (g 1)), (5, .ref (g 3)), (6, .int (nI (a))), (7, .int (bI (true))), (8, .int (nI (q4))), (9, .int (bI (bD)))]) hx hb dL_tapes_440 hl (by decide) rfl (fun ls hl => ?_)
                refine lv_iload hx hb dL_tapes_442 (lv_at hl 0 rfl) ?_
                rcases hmo : mo a with _ | j9
                · have qm : tf (12 + a) = -1 := by rw [qa4, hmo]; rfl
                  refine zb_eq (tgt := 473) hx hb dL_tapes_444 (by decide) (fun c_6 => Bool.noConfusion c_6) (fun c_6 => ?_)
                  refine lv_aload hx hb dL_tapes_447 (lv_at hl 6 rfl) ?_
                  refine lv_bipush (v := nI (12)) hx hb dL_tapes_449 (by decide) ?_
                  refine lv_iload hx hb dL_tapes_451 (lv_at hl 8 rfl) ?_
                  refine zo_add hx hb dL_tapes_453 ?_
                  refine va_iald hx hb hZ.1 hP 1 0 rfl rfl (vp_in_nI (show 12 + a < 24 by omega) (by omega)) dL_tapes_454 ?_
                  rw [nI_clamp (show 12 + a < 2 ^ 31 by omega)]
                  refine zx_val (y := (-1)) (qm) ?_
                  refine lv_if_ge (tgt := 473) hx hb dL_tapes_455 (by decide) (fun c_7 => absurd c_7 (by decide)) (fun c_7 => ?_)
                  refine lv_aload_n hx hb dL_tapes_458 rfl (lv_at hl 5 rfl) ?_
                  refine lv_aload hx hb dL_tapes_459 (lv_at hl 6 rfl) ?_
                  refine lv_iload hx hb dL_tapes_461 (lv_at hl 1 rfl) ?_
                  refine zk_S_i (n := 3) (As := [.ref (g 0), .ref (g 1), .int (nI (so))]) (rest := []) hx hb hml hts hown hZ hP (c_L_isFree l D cA ((g 0, zInts cA 4 cf) :: (g 1, zInts cA 24 tf) :: (g 2, zInts cA 24 ff) :: (g 3, zInts cA 10 vf) :: (g 4, zInts cA 40 jj) :: (g 5, zInts cA 20 lt) :: (g 6, zInts cA 20 dd) :: cw) 0 (g 0) cf rfl 1 (g 1) tf rfl n sl c0 hn4 (fun i hi => ⟨(qT i hi).2.2.1, (hIT i hi).2.2.2.2.1⟩) so (by omega)) gL_tapes_L_isFree rfl ⟨rfl, rfl⟩ ⟨by decide +kernel, (Nat.le_of_ble_eq_true rfl), (Nat.le_of_ble_eq_true rfl)⟩ hl.1 rfl (Nat.le_of_ble_eq_true rfl) ⟨(Nat.le_of_ble_eq_true rfl), (Nat.le_of_ble_eq_true rfl)⟩ rfl dL_tapes_463 (fun r6 hr6 => ?_)
                  obtain rfl := show r6 = bI (fre sl so n) from hr6
                  cases hfr : fre sl so n
                  · refine zb_eq (tgt := 473) hx hb dL_tapes_466 (by decide) (fun c_8 => ?_) (fun c_8 => Bool.noConfusion c_8)
                    refine lv_iconst (v := bI (false)) hx hb dL_tapes_473 (by decide) ?_
                    refine lv_istore (lv' := [(12, .int (bI (false))), (11, .int (bI (true))), (10, .int (nI (so))), (0, .ref (ad 0)), (1, .int (nI (2))), (2, .int (y)), (3, .ref (g 0)), (4, .ref (g 1)), (5, .ref (g 3)), (6, .int (nI (a))), (7, .int (bI (true))), (8, .int (nI (q4))), (9, .int (bI (bD)))]) hx hb dL_tapes_474 hl (by decide) rfl (fun ls hl => ?_)
                    refine lv_iload hx hb dL_tapes_476 (lv_at hl 10 rfl) ?_
                    refine zb_eq (tgt := 492) hx hb dL_tapes_478 (by decide) (fun c_9 => Bool.noConfusion c_9) (fun c_9 => ?_)
                    refine lv_aload hx hb dL_tapes_481 (lv_at hl 7 rfl) ?_
                    refine lv_bipush (v := nI (8)) hx hb dL_tapes_483 (by decide) ?_
                    refine lv_iload hx hb dL_tapes_485 (lv_at hl 9 rfl) ?_
                    refine zo_add hx hb dL_tapes_487 ?_
                    refine va_iald hx hb hZ.1 hP 1 0 rfl rfl (vp_in_nI (show 8 + a < 24 by omega) (by omega)) dL_tapes_488 ?_
                    rw [nI_clamp (show 8 + a < 2 ^ 31 by omega)]
                    refine zx_val (y := nI (sl a)) (qa3) ?_
                    refine lv_goto (tgt := 493) hx hb dL_tapes_489 (by decide) ?_
                    refine lv_istore (lv' := [(13, .int (nI (sl a))), (12, .int (bI (false))), (11, .int (bI (true))), (10, .int (nI (so))), (0, .ref (ad 0)), (1, .int (nI (2))), (2, .int (y)), (3, .ref (g 0)), (4, .ref (g 1)), (5, .ref (g 3)), (6, .int (nI (a))), (7, .int (bI (true))), (8, .int (nI (q4))), (9, .int (bI (bD)))]) hx hb dL_tapes_493 hl (by decide) rfl (fun ls hl => ?_)
                    refine lv_iload hx hb dL_tapes_495 (lv_at hl 1 rfl) ?_
                    refine zb_eq (tgt := 510) hx hb dL_tapes_497 (by decide) (fun c_10 => ?_) (fun c_10 => Bool.noConfusion c_10)
                    refine lv_aload_n hx hb dL_tapes_510 rfl (lv_at hl 4 rfl) ?_
                    refine lv_iconst (v := nI (0)) hx hb dL_tapes_511 (by decide) ?_
                    refine lv_iload hx hb dL_tapes_512 (lv_at hl 10 rfl) ?_
                    refine lv_iload hx hb dL_tapes_514 (lv_at hl 3 rfl) ?_
                    refine ze_H_i (n := 4) (mc := 2) (ms := 12) (ws := cw) (es := [(g 0, zInts cA 4 cf), (g 1, zInts cA 24 tf), (g 2, zInts cA 24 ff), (g 3, zInts cA 10 vf), (g 4, zInts cA 40 jj), (g 5, zInts cA 20 lt), (g 6, zInts cA 20 dd)]) (As := [.ref (ad 0), .int (nI (0)), .int (nI (a)), .int (nI (so))]) (rest := []) hx hb hml hts hown hZ hX hN [0, 1, 2, 3, 4, 5, 6] rfl rfl hP hD hS hA (c_L_two_0 l D cA _ cw (ad 0) _ l0 _ _ _ _ (k2 (ix (nI (a)) n) (ix (nI (so)) 12) (fun t g => !(mo t).isSome && fre sl g n)) (nI (a)) (nI (so)) (fun sz9 => c_X4_carry l hlt D cA sz9 cw ad T Bd E PT PB PE n tr le sl mo la fc bo nd mk ck ct hd pq nj fw jf dl dn oc s8 s9 s10 s11 s12 hL hI (nI (a)) (nI (so))) (fun _ _ h => h)) gL_tapes_L_two rfl ⟨rfl, rfl⟩ ⟨by decide +kernel, (Nat.le_of_ble_eq_true rfl), (Nat.le_of_ble_eq_true rfl)⟩ hl.1 rfl (Nat.le_of_ble_eq_true rfl) ⟨(Nat.le_of_ble_eq_true rfl), (Nat.le_of_ble_eq_true rfl)⟩ rfl dL_tapes_516 (fun r9 u9 H locs hp9 hP hD hS hz => ?_)
                    rcases u9 with ⟨t9, g9, w1⟩ | u9
                    · dsimp only [zwP] at hp9
                      obtain ⟨htn, hv0, hg9, hv1, ⟨hmt, hf9⟩, hr9, hkp, hL1⟩ := hp9
                      have e9 := (nI_eq (by omega) (by omega)).mp hv1
                      rw [← e9, hfr] at hf9; cases hf9
                    · dsimp only [zwP] at hp9
                      obtain ⟨hr9, hK9, E9, hE9⟩ := hp9
                      have hr9 : r9 = (-102) := by rw [hr9, show (k2 (ix (nI (a)) n) (ix (nI (so)) 12) (fun t g => !(mo t).isSome && fre sl g n)) = 2 from k2_n (ix_in (by omega) han) (ix_in (by omega) hs9) (by rw [hfr, Bool.and_false])]; rfl
                      subst hr9
                      have hP : va_P D vwCl ((g 0, zInts cA 4 cf) :: (g 1, zInts cA 24 tf) :: (g 2, zInts cA 24 ff) :: (g 3, zInts cA 10 vf) :: (g 4, zInts cA 40 jj) :: (g 5, zInts cA 20 lt) :: (g 6, zInts cA 20 dd) :: cw) H := hP
                      have hD : va_D A ((g 0, zInts cA 4 cf) :: (g 1, zInts cA 24 tf) :: (g 2, zInts cA 24 ff) :: (g 3, zInts cA 10 vf) :: (g 4, zInts cA 40 jj) :: (g 5, zInts cA 20 lt) :: (g 6, zInts cA 20 dd) :: cw) := hD
                      refine lv_iload hx hb dL_tapes_519 (lv_at hl 2 rfl) ?_
                      refine zb_ne (tgt := 529) hx hb dL_tapes_521 (by decide) (fun c_11 => ?_) (fun c_11 => Bool.noConfusion c_11)
                      refine lv_iload hx hb dL_tapes_529 (lv_at hl 1 rfl) ?_
                      refine zb_eq (tgt := 539) hx hb dL_tapes_531 (by decide) (fun c_12 => ?_) (fun c_12 => Bool.noConfusion c_12)
                      refine lv_bipush (v := (-102)) hx hb dL_tapes_539 (by decide) ?_
                      refine lv_icmp_ne (tgt := 548) hx hb dL_tapes_541 (by decide) (fun c_13 => absurd rfl c_13) (fun c_13 => ?_)
                      refine lv_iconst (v := bI (true)) hx hb dL_tapes_544 (by decide) ?_
                      refine lv_goto (tgt := 549) hx hb dL_tapes_545 (by decide) ?_
                      exact W.widen (k := 8) (n := 64) (by omega) (by omega) (zr_qz (S := va_W) (post := (fun (r : Int32) (u : va_W) => r = bI true ∧ LV cA ad g u)) (w1 := fun u => u) ((g 0, zInts cA 4 cf) :: (g 1, zInts cA 24 tf) :: (g 2, zInts cA 24 ff) :: (g 3, zInts cA 10 vf) :: (g 4, zInts cA 40 jj) :: (g 5, zInts cA 20 lt) :: (g 6, zInts cA 20 dd) :: cw) hx hb hr hlocks ⟨rfl, ⟨_, _, _, _, _, _, _, _, _, _, _, _, _, _, _, _, _, _, _, _, _, _, _, _, _, _, _, _, _, _, _, _, _, _, _, _, _, _, _, _, cw, rfl, hL, hI, hp⟩⟩ hP hD hS rfl dL_tapes_549)
                  · refine zb_eq (tgt := 473) hx hb dL_tapes_466 (by decide) (fun c_14 => Bool.noConfusion c_14) (fun c_14 => ?_)
                    refine lv_iconst (v := bI (true)) hx hb dL_tapes_469 (by decide) ?_
                    refine lv_goto (tgt := 474) hx hb dL_tapes_470 (by decide) ?_
                    refine lv_istore (lv' := [(12, .int (bI (true))), (11, .int (bI (true))), (10, .int (nI (so))), (0, .ref (ad 0)), (1, .int (nI (2))), (2, .int (y)), (3, .ref (g 0)), (4, .ref (g 1)), (5, .ref (g 3)), (6, .int (nI (a))), (7, .int (bI (true))), (8, .int (nI (q4))), (9, .int (bI (bD)))]) hx hb dL_tapes_474 hl (by decide) rfl (fun ls hl => ?_)
                    refine lv_iload hx hb dL_tapes_476 (lv_at hl 10 rfl) ?_
                    refine zb_eq (tgt := 492) hx hb dL_tapes_478 (by decide) (fun c_15 => Bool.noConfusion c_15) (fun c_15 => ?_)
                    refine lv_aload hx hb dL_tapes_481 (lv_at hl 7 rfl) ?_
                    refine lv_bipush (v := nI (8)) hx hb dL_tapes_483 (by decide) ?_
                    refine lv_iload hx hb dL_tapes_485 (lv_at hl 9 rfl) ?_
                    refine zo_add hx hb dL_tapes_487 ?_
                    refine va_iald hx hb hZ.1 hP 1 0 rfl rfl (vp_in_nI (show 8 + a < 24 by omega) (by omega)) dL_tapes_488 ?_
                    rw [nI_clamp (show 8 + a < 2 ^ 31 by omega)]
                    refine zx_val (y := nI (sl a)) (qa3) ?_
                    refine lv_goto (tgt := 493) hx hb dL_tapes_489 (by decide) ?_
                    refine lv_istore (lv' := [(13, .int (nI (sl a))), (12, .int (bI (true))), (11, .int (bI (true))), (10, .int (nI (so))), (0, .ref (ad 0)), (1, .int (nI (2))), (2, .int (y)), (3, .ref (g 0)), (4, .ref (g 1)), (5, .ref (g 3)), (6, .int (nI (a))), (7, .int (bI (true))), (8, .int (nI (q4))), (9, .int (bI (bD)))]) hx hb dL_tapes_493 hl (by decide) rfl (fun ls hl => ?_)
                    refine lv_iload hx hb dL_tapes_495 (lv_at hl 1 rfl) ?_
                    refine zb_eq (tgt := 510) hx hb dL_tapes_497 (by decide) (fun c_16 => Bool.noConfusion c_16) (fun c_16 => ?_)
                    refine lv_aload hx hb dL_tapes_500 (lv_at hl 8 rfl) ?_
                    refine lv_bipush (v := nI (8)) hx hb dL_tapes_502 (by decide) ?_
                    refine lv_iload hx hb dL_tapes_504 (lv_at hl 10 rfl) ?_
                    refine zo_add hx hb dL_tapes_506 ?_
                    refine lv_iload hx hb dL_tapes_507 (lv_at hl 3 rfl) ?_
                    refine va_iast hx hb hZ.1 hP hD hS 1 0 rfl rfl (vp_in_nI (show 8 + a < 24 by omega) (by omega)) dL_tapes_509 (fun H locs hP hD hS => ?_)
                    rw [nI_clamp (show 8 + a < 2 ^ 31 by omega)] at hP hD
                    have hP : va_P D vwCl ((g 0, zInts cA 4 cf) :: (g 1, zInts cA 24 (upd tf (8 + a) (nI (so)))) :: (g 2, zInts cA 24 ff) :: (g 3, zInts cA 10 vf) :: (g 4, zInts cA 40 jj) :: (g 5, zInts cA 20 lt) :: (g 6, zInts cA 20 dd) :: cw) H := hP
                    have hD : va_D A ((g 0, zInts cA 4 cf) :: (g 1, zInts cA 24 (upd tf (8 + a) (nI (so)))) :: (g 2, zInts cA 24 ff) :: (g 3, zInts cA 10 vf) :: (g 4, zInts cA 40 jj) :: (g 5, zInts cA 20 lt) :: (g 6, zInts cA 20 dd) :: cw) := hD
                    obtain ⟨hI2, hp2⟩ := J_carry (t := a) (g := so) hI hp han hs9
                    refine lv_aload_n hx hb dL_tapes_510 rfl (lv_at hl 4 rfl) ?_
                    refine lv_iconst (v := nI (0)) hx hb dL_tapes_511 (by decide) ?_
                    refine lv_iload hx hb dL_tapes_512 (lv_at hl 10 rfl) ?_
                    refine lv_iload hx hb dL_tapes_514 (lv_at hl 3 rfl) ?_
                    refine ze_H_i (n := 4) (mc := 2) (ms := 12) (ws := cw) (es := [(g 0, zInts cA 4 cf), (g 1, zInts cA 24 (upd tf (8 + a) (nI (so)))), (g 2, zInts cA 24 ff), (g 3, zInts cA 10 vf), (g 4, zInts cA 40 jj), (g 5, zInts cA 20 lt), (g 6, zInts cA 20 dd)]) (As := [.ref (ad 0), .int (nI (0)), .int (nI (a)), .int (nI (so))]) (rest := []) hx hb hml hts hown hZ hX hN [0, 1, 2, 3, 4, 5, 6] rfl rfl hP hD hS hA (c_L_two_0 l D cA _ cw (ad 0) _ l0 _ _ _ _ (k2 (ix (nI (a)) n) (ix (nI (so)) 12) (fun t g => !(mo t).isSome && fre sl g n)) (nI (a)) (nI (so)) (fun sz9 => c_X4_carry l hlt D cA sz9 cw ad T Bd E PT PB PE n tr le sl mo la fc bo nd mk ck ct hd pq nj fw jf dl dn oc s8 s9 s10 s11 s12 hL hI (nI (a)) (nI (so))) (fun _ _ h => h)) gL_tapes_L_two rfl ⟨rfl, rfl⟩ ⟨by decide +kernel, (Nat.le_of_ble_eq_true rfl), (Nat.le_of_ble_eq_true rfl)⟩ hl.1 rfl (Nat.le_of_ble_eq_true rfl) ⟨(Nat.le_of_ble_eq_true rfl), (Nat.le_of_ble_eq_true rfl)⟩ rfl dL_tapes_516 (fun r9 u9 H locs hp9 hP hD hS hz => ?_)
                    rcases u9 with ⟨t9, g9, w1⟩ | u9
                    · dsimp only [zwP] at hp9
                      obtain ⟨htn, hv0, hg9, hv1, ⟨hmt, hf9⟩, hr9, hkp, hL1⟩ := hp9
                      have e9 := (nI_eq (by omega) (by omega)).mp hv0
                      have e8 := (nI_eq (by omega) (by omega)).mp hv1
                      subst e9; subst e8; subst hr9
                      have hP : va_P D vwCl ((g 0, zInts cA 4 cf) :: (g 1, zInts cA 24 (upd tf (8 + a) (nI (so)))) :: (g 2, zInts cA 24 ff) :: (g 3, zInts cA 10 vf) :: (g 4, zInts cA 40 jj) :: (g 5, zInts cA 20 lt) :: (g 6, zInts cA 20 dd) :: w1) H := hP
                      have hD : va_D A ((g 0, zInts cA 4 cf) :: (g 1, zInts cA 24 (upd tf (8 + a) (nI (so)))) :: (g 2, zInts cA 24 ff) :: (g 3, zInts cA 10 vf) :: (g 4, zInts cA 40 jj) :: (g 5, zInts cA 20 lt) :: (g 6, zInts cA 20 dd) :: w1) := hD
                      refine lv_iload hx hb dL_tapes_519 (lv_at hl 2 rfl) ?_
                      refine zb_ne (tgt := 529) hx hb dL_tapes_521 (by decide) (fun c_17 => ?_) (fun c_17 => Bool.noConfusion c_17)
                      refine lv_iload hx hb dL_tapes_529 (lv_at hl 1 rfl) ?_
                      refine zb_eq (tgt := 539) hx hb dL_tapes_531 (by decide) (fun c_18 => Bool.noConfusion c_18) (fun c_18 => ?_)
                      refine lv_iload hx hb dL_tapes_534 (lv_at hl 0 rfl) ?_
                      refine lv_goto (tgt := 541) hx hb dL_tapes_536 (by decide) ?_
                      refine zc_ne (tgt := 548) hx hb (by omega) (by omega) dL_tapes_541 (by decide) (fun c_19 => absurd rfl c_19) (fun c_19 => ?_)
                      refine lv_iconst (v := bI (true)) hx hb dL_tapes_544 (by decide) ?_
                      refine lv_goto (tgt := 549) hx hb dL_tapes_545 (by decide) ?_
                      exact W.widen (k := 8) (n := 64) (by omega) (by omega) (zr_qz (S := va_W) (post := (fun (r : Int32) (u : va_W) => r = bI true ∧ LV cA ad g u)) (w1 := fun u => u) ((g 0, zInts cA 4 cf) :: (g 1, zInts cA 24 (upd tf (8 + a) (nI (so)))) :: (g 2, zInts cA 24 ff) :: (g 3, zInts cA 10 vf) :: (g 4, zInts cA 40 jj) :: (g 5, zInts cA 20 lt) :: (g 6, zInts cA 20 dd) :: w1) hx hb hr hlocks ⟨rfl, ⟨_, _, _, _, _, _, _, _, _, _, _, _, _, _, _, _, _, _, _, _, _, _, _, _, _, _, _, _, _, _, _, _, _, _, _, _, _, _, _, _, w1, rfl, hL1, hI2, hp2⟩⟩ hP hD hS rfl dL_tapes_549)
                    · exact absurd (show (k2 (ix (nI (a)) n) (ix (nI (so)) 12) (fun t g => !(mo t).isSome && fre sl g n)) = 0 from k2_y (ix_in (by omega) han) (ix_in (by omega) hs9) (by rw [hmo, hfr]; rfl)) hp9.2.1
                · have qm : tf (12 + a) = nI j9 := by rw [qa4, hmo]; rfl
                  have hj9 := (t6 j9 hmo).1
                  refine zb_eq (tgt := 473) hx hb dL_tapes_444 (by decide) (fun c_20 => Bool.noConfusion c_20) (fun c_20 => ?_)
                  refine lv_aload hx hb dL_tapes_447 (lv_at hl 6 rfl) ?_
                  refine lv_bipush (v := nI (12)) hx hb dL_tapes_449 (by decide) ?_
                  refine lv_iload hx hb dL_tapes_451 (lv_at hl 8 rfl) ?_
                  refine zo_add hx hb dL_tapes_453 ?_
                  refine va_iald hx hb hZ.1 hP 1 0 rfl rfl (vp_in_nI (show 12 + a < 24 by omega) (by omega)) dL_tapes_454 ?_
                  rw [nI_clamp (show 12 + a < 2 ^ 31 by omega)]
                  refine zx_val (y := nI (j9)) (qm) ?_
                  refine zf_ge (tgt := 473) hx hb (by omega) dL_tapes_455 (by decide) ?_
                  refine lv_iconst (v := bI (false)) hx hb dL_tapes_473 (by decide) ?_
                  refine lv_istore (lv' := [(12, .int (bI (false))), (11, .int (bI (true))), (10, .int (nI (so))), (0, .ref (ad 0)), (1, .int (nI (2))), (2, .int (y)), (3, .ref (g 0)), (4, .ref (g 1)), (5, .ref (g 3)), (6, .int (nI (a))), (7, .int (bI (true))), (8, .int (nI (q4))), (9, .int (bI (bD)))]) hx hb dL_tapes_474 hl (by decide) rfl (fun ls hl => ?_)
                  refine lv_iload hx hb dL_tapes_476 (lv_at hl 10 rfl) ?_
                  refine zb_eq (tgt := 492) hx hb dL_tapes_478 (by decide) (fun c_22 => Bool.noConfusion c_22) (fun c_22 => ?_)
                  refine lv_aload hx hb dL_tapes_481 (lv_at hl 7 rfl) ?_
                  refine lv_bipush (v := nI (8)) hx hb dL_tapes_483 (by decide) ?_
                  refine lv_iload hx hb dL_tapes_485 (lv_at hl 9 rfl) ?_
                  refine zo_add hx hb dL_tapes_487 ?_
                  refine va_iald hx hb hZ.1 hP 1 0 rfl rfl (vp_in_nI (show 8 + a < 24 by omega) (by omega)) dL_tapes_488 ?_
                  rw [nI_clamp (show 8 + a < 2 ^ 31 by omega)]
                  refine zx_val (y := nI (sl a)) (qa3) ?_
                  refine lv_goto (tgt := 493) hx hb dL_tapes_489 (by decide) ?_
                  refine lv_istore (lv' := [(13, .int (nI (sl a))), (12, .int (bI (false))), (11, .int (bI (true))), (10, .int (nI (so))), (0, .ref (ad 0)), (1, .int (nI (2))), (2, .int (y)), (3, .ref (g 0)), (4, .ref (g 1)), (5, .ref (g 3)), (6, .int (nI (a))), (7, .int (bI (true))), (8, .int (nI (q4))), (9, .int (bI (bD)))]) hx hb dL_tapes_493 hl (by decide) rfl (fun ls hl => ?_)
                  refine lv_iload hx hb dL_tapes_495 (lv_at hl 1 rfl) ?_
                  refine zb_eq (tgt := 510) hx hb dL_tapes_497 (by decide) (fun c_23 => ?_) (fun c_23 => Bool.noConfusion c_23)
                  refine lv_aload_n hx hb dL_tapes_510 rfl (lv_at hl 4 rfl) ?_
                  refine lv_iconst (v := nI (0)) hx hb dL_tapes_511 (by decide) ?_
                  refine lv_iload hx hb dL_tapes_512 (lv_at hl 10 rfl) ?_
                  refine lv_iload hx hb dL_tapes_514 (lv_at hl 3 rfl) ?_
                  refine ze_H_i (n := 4) (mc := 2) (ms := 12) (ws := cw) (es := [(g 0, zInts cA 4 cf), (g 1, zInts cA 24 tf), (g 2, zInts cA 24 ff), (g 3, zInts cA 10 vf), (g 4, zInts cA 40 jj), (g 5, zInts cA 20 lt), (g 6, zInts cA 20 dd)]) (As := [.ref (ad 0), .int (nI (0)), .int (nI (a)), .int (nI (so))]) (rest := []) hx hb hml hts hown hZ hX hN [0, 1, 2, 3, 4, 5, 6] rfl rfl hP hD hS hA (c_L_two_0 l D cA _ cw (ad 0) _ l0 _ _ _ _ (k2 (ix (nI (a)) n) (ix (nI (so)) 12) (fun t g => !(mo t).isSome && fre sl g n)) (nI (a)) (nI (so)) (fun sz9 => c_X4_carry l hlt D cA sz9 cw ad T Bd E PT PB PE n tr le sl mo la fc bo nd mk ck ct hd pq nj fw jf dl dn oc s8 s9 s10 s11 s12 hL hI (nI (a)) (nI (so))) (fun _ _ h => h)) gL_tapes_L_two rfl ⟨rfl, rfl⟩ ⟨by decide +kernel, (Nat.le_of_ble_eq_true rfl), (Nat.le_of_ble_eq_true rfl)⟩ hl.1 rfl (Nat.le_of_ble_eq_true rfl) ⟨(Nat.le_of_ble_eq_true rfl), (Nat.le_of_ble_eq_true rfl)⟩ rfl dL_tapes_516 (fun r9 u9 H locs hp9 hP hD hS hz => ?_)
                  rcases u9 with ⟨t9, g9, w1⟩ | u9
                  · dsimp only [zwP] at hp9
                    obtain ⟨htn, hv0, hg9, hv1, ⟨hmt, hf9⟩, hr9, hkp, hL1⟩ := hp9
                    have e9 := (nI_eq (by omega) (by omega)).mp hv0
                    rw [← e9, hmo] at hmt; cases hmt
                  · dsimp only [zwP] at hp9
                    obtain ⟨hr9, hK9, E9, hE9⟩ := hp9
                    have hr9 : r9 = (-102) := by rw [hr9, show (k2 (ix (nI (a)) n) (ix (nI (so)) 12) (fun t g => !(mo t).isSome && fre sl g n)) = 2 from k2_n (ix_in (by omega) han) (ix_in (by omega) hs9) (by rw [hmo]; rfl)]; rfl
                    subst hr9
                    have hP : va_P D vwCl ((g 0, zInts cA 4 cf) :: (g 1, zInts cA 24 tf) :: (g 2, zInts cA 24 ff) :: (g 3, zInts cA 10 vf) :: (g 4, zInts cA 40 jj) :: (g 5, zInts cA 20 lt) :: (g 6, zInts cA 20 dd) :: cw) H := hP
                    have hD : va_D A ((g 0, zInts cA 4 cf) :: (g 1, zInts cA 24 tf) :: (g 2, zInts cA 24 ff) :: (g 3, zInts cA 10 vf) :: (g 4, zInts cA 40 jj) :: (g 5, zInts cA 20 lt) :: (g 6, zInts cA 20 dd) :: cw) := hD
                    refine lv_iload hx hb dL_tapes_519 (lv_at hl 2 rfl) ?_
                    refine zb_ne (tgt := 529) hx hb dL_tapes_521 (by decide) (fun c_24 => ?_) (fun c_24 => Bool.noConfusion c_24)
                    refine lv_iload hx hb dL_tapes_529 (lv_at hl 1 rfl) ?_
                    refine zb_eq (tgt := 539) hx hb dL_tapes_531 (by decide) (fun c_25 => ?_) (fun c_25 => Bool.noConfusion c_25)
                    refine lv_bipush (v := (-102)) hx hb dL_tapes_539 (by decide) ?_
                    refine lv_icmp_ne (tgt := 548) hx hb dL_tapes_541 (by decide) (fun c_26 => absurd rfl c_26) (fun c_26 => ?_)
                    refine lv_iconst (v := bI (true)) hx hb dL_tapes_544 (by decide) ?_
                    refine lv_goto (tgt := 549) hx hb dL_tapes_545 (by decide) ?_
                    exact W.widen (k := 8) (n := 64) (by omega) (by omega) (zr_qz (S := va_W) (post := (fun (r : Int32) (u : va_W) => r = bI true ∧ LV cA ad g u)) (w1 := fun u => u) ((g 0, zInts cA 4 cf) :: (g 1, zInts cA 24 tf) :: (g 2, zInts cA 24 ff) :: (g 3, zInts cA 10 vf) :: (g 4, zInts cA 40 jj) :: (g 5, zInts cA 20 lt) :: (g 6, zInts cA 20 dd) :: cw) hx hb hr hlocks ⟨rfl, ⟨_, _, _, _, _, _, _, _, _, _, _, _, _, _, _, _, _, _, _, _, _, _, _, _, _, _, _, _, _, _, _, _, _, _, _, _, _, _, _, _, cw, rfl, hL, hI, hp⟩⟩ hP hD hS rfl dL_tapes_549)
              · obtain rfl : so = 12 := by omega
                refine lv_iload hx hb dL_tapes_423 (lv_at hl 8 rfl) ?_
                refine zb_eq (tgt := 439) hx hb dL_tapes_425 (by decide) (fun c_27 => Bool.noConfusion c_27) (fun c_27 => ?_)
                refine lv_iload hx hb dL_tapes_428 (lv_at hl 0 rfl) ?_
                refine lv_bipush (v := nI (12)) hx hb dL_tapes_430 (by decide) ?_
                refine zc_ge (tgt := 439) hx hb (by omega) (by omega) dL_tapes_432 (by decide) (fun c_28 => ?_) (fun c_28 => False.elim (by omega))
                refine lv_iconst (v := bI (false)) hx hb dL_tapes_439 (by decide) ?_
                refine lv_istore (lv' := [(11, .int (bI (false))), (10, .int (nI (12))), (0, .ref (ad 0)), (1, .int (nI (2))), (2, .int (y)), (3, .ref (g 0)), (4, .ref (g 1)), (5, .ref (g 3)), (6, .int (nI (a))), (7, .int (bI (true))), (8, .int (nI (q4))), (9, .int (bI (bD)))]) hx hb dL_tapes_440 hl (by decide) rfl (fun ls hl => ?_)
                refine lv_iload hx hb dL_tapes_442 (lv_at hl 0 rfl) ?_
                refine zb_eq (tgt := 473) hx hb dL_tapes_444 (by decide) (fun c_29 => ?_) (fun c_29 => Bool.noConfusion c_29)
                refine lv_iconst (v := bI (false)) hx hb dL_tapes_473 (by decide) ?_
                refine lv_istore (lv' := [(12, .int (bI (false))), (11, .int (bI (false))), (10, .int (nI (12))), (0, .ref (ad 0)), (1, .int (nI (2))), (2, .int (y)), (3, .ref (g 0)), (4, .ref (g 1)), (5, .ref (g 3)), (6, .int (nI (a))), (7, .int (bI (true))), (8, .int (nI (q4))), (9, .int (bI (bD)))]) hx hb dL_tapes_474 hl (by decide) rfl (fun ls hl => ?_)
                refine lv_iload hx hb dL_tapes_476 (lv_at hl 10 rfl) ?_
                refine zb_eq (tgt := 492) hx hb dL_tapes_478 (by decide) (fun c_30 => Bool.noConfusion c_30) (fun c_30 => ?_)
                refine lv_aload hx hb dL_tapes_481 (lv_at hl 7 rfl) ?_
                refine lv_bipush (v := nI (8)) hx hb dL_tapes_483 (by decide) ?_
                refine lv_iload hx hb dL_tapes_485 (lv_at hl 9 rfl) ?_
                refine zo_add hx hb dL_tapes_487 ?_
                refine va_iald hx hb hZ.1 hP 1 0 rfl rfl (vp_in_nI (show 8 + a < 24 by omega) (by omega)) dL_tapes_488 ?_
                rw [nI_clamp (show 8 + a < 2 ^ 31 by omega)]
                refine zx_val (y := nI (sl a)) (qa3) ?_
                refine lv_goto (tgt := 493) hx hb dL_tapes_489 (by decide) ?_
                refine lv_istore (lv' := [(13, .int (nI (sl a))), (12, .int (bI (false))), (11, .int (bI (false))), (10, .int (nI (12))), (0, .ref (ad 0)), (1, .int (nI (2))), (2, .int (y)), (3, .ref (g 0)), (4, .ref (g 1)), (5, .ref (g 3)), (6, .int (nI (a))), (7, .int (bI (true))), (8, .int (nI (q4))), (9, .int (bI (bD)))]) hx hb dL_tapes_493 hl (by decide) rfl (fun ls hl => ?_)
                refine lv_iload hx hb dL_tapes_495 (lv_at hl 1 rfl) ?_
                refine zb_eq (tgt := 510) hx hb dL_tapes_497 (by decide) (fun c_31 => ?_) (fun c_31 => Bool.noConfusion c_31)
                refine lv_aload_n hx hb dL_tapes_510 rfl (lv_at hl 4 rfl) ?_
                refine lv_iconst (v := nI (0)) hx hb dL_tapes_511 (by decide) ?_
                refine lv_iload hx hb dL_tapes_512 (lv_at hl 10 rfl) ?_
                refine lv_iload hx hb dL_tapes_514 (lv_at hl 3 rfl) ?_
                refine ze_H_i (n := 4) (mc := 2) (ms := 12) (ws := cw) (es := [(g 0, zInts cA 4 cf), (g 1, zInts cA 24 tf), (g 2, zInts cA 24 ff), (g 3, zInts cA 10 vf), (g 4, zInts cA 40 jj), (g 5, zInts cA 20 lt), (g 6, zInts cA 20 dd)]) (As := [.ref (ad 0), .int (nI (0)), .int (nI (a)), .int (nI (12))]) (rest := []) hx hb hml hts hown hZ hX hN [0, 1, 2, 3, 4, 5, 6] rfl rfl hP hD hS hA (c_L_two_0 l D cA _ cw (ad 0) _ l0 _ _ _ _ (k2 (ix (nI (a)) n) (ix (nI (12)) 12) (fun t g => !(mo t).isSome && fre sl g n)) (nI (a)) (nI (12)) (fun sz9 => c_X4_carry l hlt D cA sz9 cw ad T Bd E PT PB PE n tr le sl mo la fc bo nd mk ck ct hd pq nj fw jf dl dn oc s8 s9 s10 s11 s12 hL hI (nI (a)) (nI (12))) (fun _ _ h => h)) gL_tapes_L_two rfl ⟨rfl, rfl⟩ ⟨by decide +kernel, (Nat.le_of_ble_eq_true rfl), (Nat.le_of_ble_eq_true rfl)⟩ hl.1 rfl (Nat.le_of_ble_eq_true rfl) ⟨(Nat.le_of_ble_eq_true rfl), (Nat.le_of_ble_eq_true rfl)⟩ rfl dL_tapes_516 (fun r9 u9 H locs hp9 hP hD hS hz => ?_)
                rcases u9 with ⟨t9, g9, w1⟩ | u9
                · dsimp only [zwP] at hp9
                  obtain ⟨htn, hv0, hg9, hv1, ⟨hmt, hf9⟩, hr9, hkp, hL1⟩ := hp9
                  have := (nI_eq (by omega) (by omega)).mp hv1; omega
                · dsimp only [zwP] at hp9
                  obtain ⟨hr9, hK9, E9, hE9⟩ := hp9
                  have hr9 : r9 = (-101) := by rw [hr9, show (k2 (ix (nI (a)) n) (ix (nI (12)) 12) (fun t g => !(mo t).isSome && fre sl g n)) = 1 from k2_r (by rw [ix_nI (by omega), if_neg (by omega)])]; rfl
                  subst hr9
                  have hP : va_P D vwCl ((g 0, zInts cA 4 cf) :: (g 1, zInts cA 24 tf) :: (g 2, zInts cA 24 ff) :: (g 3, zInts cA 10 vf) :: (g 4, zInts cA 40 jj) :: (g 5, zInts cA 20 lt) :: (g 6, zInts cA 20 dd) :: cw) H := hP
                  have hD : va_D A ((g 0, zInts cA 4 cf) :: (g 1, zInts cA 24 tf) :: (g 2, zInts cA 24 ff) :: (g 3, zInts cA 10 vf) :: (g 4, zInts cA 40 jj) :: (g 5, zInts cA 20 lt) :: (g 6, zInts cA 20 dd) :: cw) := hD
                  refine lv_iload hx hb dL_tapes_519 (lv_at hl 2 rfl) ?_
                  refine zb_ne (tgt := 529) hx hb dL_tapes_521 (by decide) (fun c_32 => Bool.noConfusion c_32) (fun c_32 => ?_)
                  refine lv_bipush (v := (-101)) hx hb dL_tapes_524 (by decide) ?_
                  refine lv_goto (tgt := 541) hx hb dL_tapes_526 (by decide) ?_
                  refine lv_icmp_ne (tgt := 548) hx hb dL_tapes_541 (by decide) (fun c_33 => absurd rfl c_33) (fun c_33 => ?_)
                  refine lv_iconst (v := bI (true)) hx hb dL_tapes_544 (by decide) ?_
                  refine lv_goto (tgt := 549) hx hb dL_tapes_545 (by decide) ?_
                  exact W.widen (k := 8) (n := 64) (by omega) (by omega) (zr_qz (S := va_W) (post := (fun (r : Int32) (u : va_W) => r = bI true ∧ LV cA ad g u)) (w1 := fun u => u) ((g 0, zInts cA 4 cf) :: (g 1, zInts cA 24 tf) :: (g 2, zInts cA 24 ff) :: (g 3, zInts cA 10 vf) :: (g 4, zInts cA 40 jj) :: (g 5, zInts cA 20 lt) :: (g 6, zInts cA 20 dd) :: cw) hx hb hr hlocks ⟨rfl, ⟨_, _, _, _, _, _, _, _, _, _, _, _, _, _, _, _, _, _, _, _, _, _, _, _, _, _, _, _, _, _, _, _, _, _, _, _, _, _, _, _, cw, rfl, hL, hI, hp⟩⟩ hP hD hS rfl dL_tapes_549)
            · skip
              refine zf_ne (tgt := 413) hx hb (by omega) dL_tapes_405 (by decide) (fun c_34 => ?_) (fun c_34 => ?_)
              · refine lv_iload_n hx hb dL_tapes_413 rfl (lv_at hl 3 rfl) ?_
                refine lv_iconst (v := nI (5)) hx hb dL_tapes_414 (by decide) ?_
                refine lv_ishr hx hb dL_tapes_415 ?_
                refine lv_bipush (v := nI (12)) hx hb dL_tapes_416 (by decide) ?_
                refine zk_S_i (n := 2) (As := [.int ((y) >>> ((nI (5)) &&& 31)), .int (nI (12))]) (rest := []) hx hb hml hts hown hZ hP (c_L_some l D cA _ ((y) >>> ((nI (5)) &&& 31)) 12 (by omega) (by omega)) gL_tapes_L_some rfl ⟨rfl, rfl⟩ ⟨by decide +kernel, (Nat.le_of_ble_eq_true rfl), (Nat.le_of_ble_eq_true rfl)⟩ hl.1 rfl (Nat.le_of_ble_eq_true rfl) ⟨(Nat.le_of_ble_eq_true rfl), (Nat.le_of_ble_eq_true rfl)⟩ rfl dL_tapes_418 (fun r7 hr7 => ?_)
                obtain ⟨q7, hq7, hb7⟩ : ∃ z, r7 = nI z ∧ z < 12 := ⟨_, hr7, sm_lt (by omega)⟩
                subst hq7
                exact J421 (q7) ls ⟨lv_sub hl [1, 2, 3, 4, 5, 6, 7, 8, 9, 0] rfl, by omega⟩
              · refine lv_bipush (v := nI (12)) hx hb dL_tapes_408 (by decide) ?_
                refine lv_goto (tgt := 421) hx hb dL_tapes_410 (by decide) ?_
                exact J421 (12) ls ⟨lv_sub hl [1, 2, 3, 4, 5, 6, 7, 8, 9, 0] rfl, by omega⟩
          · refine lv_iload_n hx hb dL_tapes_397 rfl (lv_at hl 3 rfl) ?_
            refine lv_iconst (v := nI (5)) hx hb dL_tapes_398 (by decide) ?_
            refine lv_ishr hx hb dL_tapes_399 ?_
            refine lv_bipush (v := nI (30)) hx hb dL_tapes_400 (by decide) ?_
            refine zk_S_i (n := 2) (As := [.int ((y) >>> ((nI (5)) &&& 31)), .int (nI (30))]) (rest := []) hx hb hml hts hown hZ hP (c_L_some l D cA _ ((y) >>> ((nI (5)) &&& 31)) 30 (by omega) (by omega)) gL_tapes_L_some rfl ⟨rfl, rfl⟩ ⟨by decide +kernel, (Nat.le_of_ble_eq_true rfl), (Nat.le_of_ble_eq_true rfl)⟩ hl.1 rfl (Nat.le_of_ble_eq_true rfl) ⟨(Nat.le_of_ble_eq_true rfl), (Nat.le_of_ble_eq_true rfl)⟩ rfl dL_tapes_402 (fun r8 hr8 => ?_)
            obtain ⟨q8, hq8, hb8⟩ : ∃ z, r8 = nI z ∧ z < 30 := ⟨_, hr8, sm_lt (by omega)⟩
            subst hq8
            refine z_join (α := Nat) (pc' := 421) (fun v ls => lv_has ls 14 [(0, .ref (ad 0)), (1, .int (nI (2))), (2, .int (y)), (3, .ref (g 0)), (4, .ref (g 1)), (5, .ref (g 3)), (6, .int (va)), (7, .int (bI (false))), (8, .int (nI (q4))), (9, .int (bI (bD)))] ∧ v ≤ 12) (fun v => [.int (nI (v))]) ?_ (fun J421 => ?_)
            · intro so ls hv
              obtain ⟨hl, hI421⟩ := hv
              have hl : lv_has ls 14 [(0, .ref (ad 0)), (1, .int (nI (2))), (2, .int (y)), (3, .ref (g 0)), (4, .ref (g 1)), (5, .ref (g 3)), (6, .int (va)), (7, .int (bI (false))), (8, .int (nI (q4))), (9, .int (bI (bD)))] := hl
              have hI421 : so ≤ 12 := hI421
              refine lv_istore (lv' := [(10, .int (nI (so))), (0, .ref (ad 0)), (1, .int (nI (2))), (2, .int (y)), (3, .ref (g 0)), (4, .ref (g 1)), (5, .ref (g 3)), (6, .int (va)), (7, .int (bI (false))), (8, .int (nI (q4))), (9, .int (bI (bD)))]) hx hb dL_tapes_421 hl (by decide) rfl (fun ls hl => ?_)
              refine lv_iload hx hb dL_tapes_423 (lv_at hl 8 rfl) ?_
              refine zb_eq (tgt := 439) hx hb dL_tapes_425 (by decide) (fun c_35 => ?_) (fun c_35 => Bool.noConfusion c_35)
              refine lv_iconst (v := bI (false)) hx hb dL_tapes_439 (by decide) ?_
              refine lv_istore (lv' := [(11, .int (bI (false))), (10, .int (nI (so))), (0, .ref (ad 0)), (1, .int (nI (2))), (2, .int (y)), (3, .ref (g 0)), (4, .ref (g 1)), (5, .ref (g 3)), (6, .int (va)), (7, .int (bI (false))), (8, .int (nI (q4))), (9, .int (bI (bD)))]) hx hb dL_tapes_440 hl (by decide) rfl (fun ls hl => ?_)
              refine lv_iload hx hb dL_tapes_442 (lv_at hl 0 rfl) ?_
              refine zb_eq (tgt := 473) hx hb dL_tapes_444 (by decide) (fun c_36 => ?_) (fun c_36 => Bool.noConfusion c_36)
              refine lv_iconst (v := bI (false)) hx hb dL_tapes_473 (by decide) ?_
              refine lv_istore (lv' := [(12, .int (bI (false))), (11, .int (bI (false))), (10, .int (nI (so))), (0, .ref (ad 0)), (1, .int (nI (2))), (2, .int (y)), (3, .ref (g 0)), (4, .ref (g 1)), (5, .ref (g 3)), (6, .int (va)), (7, .int (bI (false))), (8, .int (nI (q4))), (9, .int (bI (bD)))]) hx hb dL_tapes_474 hl (by decide) rfl (fun ls hl => ?_)
              refine lv_iload hx hb dL_tapes_476 (lv_at hl 10 rfl) ?_
              refine zb_eq (tgt := 492) hx hb dL_tapes_478 (by decide) (fun c_37 => ?_) (fun c_37 => Bool.noConfusion c_37)
              refine lv_iconst (v := nI (0)) hx hb dL_tapes_492 (by decide) ?_
              refine lv_istore (lv' := [(13, .int (nI (0))), (12, .int (bI (false))), (11, .int (bI (false))), (10, .int (nI (so))), (0, .ref (ad 0)), (1, .int (nI (2))), (2, .int (y)), (3, .ref (g 0)), (4, .ref (g 1)), (5, .ref (g 3)), (6, .int (va)), (7, .int (bI (false))), (8, .int (nI (q4))), (9, .int (bI (bD)))]) hx hb dL_tapes_493 hl (by decide) rfl (fun ls hl => ?_)
              refine lv_iload hx hb dL_tapes_495 (lv_at hl 1 rfl) ?_
              refine zb_eq (tgt := 510) hx hb dL_tapes_497 (by decide) (fun c_38 => ?_) (fun c_38 => Bool.noConfusion c_38)
              refine lv_aload_n hx hb dL_tapes_510 rfl (lv_at hl 4 rfl) ?_
              refine lv_iconst (v := nI (0)) hx hb dL_tapes_511 (by decide) ?_
              refine lv_iload hx hb dL_tapes_512 (lv_at hl 10 rfl) ?_
              refine lv_iload hx hb dL_tapes_514 (lv_at hl 3 rfl) ?_
              refine ze_H_i (n := 4) (mc := 2) (ms := 12) (ws := cw) (es := [(g 0, zInts cA 4 cf), (g 1, zInts cA 24 tf), (g 2, zInts cA 24 ff), (g 3, zInts cA 10 vf), (g 4, zInts cA 40 jj), (g 5, zInts cA 20 lt), (g 6, zInts cA 20 dd)]) (As := [.ref (ad 0), .int (nI (0)), .int (va), .int (nI (so))]) (rest := []) hx hb hml hts hown hZ hX hN [0, 1, 2, 3, 4, 5, 6] rfl rfl hP hD hS hA (c_L_two_0 l D cA _ cw (ad 0) _ l0 _ _ _ _ (k2 (ix va n) (ix (nI (so)) 12) (fun t g => !(mo t).isSome && fre sl g n)) va (nI (so)) (fun sz9 => c_X4_carry l hlt D cA sz9 cw ad T Bd E PT PB PE n tr le sl mo la fc bo nd mk ck ct hd pq nj fw jf dl dn oc s8 s9 s10 s11 s12 hL hI va (nI (so))) (fun _ _ h => h)) gL_tapes_L_two rfl ⟨rfl, rfl⟩ ⟨by decide +kernel, (Nat.le_of_ble_eq_true rfl), (Nat.le_of_ble_eq_true rfl)⟩ hl.1 rfl (Nat.le_of_ble_eq_true rfl) ⟨(Nat.le_of_ble_eq_true rfl), (Nat.le_of_ble_eq_true rfl)⟩ rfl dL_tapes_516 (fun r9 u9 H locs hp9 hP hD hS hz => ?_)
              rcases u9 with ⟨t9, g9, w1⟩ | u9
              · dsimp only [zwP] at hp9
                obtain ⟨htn, hv0, hg9, hv1, ⟨hmt, hf9⟩, hr9, hkp, hL1⟩ := hp9
                exact absurd hv0 (hAn t9 htn)
              · dsimp only [zwP] at hp9
                obtain ⟨hr9, hK9, E9, hE9⟩ := hp9
                have hr9 : r9 = (-101) := by rw [hr9, show (k2 (ix va n) (ix (nI (so)) 12) (fun t g => !(mo t).isSome && fre sl g n)) = 1 from k2_l (ix_none (by omega) hAn)]; rfl
                subst hr9
                have hP : va_P D vwCl ((g 0, zInts cA 4 cf) :: (g 1, zInts cA 24 tf) :: (g 2, zInts cA 24 ff) :: (g 3, zInts cA 10 vf) :: (g 4, zInts cA 40 jj) :: (g 5, zInts cA 20 lt) :: (g 6, zInts cA 20 dd) :: cw) H := hP
                have hD : va_D A ((g 0, zInts cA 4 cf) :: (g 1, zInts cA 24 tf) :: (g 2, zInts cA 24 ff) :: (g 3, zInts cA 10 vf) :: (g 4, zInts cA 40 jj) :: (g 5, zInts cA 20 lt) :: (g 6, zInts cA 20 dd) :: cw) := hD
                refine lv_iload hx hb dL_tapes_519 (lv_at hl 2 rfl) ?_
                refine zb_ne (tgt := 529) hx hb dL_tapes_521 (by decide) (fun c_39 => Bool.noConfusion c_39) (fun c_39 => ?_)
                refine lv_bipush (v := (-101)) hx hb dL_tapes_524 (by decide) ?_
                refine lv_goto (tgt := 541) hx hb dL_tapes_526 (by decide) ?_
                refine lv_icmp_ne (tgt := 548) hx hb dL_tapes_541 (by decide) (fun c_40 => absurd rfl c_40) (fun c_40 => ?_)
                refine lv_iconst (v := bI (true)) hx hb dL_tapes_544 (by decide) ?_
                refine lv_goto (tgt := 549) hx hb dL_tapes_545 (by decide) ?_
                exact W.widen (k := 8) (n := 64) (by omega) (by omega) (zr_qz (S := va_W) (post := (fun (r : Int32) (u : va_W) => r = bI true ∧ LV cA ad g u)) (w1 := fun u => u) ((g 0, zInts cA 4 cf) :: (g 1, zInts cA 24 tf) :: (g 2, zInts cA 24 ff) :: (g 3, zInts cA 10 vf) :: (g 4, zInts cA 40 jj) :: (g 5, zInts cA 20 lt) :: (g 6, zInts cA 20 dd) :: cw) hx hb hr hlocks ⟨rfl, ⟨_, _, _, _, _, _, _, _, _, _, _, _, _, _, _, _, _, _, _, _, _, _, _, _, _, _, _, _, _, _, _, _, _, _, _, _, _, _, _, _, cw, rfl, hL, hI, hp⟩⟩ hP hD hS rfl dL_tapes_549)
            · skip
              refine zf_ne (tgt := 413) hx hb (by omega) dL_tapes_405 (by decide) (fun c_41 => ?_) (fun c_41 => ?_)
              · refine lv_iload_n hx hb dL_tapes_413 rfl (lv_at hl 3 rfl) ?_
                refine lv_iconst (v := nI (5)) hx hb dL_tapes_414 (by decide) ?_
                refine lv_ishr hx hb dL_tapes_415 ?_
                refine lv_bipush (v := nI (12)) hx hb dL_tapes_416 (by decide) ?_
                refine zk_S_i (n := 2) (As := [.int ((y) >>> ((nI (5)) &&& 31)), .int (nI (12))]) (rest := []) hx hb hml hts hown hZ hP (c_L_some l D cA _ ((y) >>> ((nI (5)) &&& 31)) 12 (by omega) (by omega)) gL_tapes_L_some rfl ⟨rfl, rfl⟩ ⟨by decide +kernel, (Nat.le_of_ble_eq_true rfl), (Nat.le_of_ble_eq_true rfl)⟩ hl.1 rfl (Nat.le_of_ble_eq_true rfl) ⟨(Nat.le_of_ble_eq_true rfl), (Nat.le_of_ble_eq_true rfl)⟩ rfl dL_tapes_418 (fun r9 hr9 => ?_)
                obtain ⟨q9, hq9, hb9⟩ : ∃ z, r9 = nI z ∧ z < 12 := ⟨_, hr9, sm_lt (by omega)⟩
                subst hq9
                exact J421 (q9) ls ⟨lv_sub hl [1, 2, 3, 4, 5, 6, 7, 8, 9, 0] rfl, by omega⟩
              · refine lv_bipush (v := nI (12)) hx hb dL_tapes_408 (by decide) ?_
                refine lv_goto (tgt := 421) hx hb dL_tapes_410 (by decide) ?_
                exact J421 (12) ls ⟨lv_sub hl [1, 2, 3, 4, 5, 6, 7, 8, 9, 0] rfl, by omega⟩
        · skip
          refine lv_iload hx hb dL_tapes_84 (lv_at hl 0 rfl) ?_
          refine lv_aload_n hx hb dL_tapes_86 rfl (lv_at hl 4 rfl) ?_
          refine lv_iconst (v := nI (1)) hx hb dL_tapes_87 (by decide) ?_
          refine va_iald hx hb hZ.1 hP 0 0 rfl rfl (vp_in_nI (show 1 < 4 by omega) (by omega)) dL_tapes_88 ?_
          rw [nI_clamp (show 1 < 2 ^ 31 by omega)]
          refine zx_val (y := nI (nd)) (c1) ?_
          refine zc_ge (tgt := 96) hx hb (by omega) (by omega) dL_tapes_89 (by decide) (fun c_42 => ?_) (fun c_42 => ?_)
          · refine lv_iconst (v := bI (false)) hx hb dL_tapes_96 (by decide) ?_
            exact J97 (false) ls ⟨lv_sub hl [1, 2, 3, 4, 5, 6, 7, 8, 0] rfl, (decide_eq_false (by omega)).symm⟩
          · refine lv_iconst (v := bI (true)) hx hb dL_tapes_92 (by decide) ?_
            refine lv_goto (tgt := 97) hx hb dL_tapes_93 (by decide) ?_
            exact J97 (true) ls ⟨lv_sub hl [1, 2, 3, 4, 5, 6, 7, 8, 0] rfl, (decide_eq_true (by omega)).symm⟩
      · skip
        refine zf_eq (tgt := 73) hx hb (by omega) dL_tapes_64 (by decide) (fun c_43 => ?_) (fun c_43 => ?_)
        · refine lv_iconst (v := nI (1)) hx hb dL_tapes_73 (by decide) ?_
          refine lv_goto (tgt := 78) hx hb dL_tapes_74 (by decide) ?_
          exact J78 (1) ls ⟨lv_sub hl [1, 2, 3, 4, 5, 6, 7, 0] rfl, by omega⟩
        · refine lv_aload_n hx hb dL_tapes_67 rfl (lv_at hl 4 rfl) ?_
          refine lv_iconst (v := nI (1)) hx hb dL_tapes_68 (by decide) ?_
          refine va_iald hx hb hZ.1 hP 0 0 rfl rfl (vp_in_nI (show 1 < 4 by omega) (by omega)) dL_tapes_69 ?_
          rw [nI_clamp (show 1 < 2 ^ 31 by omega)]
          refine zx_val (y := nI (nd)) (c1) ?_
          refine zf_ne (tgt := 77) hx hb (by omega) dL_tapes_70 (by decide) (fun c_44 => ?_) (fun c_44 => ?_)
          · refine lv_iconst (v := nI (0)) hx hb dL_tapes_77 (by decide) ?_
            exact J78 (0) ls ⟨lv_sub hl [1, 2, 3, 4, 5, 6, 7, 0] rfl, by omega⟩
          · refine lv_iconst (v := nI (1)) hx hb dL_tapes_73 (by decide) ?_
            refine lv_goto (tgt := 78) hx hb dL_tapes_74 (by decide) ?_
            exact J78 (1) ls ⟨lv_sub hl [1, 2, 3, 4, 5, 6, 7, 0] rfl, by omega⟩
    · skip
      rcases hAq with ⟨a, han, hva1⟩ | ⟨hAn, hva1 | hva1⟩
      · rw [hva1] at hl
        refine lv_iload hx hb dL_tapes_29 (lv_at hl 0 rfl) ?_
        refine zf_lt (tgt := 46) hx hb (by omega) dL_tapes_31 (by decide) ?_
        refine lv_iload hx hb dL_tapes_34 (lv_at hl 0 rfl) ?_
        refine lv_aload_n hx hb dL_tapes_36 rfl (lv_at hl 4 rfl) ?_
        refine lv_iconst (v := nI (0)) hx hb dL_tapes_37 (by decide) ?_
        refine va_iald hx hb hZ.1 hP 0 0 rfl rfl (vp_in_nI (show 0 < 4 by omega) (by omega)) dL_tapes_38 ?_
        rw [nI_clamp (show 0 < 2 ^ 31 by omega)]
        refine zx_val (y := nI (n)) (c0) ?_
        refine zc_ge (tgt := 46) hx hb (by omega) (by omega) dL_tapes_39 (by decide) (fun c_46 => False.elim (by omega)) (fun c_46 => ?_)
        refine lv_iconst (v := bI (true)) hx hb dL_tapes_42 (by decide) ?_
        refine lv_goto (tgt := 47) hx hb dL_tapes_43 (by decide) ?_
        rw [← hva1] at hl
        exact J47 true ls ⟨lv_sub hl [1, 2, 3, 4, 5, 6, 0] rfl, Or.inl ⟨rfl, a, han, hva1⟩⟩
      · rw [hva1] at hl
        refine lv_iload hx hb dL_tapes_29 (lv_at hl 0 rfl) ?_
        refine lv_if_lt (tgt := 46) hx hb dL_tapes_31 (by decide) (fun c_47 => ?_) (fun c_47 => absurd (by decide) c_47)
        refine lv_iconst (v := bI (false)) hx hb dL_tapes_46 (by decide) ?_
        rw [← hva1] at hl
        exact J47 false ls ⟨lv_sub hl [1, 2, 3, 4, 5, 6, 0] rfl, Or.inr ⟨rfl, hAn⟩⟩
      · rw [hva1] at hl
        refine lv_iload hx hb dL_tapes_29 (lv_at hl 0 rfl) ?_
        refine zf_lt (tgt := 46) hx hb (by omega) dL_tapes_31 (by decide) ?_
        refine lv_iload hx hb dL_tapes_34 (lv_at hl 0 rfl) ?_
        refine lv_aload_n hx hb dL_tapes_36 rfl (lv_at hl 4 rfl) ?_
        refine lv_iconst (v := nI (0)) hx hb dL_tapes_37 (by decide) ?_
        refine va_iald hx hb hZ.1 hP 0 0 rfl rfl (vp_in_nI (show 0 < 4 by omega) (by omega)) dL_tapes_38 ?_
        rw [nI_clamp (show 0 < 2 ^ 31 by omega)]
        refine zx_val (y := nI (n)) (c0) ?_
        refine zc_ge (tgt := 46) hx hb (by omega) (by omega) dL_tapes_39 (by decide) (fun c_49 => ?_) (fun c_49 => False.elim (by omega))
        refine lv_iconst (v := bI (false)) hx hb dL_tapes_46 (by decide) ?_
        rw [← hva1] at hl
        exact J47 false ls ⟨lv_sub hl [1, 2, 3, 4, 5, 6, 0] rfl, Or.inr ⟨rfl, hAn⟩⟩
  · skip
    refine zf_ne (tgt := 25) hx hb (by omega) dL_tapes_18 (by decide) (fun c_50 => ?_) (fun c_50 => ?_)
    · refine lv_iconst (v := nI (0)) hx hb dL_tapes_25 (by decide) ?_
      exact J26 (0) ls ⟨lv_sub hl [0, 1, 2, 3, 4, 5] rfl, by omega⟩
    · refine lv_iconst (v := nI (1)) hx hb dL_tapes_21 (by decide) ?_
      refine lv_goto (tgt := 26) hx hb dL_tapes_22 (by decide) ?_
      exact J26 (1) ls ⟨lv_sub hl [0, 1, 2, 3, 4, 5] rfl, by omega⟩
