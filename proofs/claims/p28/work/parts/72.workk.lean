set_option maxHeartbeats 4000000 in
set_option maxRecDepth 100000 in
theorem c_L_works_k (l : Launch) (hlt : l.stackTraces = false) (D : va_G) (cA : Nat → ClassId) (sz : Nat) (ad : Nat → Nat) (T : Nat → Nat) (Bd : Nat → Nat) (E : Nat → Nat) (PT : Nat → Nat) (PB : Nat → Nat) (PE : Nat → Nat) (n : Nat) (tr : Nat → Nat) (le : Nat → Nat) (sl : Nat → Nat) (mo : Nat → Option Nat) (la : Nat → Bool) (fc : Nat → Nat) (bo : Nat → Nat → Nat) (nd : Nat) (mk : Nat → Nat) (ck : Nat → Int32) (ct : Nat → Nat) (hd : Nat → Option Nat) (pq : Nat → Int32) (nj : Nat) (fw : Nat → Int32) (jf : Nat → Nat) (dl : Nat → Nat) (dn : Nat) (oc : Nat) (s8 : Nat → Int32) (s9 : Nat → Int32) (s10 : Nat → Int32) (s11 : Nat → Int32) (s12 : Nat → Int32) (cf : Nat → Int32) (tf : Nat → Int32) (ff : Nat → Int32) (vf : Nat → Int32) (jj : Nat → Int32) (lt : Nat → Int32) (dd : Nat → Int32) (jt : Nat → Nat) (fin : Nat → Bool) (g : Nat → Nat) (cw : va_W) (hL : zL cA cw ad T Bd E PT PB PE n tr le sl mo la fc bo nd mk ck ct hd pq nj fw jf dl dn oc s8 s9 s10 s11 s12) (hI : zI n tr le sl mo fc bo nd mk ct hd pq nj fw jf dl) (hp : pL n tr le sl mo la fc bo nd mk ck ct hd pq nj fw jf dl dn cf tf ff vf jj lt dd jt fin) (y : Int32) (kd : Nat) (hkd : 7 ≤ kd ∧ kd < 2 ^ 31) : Met l yL_works wsL_works ({ frames := 10, cells := 12, slots := 128, locals := 194 }) (va_Pc [.ref (ad 0), .int (nI (kd)), .int (y), .ref (g 0), .ref (g 1), .ref (g 2), .ref (g 3), .ref (g 4), .ref (g 5), .ref (g 6)] (zMW D cA ((g 0, zInts cA 4 cf) :: (g 1, zInts cA 24 tf) :: (g 2, zInts cA 24 ff) :: (g 3, zInts cA 10 vf) :: (g 4, zInts cA 40 jj) :: (g 5, zInts cA 20 lt) :: (g 6, zInts cA 20 dd) :: cw) sz)) (va_Qi (fun (r : Int32) (u : va_W) => r = bI true ∧ LV cA ad g u) (fun u => zB D (va_A ((g 0, zInts cA 4 cf) :: (g 1, zInts cA 24 tf) :: (g 2, zInts cA 24 ff) :: (g 3, zInts cA 10 vf) :: (g 4, zInts cA 40 jj) :: (g 5, zInts cA 20 lt) :: (g 6, zInts cA 20 dd) :: cw) sz) u) (va_A ((g 0, zInts cA 4 cf) :: (g 1, zInts cA 24 tf) :: (g 2, zInts cA 24 ff) :: (g 3, zInts cA 10 vf) :: (g 4, zInts cA 40 jj) :: (g 5, zInts cA 20 lt) :: (g 6, zInts cA 20 dd) :: cw) sz)) 12 128 (va_A ((g 0, zInts cA 4 cf) :: (g 1, zInts cA 24 tf) :: (g 2, zInts cA 24 ff) :: (g 3, zInts cA 10 vf) :: (g 4, zInts cA 40 jj) :: (g 5, zInts cA 20 lt) :: (g 6, zInts cA 20 dd) :: cw) sz) := by
  refine zOpen (cc := cL_works) (maxL := 21) (ret := (some .boolean)) (own := RL) (by decide) rfl rfl (Nat.le_of_ble_eq_true rfl) ?_
  intro p e s m below meth c ls hx hb hr hml hts hown hlocks hnm ⟨⟨⟨hZ, hP, hD0, hsz⟩, hX⟩, hN⟩ hl
  subst hsz
  have hD := hD0.self (sz := s.heap.size)
  generalize hAe : va_A ((g 0, zInts cA 4 cf) :: (g 1, zInts cA 24 tf) :: (g 2, zInts cA 24 ff) :: (g 3, zInts cA 10 vf) :: (g 4, zInts cA 40 jj) :: (g 5, zInts cA 20 lt) :: (g 6, zInts cA 20 dd) :: cw) s.heap.size = A at hD hX ⊢
  have hA : ∀ q : Nat, s.heap.size ≤ q → A q := fun q h => by rw [← hAe]; exact Or.inr h
  have hS : va_S A s.heap s.heap [] := va_S.rf
  have hl : lv_has ls 21 [(0, .ref (ad 0)), (1, .int (nI (kd))), (2, .int (y)), (3, .ref (g 0)), (4, .ref (g 1)), (5, .ref (g 2)), (6, .ref (g 3)), (7, .ref (g 4)), (8, .ref (g 5)), (9, .ref (g 6))] := hl
  have hL0 := hL
  have l0 := hL.1.1
  obtain ⟨hn8, hd3, hj60, hIT, hID, hIJ, hIdl, hIw⟩ := id hI
  obtain ⟨⟨hn4, hd2, hj20⟩, ⟨c0, c1, c2, c3⟩, qT, qT0, qF, qV, qV0, qJ, qJ0, qW⟩ := id hp
  have hIk := hI
  refine lv_iload_n hx hb dL_works_0 rfl (lv_at hl 2 rfl) ?_
  refine lv_iconst (v := nI (3)) hx hb dL_works_1 (by decide) ?_
  refine lv_ishr hx hb dL_works_2 ?_
  refine lv_aload_n hx hb dL_works_3 rfl (lv_at hl 3 rfl) ?_
  refine lv_iconst (v := nI (1)) hx hb dL_works_4 (by decide) ?_
  refine va_iald hx hb hZ.1 hP 0 0 rfl rfl (vp_in_nI (show 1 < 4 by omega) (by omega)) dL_works_5 ?_
  rw [nI_clamp (show 1 < 2 ^ 31 by omega)]
  refine zx_val (y := nI (nd)) (c1) ?_
  refine lv_iload_n hx hb dL_works_6 rfl (lv_at hl 2 rfl) ?_
  refine lv_bipush (v := nI (7)) hx hb dL_works_7 (by decide) ?_
  refine lv_ishr hx hb dL_works_9 ?_
  refine lv_bipush (v := nI (9)) hx hb dL_works_10 (by decide) ?_
  refine zk_S_i (n := 2) (As := [.int ((y) >>> ((nI (7)) &&& 31)), .int (nI (9))]) (rest := [.int (nI (nd)), .int ((y) >>> ((nI (3)) &&& 31))]) hx hb hml hts hown hZ hP (c_L_some l D cA _ ((y) >>> ((nI (7)) &&& 31)) 9 (by omega) (by omega)) gL_works_L_some rfl ⟨rfl, rfl⟩ ⟨by decide +kernel, (Nat.le_of_ble_eq_true rfl), (Nat.le_of_ble_eq_true rfl)⟩ hl.1 rfl (Nat.le_of_ble_eq_true rfl) ⟨(Nat.le_of_ble_eq_true rfl), (Nat.le_of_ble_eq_true rfl)⟩ rfl dL_works_12 (fun r1 hr1 => ?_)
  obtain ⟨q1, hq1, hb1⟩ : ∃ z, r1 = nI z ∧ z < 9 := ⟨_, hr1, sm_lt (by omega)⟩
  subst hq1
  refine z_join (α := Nat) (pc' := 29) (fun v ls => lv_has ls 21 [(0, .ref (ad 0)), (1, .int (nI (kd))), (2, .int (y)), (3, .ref (g 0)), (4, .ref (g 1)), (5, .ref (g 2)), (6, .ref (g 3)), (7, .ref (g 4)), (8, .ref (g 5)), (9, .ref (g 6))] ∧ v ≤ 1 ∧ (nd = 0 → v = 1)) (fun v => [.int (nI (v)), .int (nI (nd)), .int ((y) >>> ((nI (3)) &&& 31))]) ?_ (fun J29 => ?_)
  · intro x2 ls hv
    obtain ⟨hl, hI29⟩ := hv
    have hl : lv_has ls 21 [(0, .ref (ad 0)), (1, .int (nI (kd))), (2, .int (y)), (3, .ref (g 0)), (4, .ref (g 1)), (5, .ref (g 2)), (6, .ref (g 3)), (7, .ref (g 4)), (8, .ref (g 5)), (9, .ref (g 6))] := hl
    have hI29 : x2 ≤ 1 ∧ (nd = 0 → x2 = 1) := hI29
    refine zo_add hx hb dL_works_29 ?_
    obtain ⟨hx2, hx20⟩ := hI29
    refine zk_S_i (n := 2) (As := [.int ((y) >>> ((nI (3)) &&& 31)), .int (nI (nd + x2))]) (rest := []) hx hb hml hts hown hZ hP (c_L_some l D cA _ ((y) >>> ((nI (3)) &&& 31)) (nd + x2) (by omega) (by omega)) gL_works_L_some rfl ⟨rfl, rfl⟩ ⟨by decide +kernel, (Nat.le_of_ble_eq_true rfl), (Nat.le_of_ble_eq_true rfl)⟩ hl.1 rfl (Nat.le_of_ble_eq_true rfl) ⟨(Nat.le_of_ble_eq_true rfl), (Nat.le_of_ble_eq_true rfl)⟩ rfl dL_works_30 (fun r2 hr2 => ?_)
    obtain ⟨q2, hq2, hb2⟩ : ∃ z, r2 = nI z ∧ z < (nd + x2) := ⟨_, hr2, sm_lt (by omega)⟩
    subst hq2
    refine lv_istore (lv' := [(10, .int (nI (q2))), (0, .ref (ad 0)), (1, .int (nI (kd))), (2, .int (y)), (3, .ref (g 0)), (4, .ref (g 1)), (5, .ref (g 2)), (6, .ref (g 3)), (7, .ref (g 4)), (8, .ref (g 5)), (9, .ref (g 6))]) hx hb dL_works_33 hl (by decide) rfl (fun ls hl => ?_)
    refine z_join (α := Bool) (pc' := 48) (fun v ls => lv_has ls 21 [(0, .ref (ad 0)), (1, .int (nI (kd))), (2, .int (y)), (3, .ref (g 0)), (4, .ref (g 1)), (5, .ref (g 2)), (6, .ref (g 3)), (7, .ref (g 4)), (8, .ref (g 5)), (9, .ref (g 6)), (10, .int (nI (q2)))] ∧ v = decide (q2 < nd)) (fun v => [.int (bI (v))]) ?_ (fun J48 => ?_)
    · intro bD ls hv
      obtain ⟨hl, hI48⟩ := hv
      have hl : lv_has ls 21 [(0, .ref (ad 0)), (1, .int (nI (kd))), (2, .int (y)), (3, .ref (g 0)), (4, .ref (g 1)), (5, .ref (g 2)), (6, .ref (g 3)), (7, .ref (g 4)), (8, .ref (g 5)), (9, .ref (g 6)), (10, .int (nI (q2)))] := hl
      have hI48 : bD = decide (q2 < nd) := hI48
      have hDd : q2 ≤ nd := by omega
      refine lv_istore (lv' := [(11, .int (bI (bD))), (0, .ref (ad 0)), (1, .int (nI (kd))), (2, .int (y)), (3, .ref (g 0)), (4, .ref (g 1)), (5, .ref (g 2)), (6, .ref (g 3)), (7, .ref (g 4)), (8, .ref (g 5)), (9, .ref (g 6)), (10, .int (nI (q2)))]) hx hb dL_works_48 hl (by decide) rfl (fun ls hl => ?_)
      rcases Nat.lt_or_ge q2 nd with hdn | hdn
      · obtain rfl : bD = true := by rw [hI48]; exact decide_eq_true hdn
        obtain ⟨qv1, qv2, qv3, qv4, qv5⟩ := qV q2 hdn
        obtain ⟨hmk1, hct1, hpn1, hps1⟩ := hID q2 hdn
        rcases hhd : hd q2 with _ | t
        · have qv6 : vf (6 + q2) = -1 := by rw [qv4, hhd]; rfl
          refine lv_iload hx hb dL_works_50 (lv_at hl 0 rfl) ?_
          refine zb_eq (tgt := 70) hx hb dL_works_52 (by decide) (fun c_1 => Bool.noConfusion c_1) (fun c_1 => ?_)
          refine lv_aload hx hb dL_works_55 (lv_at hl 7 rfl) ?_
          refine lv_bipush (v := nI (6)) hx hb dL_works_57 (by decide) ?_
          refine lv_iload hx hb dL_works_59 (lv_at hl 11 rfl) ?_
          refine zo_add hx hb dL_works_61 ?_
          refine va_iald hx hb hZ.1 hP 3 0 rfl rfl (vp_in_nI (show 6 + q2 < 10 by omega) (by omega)) dL_works_62 ?_
          rw [nI_clamp (show 6 + q2 < 2 ^ 31 by omega)]
          refine zx_val (y := (-1)) (qv6) ?_
          refine lv_if_lt (tgt := 70) hx hb dL_works_63 (by decide) (fun c_2 => ?_) (fun c_2 => absurd (by decide) c_2)
          refine lv_iconst (v := bI (false)) hx hb dL_works_70 (by decide) ?_
          refine lv_istore (lv' := [(12, .int (bI (false))), (11, .int (bI (true))), (0, .ref (ad 0)), (1, .int (nI (kd))), (2, .int (y)), (3, .ref (g 0)), (4, .ref (g 1)), (5, .ref (g 2)), (6, .ref (g 3)), (7, .ref (g 4)), (8, .ref (g 5)), (9, .ref (g 6)), (10, .int (nI (q2)))]) hx hb dL_works_71 hl (by decide) rfl (fun ls hl => ?_)
          refine lv_iload hx hb dL_works_73 (lv_at hl 0 rfl) ?_
          refine zb_eq (tgt := 89) hx hb dL_works_75 (by decide) (fun c_3 => ?_) (fun c_3 => Bool.noConfusion c_3)
          refine lv_iconst (v := nI (0)) hx hb dL_works_89 (by decide) ?_
          refine lv_istore (lv' := [(13, .int (nI (0))), (12, .int (bI (false))), (11, .int (bI (true))), (0, .ref (ad 0)), (1, .int (nI (kd))), (2, .int (y)), (3, .ref (g 0)), (4, .ref (g 1)), (5, .ref (g 2)), (6, .ref (g 3)), (7, .ref (g 4)), (8, .ref (g 5)), (9, .ref (g 6)), (10, .int (nI (q2)))]) hx hb dL_works_90 hl (by decide) rfl (fun ls hl => ?_)
          refine lv_iload_n hx hb dL_works_92 rfl (lv_at hl 4 rfl) ?_
          refine lv_iconst (v := nI (3)) hx hb dL_works_93 (by decide) ?_
          refine zc_ge (tgt := 317) hx hb (by omega) (by omega) dL_works_94 (by decide) (fun c_4 => ?_) (fun c_4 => False.elim (by omega))
          refine lv_iload_n hx hb dL_works_317 rfl (lv_at hl 4 rfl) ?_
          refine lv_iconst (v := nI (3)) hx hb dL_works_318 (by decide) ?_
          refine zc_ne (tgt := 457) hx hb (by omega) (by omega) dL_works_319 (by decide) (fun c_5 => ?_) (fun c_5 => False.elim (by omega))
          refine lv_iload_n hx hb dL_works_457 rfl (lv_at hl 4 rfl) ?_
          refine lv_bipush (v := nI (7)) hx hb dL_works_458 (by decide) ?_
          refine zc_ge (tgt := 723) hx hb (by omega) (by omega) dL_works_460 (by decide) (fun c_6 => ?_) (fun c_6 => False.elim (by omega))
          refine lv_bipush (v := nI (8)) hx hb dL_works_723 (by decide) ?_
          refine z_newF hx hb (hts (.arrayClass .int) (by decide +kernel)) hZ hP hD hS hA 8 (by decide) (Nat.le_of_ble_eq_true rfl) (Nat.le_of_ble_eq_true rfl) dL_works_725 (fun oa H hP hD hS => ?_)
          have hP : va_P D vwCl ((oa, zInts cA 8 (fun _ => nI 0)) :: (g 0, zInts cA 4 cf) :: (g 1, zInts cA 24 tf) :: (g 2, zInts cA 24 ff) :: (g 3, zInts cA 10 vf) :: (g 4, zInts cA 40 jj) :: (g 5, zInts cA 20 lt) :: (g 6, zInts cA 20 dd) :: cw) H := hP
          have hD : va_D A ((oa, zInts cA 8 (fun _ => nI 0)) :: (g 0, zInts cA 4 cf) :: (g 1, zInts cA 24 tf) :: (g 2, zInts cA 24 ff) :: (g 3, zInts cA 10 vf) :: (g 4, zInts cA 40 jj) :: (g 5, zInts cA 20 lt) :: (g 6, zInts cA 20 dd) :: cw) := hD
          refine lv_astore (lv' := [(14, .ref oa), (13, .int (nI (0))), (12, .int (bI (false))), (11, .int (bI (true))), (0, .ref (ad 0)), (1, .int (nI (kd))), (2, .int (y)), (3, .ref (g 0)), (4, .ref (g 1)), (5, .ref (g 2)), (6, .ref (g 3)), (7, .ref (g 4)), (8, .ref (g 5)), (9, .ref (g 6)), (10, .int (nI (q2)))]) hx hb dL_works_727 hl (by decide) rfl (fun ls hl => ?_)
          refine lv_iload hx hb dL_works_729 (lv_at hl 3 rfl) ?_
          refine zb_ne (tgt := 739) hx hb dL_works_731 (by decide) (fun c_7 => ?_) (fun c_7 => Bool.noConfusion c_7)
          refine lv_iload hx hb dL_works_739 (lv_at hl 2 rfl) ?_
          refine zb_eq (tgt := 760) hx hb dL_works_741 (by decide) (fun c_8 => ?_) (fun c_8 => Bool.noConfusion c_8)
          refine lv_bipush (v := (-102)) hx hb dL_works_760 (by decide) ?_
          refine lv_istore (lv' := [(15, .int ((-102))), (14, .ref oa), (13, .int (nI (0))), (12, .int (bI (false))), (11, .int (bI (true))), (0, .ref (ad 0)), (1, .int (nI (kd))), (2, .int (y)), (3, .ref (g 0)), (4, .ref (g 1)), (5, .ref (g 2)), (6, .ref (g 3)), (7, .ref (g 4)), (8, .ref (g 5)), (9, .ref (g 6)), (10, .int (nI (q2)))]) hx hb dL_works_762 hl (by decide) rfl (fun ls hl => ?_)
          refine lv_iload hx hb dL_works_764 (lv_at hl 0 rfl) ?_
          refine lv_if_ne (tgt := 903) hx hb dL_works_766 (by decide) (fun c_9 => ?_) (fun c_9 => absurd c_9 (by decide))
          refine lv_aload_n hx hb dL_works_903 rfl (lv_at hl 5 rfl) ?_
          refine lv_iconst (v := nI (2)) hx hb dL_works_904 (by decide) ?_
          refine lv_iload hx hb dL_works_905 (lv_at hl 15 rfl) ?_
          refine ze_H_i (n := 3) (mc := 4) (ms := 24) (ws := cw) (es := [(oa, zInts cA 8 (fun _ => nI 0)), (g 0, zInts cA 4 cf), (g 1, zInts cA 24 tf), (g 2, zInts cA 24 ff), (g 3, zInts cA 10 vf), (g 4, zInts cA 40 jj), (g 5, zInts cA 20 lt), (g 6, zInts cA 20 dd)]) (As := [.ref (ad 0), .int (nI (2)), .int (nI (q2))]) (rest := []) hx hb hml hts hown hZ hX hN [0, 1, 2, 3, 4, 5, 6, 7] rfl rfl hP hD hS hA (c_L_one_2 l D cA _ cw (ad 0) _ l0 _ _ _ _ (kS (ix (nI (q2)) nd) (fun j => (hd j).isSome && decide (ct j < 12))) (nI (q2)) (fun sz9 => c_X4_work l hlt D cA sz9 cw ad T Bd E PT PB PE n tr le sl mo la fc bo nd mk ck ct hd pq nj fw jf dl dn oc s8 s9 s10 s11 s12 hL hI (nI (q2))) (fun _ _ h => h.1)) gL_works_L_one rfl ⟨rfl, rfl⟩ ⟨by decide +kernel, (Nat.le_of_ble_eq_true rfl), (Nat.le_of_ble_eq_true rfl)⟩ hl.1 rfl (Nat.le_of_ble_eq_true rfl) ⟨(Nat.le_of_ble_eq_true rfl), (Nat.le_of_ble_eq_true rfl)⟩ rfl dL_works_907 (fun r9 u9 H locs hp9 hP hD hS hz => ?_)
          rcases u9 with ⟨j9, t9, P9, w1⟩ | u9
          · dsimp only [zwP] at hp9
            obtain ⟨hjn, hv0, hht9, hpq9, hP16, hct9, hr9, hkp, oc9, x8, x9, x10, x11, x12, hL1⟩ := hp9
            have e9 := (nI_eq (by omega) (by omega)).mp hv0
            rw [← e9, hhd] at hht9; cases hht9
          · dsimp only [zwP] at hp9
            obtain ⟨hr9, hK9, E9, hE9⟩ := hp9
            have hr9 : r9 = (-102) := by rw [hr9, show (kS (ix (nI (q2)) nd) (fun j => (hd j).isSome && decide (ct j < 12))) = 2 from kS_n (ix_in (by omega) hdn) (by rw [hhd]; rfl)]; rfl
            subst hr9
            obtain ⟨-, hkp, oc9, x8, x9, x10, x11, x12, hL1⟩ := hE9
            have hP : va_P D vwCl ((oa, zInts cA 8 (fun _ => nI 0)) :: (g 0, zInts cA 4 cf) :: (g 1, zInts cA 24 tf) :: (g 2, zInts cA 24 ff) :: (g 3, zInts cA 10 vf) :: (g 4, zInts cA 40 jj) :: (g 5, zInts cA 20 lt) :: (g 6, zInts cA 20 dd) :: u9) H := hP
            have hD : va_D A ((oa, zInts cA 8 (fun _ => nI 0)) :: (g 0, zInts cA 4 cf) :: (g 1, zInts cA 24 tf) :: (g 2, zInts cA 24 ff) :: (g 3, zInts cA 10 vf) :: (g 4, zInts cA 40 jj) :: (g 5, zInts cA 20 lt) :: (g 6, zInts cA 20 dd) :: u9) := hD
            refine lv_iload hx hb dL_works_910 (lv_at hl 0 rfl) ?_
            refine lv_icmp_ne (tgt := 919) hx hb dL_works_912 (by decide) (fun c_10 => absurd rfl c_10) (fun c_10 => ?_)
            refine lv_iconst (v := bI (true)) hx hb dL_works_915 (by decide) ?_
            refine lv_goto (tgt := 920) hx hb dL_works_916 (by decide) ?_
            have hP := zd_P hP
            have hD := zd_D hD
            have hP : va_P D vwCl ((g 0, zInts cA 4 cf) :: (g 1, zInts cA 24 tf) :: (g 2, zInts cA 24 ff) :: (g 3, zInts cA 10 vf) :: (g 4, zInts cA 40 jj) :: (g 5, zInts cA 20 lt) :: (g 6, zInts cA 20 dd) :: u9) H := hP
            have hD : va_D A ((g 0, zInts cA 4 cf) :: (g 1, zInts cA 24 tf) :: (g 2, zInts cA 24 ff) :: (g 3, zInts cA 10 vf) :: (g 4, zInts cA 40 jj) :: (g 5, zInts cA 20 lt) :: (g 6, zInts cA 20 dd) :: u9) := hD
            exact W.widen (k := 12) (n := 128) (by omega) (by omega) (zr_qz (S := va_W) (post := (fun (r : Int32) (u : va_W) => r = bI true ∧ LV cA ad g u)) (w1 := fun u => u) ((g 0, zInts cA 4 cf) :: (g 1, zInts cA 24 tf) :: (g 2, zInts cA 24 ff) :: (g 3, zInts cA 10 vf) :: (g 4, zInts cA 40 jj) :: (g 5, zInts cA 20 lt) :: (g 6, zInts cA 20 dd) :: u9) hx hb hr hlocks ⟨rfl, ⟨_, _, _, _, _, _, _, _, _, _, _, _, _, _, _, _, _, _, _, _, _, _, _, _, _, _, _, _, _, _, _, _, _, _, _, _, _, _, _, _, u9, rfl, hL1, hI, hp⟩⟩ hP hD hS rfl dL_works_920)
        · have qv6 : vf (6 + q2) = nI t := by rw [qv4, hhd]; rfl
          obtain ⟨htn, hmt1, Pq, hPq1, hPq2⟩ := hps1 t hhd
          obtain ⟨qa1, qa2, qa3, qa4, qa5, qa6, qa7⟩ := qT t htn
          obtain ⟨t1, t2, t3, t4, t5, t6, t7, t8, t9x, t10⟩ := hIT t htn
          have hm8 : tr t * le t ≤ 8 * 200 := Nat.mul_le_mul t2 t4
          have qv7 : vf (8 + q2) = nI Pq := by rw [qv5 t hhd, hPq1]
          obtain ⟨y1, y2, y3, y4, y5, y6, y7, y8, y9, y10, y11, y12, y13, y14, y15, y16, y17⟩ := fb_of hI hp hdn hhd hPq1 hPq2
          have hw5 := qW t htn
          refine lv_iload hx hb dL_works_50 (lv_at hl 0 rfl) ?_
          refine zb_eq (tgt := 70) hx hb dL_works_52 (by decide) (fun c_11 => Bool.noConfusion c_11) (fun c_11 => ?_)
          refine lv_aload hx hb dL_works_55 (lv_at hl 7 rfl) ?_
          refine lv_bipush (v := nI (6)) hx hb dL_works_57 (by decide) ?_
          refine lv_iload hx hb dL_works_59 (lv_at hl 11 rfl) ?_
          refine zo_add hx hb dL_works_61 ?_
          refine va_iald hx hb hZ.1 hP 3 0 rfl rfl (vp_in_nI (show 6 + q2 < 10 by omega) (by omega)) dL_works_62 ?_
          rw [nI_clamp (show 6 + q2 < 2 ^ 31 by omega)]
          refine zx_val (y := nI (t)) (qv6) ?_
          refine zf_lt (tgt := 70) hx hb (by omega) dL_works_63 (by decide) ?_
          refine lv_iconst (v := bI (true)) hx hb dL_works_66 (by decide) ?_
          refine lv_goto (tgt := 71) hx hb dL_works_67 (by decide) ?_
          refine lv_istore (lv' := [(12, .int (bI (true))), (11, .int (bI (true))), (0, .ref (ad 0)), (1, .int (nI (kd))), (2, .int (y)), (3, .ref (g 0)), (4, .ref (g 1)), (5, .ref (g 2)), (6, .ref (g 3)), (7, .ref (g 4)), (8, .ref (g 5)), (9, .ref (g 6)), (10, .int (nI (q2)))]) hx hb dL_works_71 hl (by decide) rfl (fun ls hl => ?_)
          refine lv_iload hx hb dL_works_73 (lv_at hl 0 rfl) ?_
          refine zb_eq (tgt := 89) hx hb dL_works_75 (by decide) (fun c_13 => Bool.noConfusion c_13) (fun c_13 => ?_)
          refine lv_aload hx hb dL_works_78 (lv_at hl 8 rfl) ?_
          refine lv_bipush (v := nI (6)) hx hb dL_works_80 (by decide) ?_
          refine lv_iload hx hb dL_works_82 (lv_at hl 12 rfl) ?_
          refine zo_add hx hb dL_works_84 ?_
          refine va_iald hx hb hZ.1 hP 3 0 rfl rfl (vp_in_nI (show 6 + q2 < 10 by omega) (by omega)) dL_works_85 ?_
          rw [nI_clamp (show 6 + q2 < 2 ^ 31 by omega)]
          refine zx_val (y := nI (t)) (qv6) ?_
          refine lv_goto (tgt := 90) hx hb dL_works_86 (by decide) ?_
          refine lv_istore (lv' := [(13, .int (nI (t))), (12, .int (bI (true))), (11, .int (bI (true))), (0, .ref (ad 0)), (1, .int (nI (kd))), (2, .int (y)), (3, .ref (g 0)), (4, .ref (g 1)), (5, .ref (g 2)), (6, .ref (g 3)), (7, .ref (g 4)), (8, .ref (g 5)), (9, .ref (g 6)), (10, .int (nI (q2)))]) hx hb dL_works_90 hl (by decide) rfl (fun ls hl => ?_)
          refine lv_iload_n hx hb dL_works_92 rfl (lv_at hl 4 rfl) ?_
          refine lv_iconst (v := nI (3)) hx hb dL_works_93 (by decide) ?_
          refine zc_ge (tgt := 317) hx hb (by omega) (by omega) dL_works_94 (by decide) (fun c_14 => ?_) (fun c_14 => False.elim (by omega))
          refine lv_iload_n hx hb dL_works_317 rfl (lv_at hl 4 rfl) ?_
          refine lv_iconst (v := nI (3)) hx hb dL_works_318 (by decide) ?_
          refine zc_ne (tgt := 457) hx hb (by omega) (by omega) dL_works_319 (by decide) (fun c_15 => ?_) (fun c_15 => False.elim (by omega))
          refine lv_iload_n hx hb dL_works_457 rfl (lv_at hl 4 rfl) ?_
          refine lv_bipush (v := nI (7)) hx hb dL_works_458 (by decide) ?_
          refine zc_ge (tgt := 723) hx hb (by omega) (by omega) dL_works_460 (by decide) (fun c_16 => ?_) (fun c_16 => False.elim (by omega))
          refine lv_bipush (v := nI (8)) hx hb dL_works_723 (by decide) ?_
          refine z_newF hx hb (hts (.arrayClass .int) (by decide +kernel)) hZ hP hD hS hA 8 (by decide) (Nat.le_of_ble_eq_true rfl) (Nat.le_of_ble_eq_true rfl) dL_works_725 (fun oa H hP hD hS => ?_)
          have hP : va_P D vwCl ((oa, zInts cA 8 (fun _ => nI 0)) :: (g 0, zInts cA 4 cf) :: (g 1, zInts cA 24 tf) :: (g 2, zInts cA 24 ff) :: (g 3, zInts cA 10 vf) :: (g 4, zInts cA 40 jj) :: (g 5, zInts cA 20 lt) :: (g 6, zInts cA 20 dd) :: cw) H := hP
          have hD : va_D A ((oa, zInts cA 8 (fun _ => nI 0)) :: (g 0, zInts cA 4 cf) :: (g 1, zInts cA 24 tf) :: (g 2, zInts cA 24 ff) :: (g 3, zInts cA 10 vf) :: (g 4, zInts cA 40 jj) :: (g 5, zInts cA 20 lt) :: (g 6, zInts cA 20 dd) :: cw) := hD
          refine lv_astore (lv' := [(14, .ref oa), (13, .int (nI (t))), (12, .int (bI (true))), (11, .int (bI (true))), (0, .ref (ad 0)), (1, .int (nI (kd))), (2, .int (y)), (3, .ref (g 0)), (4, .ref (g 1)), (5, .ref (g 2)), (6, .ref (g 3)), (7, .ref (g 4)), (8, .ref (g 5)), (9, .ref (g 6)), (10, .int (nI (q2)))]) hx hb dL_works_727 hl (by decide) rfl (fun ls hl => ?_)
          rcases Nat.lt_or_ge (ct q2) 12 with hc9 | hc9
          · refine lv_iload hx hb dL_works_729 (lv_at hl 3 rfl) ?_
            refine zb_ne (tgt := 739) hx hb dL_works_731 (by decide) (fun c_17 => ?_) (fun c_17 => Bool.noConfusion c_17)
            refine lv_iload hx hb dL_works_739 (lv_at hl 2 rfl) ?_
            refine zb_eq (tgt := 760) hx hb dL_works_741 (by decide) (fun c_18 => Bool.noConfusion c_18) (fun c_18 => ?_)
            refine lv_aload hx hb dL_works_744 (lv_at hl 10 rfl) ?_
            refine lv_iconst (v := nI (4)) hx hb dL_works_746 (by decide) ?_
            refine lv_iload hx hb dL_works_747 (lv_at hl 14 rfl) ?_
            refine zo_add hx hb dL_works_749 ?_
            refine va_iald hx hb hZ.1 hP 4 0 rfl rfl (vp_in_nI (show 4 + q2 < 10 by omega) (by omega)) dL_works_750 ?_
            rw [nI_clamp (show 4 + q2 < 2 ^ 31 by omega)]
            refine zx_val (y := nI (ct q2)) (qv3) ?_
            refine lv_bipush (v := nI (12)) hx hb dL_works_751 (by decide) ?_
            refine zc_ge (tgt := 760) hx hb (by omega) (by omega) dL_works_753 (by decide) (fun c_19 => False.elim (by omega)) (fun c_19 => ?_)
            refine lv_iconst (v := nI (0)) hx hb dL_works_756 (by decide) ?_
            refine lv_goto (tgt := 762) hx hb dL_works_757 (by decide) ?_
            refine lv_istore (lv' := [(15, .int (nI (0))), (14, .ref oa), (13, .int (nI (t))), (12, .int (bI (true))), (11, .int (bI (true))), (0, .ref (ad 0)), (1, .int (nI (kd))), (2, .int (y)), (3, .ref (g 0)), (4, .ref (g 1)), (5, .ref (g 2)), (6, .ref (g 3)), (7, .ref (g 4)), (8, .ref (g 5)), (9, .ref (g 6)), (10, .int (nI (q2)))]) hx hb dL_works_762 hl (by decide) rfl (fun ls hl => ?_)
            refine lv_iload hx hb dL_works_764 (lv_at hl 0 rfl) ?_
            refine zf_ne (tgt := 903) hx hb (by omega) dL_works_766 (by decide) (fun c_20 => False.elim (by omega)) (fun c_20 => ?_)
            refine lv_bipush (v := nI (20)) hx hb dL_works_769 (by decide) ?_
            refine z_newF hx hb (hts (.arrayClass .int) (by decide +kernel)) hZ hP hD hS hA 20 (by decide) (Nat.le_of_ble_eq_true rfl) (Nat.le_of_ble_eq_true rfl) dL_works_771 (fun lb H hP hD hS => ?_)
            have hP : va_P D vwCl ((lb, zInts cA 20 (fun _ => nI 0)) :: (oa, zInts cA 8 (fun _ => nI 0)) :: (g 0, zInts cA 4 cf) :: (g 1, zInts cA 24 tf) :: (g 2, zInts cA 24 ff) :: (g 3, zInts cA 10 vf) :: (g 4, zInts cA 40 jj) :: (g 5, zInts cA 20 lt) :: (g 6, zInts cA 20 dd) :: cw) H := hP
            have hD : va_D A ((lb, zInts cA 20 (fun _ => nI 0)) :: (oa, zInts cA 8 (fun _ => nI 0)) :: (g 0, zInts cA 4 cf) :: (g 1, zInts cA 24 tf) :: (g 2, zInts cA 24 ff) :: (g 3, zInts cA 10 vf) :: (g 4, zInts cA 40 jj) :: (g 5, zInts cA 20 lt) :: (g 6, zInts cA 20 dd) :: cw) := hD
            refine lv_astore (lv' := [(16, .ref lb), (15, .int (nI (0))), (14, .ref oa), (13, .int (nI (t))), (12, .int (bI (true))), (11, .int (bI (true))), (0, .ref (ad 0)), (1, .int (nI (kd))), (2, .int (y)), (3, .ref (g 0)), (4, .ref (g 1)), (5, .ref (g 2)), (6, .ref (g 3)), (7, .ref (g 4)), (8, .ref (g 5)), (9, .ref (g 6)), (10, .int (nI (q2)))]) hx hb dL_works_773 hl (by decide) rfl (fun ls hl => ?_)
            refine lv_aload_n hx hb dL_works_775 rfl (lv_at hl 9 rfl) ?_
            refine lv_aload hx hb dL_works_776 (lv_at hl 13 rfl) ?_
            refine lv_aload hx hb dL_works_778 (lv_at hl 15 rfl) ?_
            refine lv_iload hx hb dL_works_780 (lv_at hl 3 rfl) ?_
            refine lv_aload hx hb dL_works_782 (lv_at hl 0 rfl) ?_
            refine zw_S_i (n := 5) (mc := 0) (ms := 0) (w1 := fun u : Unit => (lb, zInts cA 20 (colF (fun _ => nI 0) (wl fw (nI t) nj))) :: (oa, zInts cA 8 (fun _ => nI 0)) :: (g 0, zInts cA 4 cf) :: (g 1, zInts cA 24 tf) :: (g 2, zInts cA 24 ff) :: (g 3, zInts cA 10 vf) :: (g 4, zInts cA 40 jj) :: (g 5, zInts cA 20 lt) :: (g 6, zInts cA 20 dd) :: cw) (As := [.ref (g 0), .ref (g 4), .ref (g 6), .int (nI (t)), .ref lb]) (rest := []) hx hb hml hts hown hZ hP hD hS hA (c_L_listed l D cA _ ((lb, zInts cA 20 (fun _ => nI 0)) :: (oa, zInts cA 8 (fun _ => nI 0)) :: (g 0, zInts cA 4 cf) :: (g 1, zInts cA 24 tf) :: (g 2, zInts cA 24 ff) :: (g 3, zInts cA 10 vf) :: (g 4, zInts cA 40 jj) :: (g 5, zInts cA 20 lt) :: (g 6, zInts cA 20 dd) :: cw) 2 (g 0) cf rfl 6 (g 4) jj rfl 8 (g 6) dd rfl nj t jt fin fw c2 hj20 (by omega) (hjob_of hp) 0 lb 20 (fun _ => nI 0) rfl (by have := qW t (by omega); omega) (by decide) (by decide) (by decide) (by decide)) gL_works_L_listed rfl ⟨rfl, rfl⟩ ⟨by decide +kernel, (Nat.le_of_ble_eq_true rfl), (Nat.le_of_ble_eq_true rfl)⟩ hl.1 rfl (Nat.le_of_ble_eq_true rfl) ⟨(Nat.le_of_ble_eq_true rfl), (Nat.le_of_ble_eq_true rfl)⟩ rfl dL_works_784 (fun r9 u9 H locs hp9 hP hD hS hz => ?_)
            obtain rfl := show r9 = nI ((wl fw (nI t) nj).length) from hp9
            have hP : va_P D vwCl ((lb, zInts cA 20 (colF (fun _ => nI 0) (wl fw (nI t) nj))) :: (oa, zInts cA 8 (fun _ => nI 0)) :: (g 0, zInts cA 4 cf) :: (g 1, zInts cA 24 tf) :: (g 2, zInts cA 24 ff) :: (g 3, zInts cA 10 vf) :: (g 4, zInts cA 40 jj) :: (g 5, zInts cA 20 lt) :: (g 6, zInts cA 20 dd) :: cw) H := hP
            have hD : va_D A ((lb, zInts cA 20 (colF (fun _ => nI 0) (wl fw (nI t) nj))) :: (oa, zInts cA 8 (fun _ => nI 0)) :: (g 0, zInts cA 4 cf) :: (g 1, zInts cA 24 tf) :: (g 2, zInts cA 24 ff) :: (g 3, zInts cA 10 vf) :: (g 4, zInts cA 40 jj) :: (g 5, zInts cA 20 lt) :: (g 6, zInts cA 20 dd) :: cw) := hD
            refine lv_istore (lv' := [(17, .int (nI ((wl fw (nI t) nj).length))), (16, .ref lb), (15, .int (nI (0))), (14, .ref oa), (13, .int (nI (t))), (12, .int (bI (true))), (11, .int (bI (true))), (0, .ref (ad 0)), (1, .int (nI (kd))), (2, .int (y)), (3, .ref (g 0)), (4, .ref (g 1)), (5, .ref (g 2)), (6, .ref (g 3)), (7, .ref (g 4)), (8, .ref (g 5)), (9, .ref (g 6)), (10, .int (nI (q2)))]) hx hb dL_works_787 hl (by decide) rfl (fun ls hl => ?_)
            refine lv_aload_n hx hb dL_works_789 rfl (lv_at hl 10 rfl) ?_
            refine lv_aload hx hb dL_works_790 (lv_at hl 11 rfl) ?_
            refine lv_aload hx hb dL_works_792 (lv_at hl 12 rfl) ?_
            refine lv_aload hx hb dL_works_794 (lv_at hl 13 rfl) ?_
            refine lv_aload hx hb dL_works_796 (lv_at hl 14 rfl) ?_
            refine lv_aload hx hb dL_works_798 (lv_at hl 16 rfl) ?_
            refine lv_iload hx hb dL_works_800 (lv_at hl 17 rfl) ?_
            refine lv_aload hx hb dL_works_802 (lv_at hl 3 rfl) ?_
            refine zw_S_i (n := 8) (mc := 2) (ms := 16) (w1 := fun u : Nat → Int32 => (lb, zInts cA 20 (colF (fun _ => nI 0) (wl fw (nI t) nj))) :: (oa, zInts cA 8 u) :: (g 0, zInts cA 4 cf) :: (g 1, zInts cA 24 tf) :: (g 2, zInts cA 24 ff) :: (g 3, zInts cA 10 vf) :: (g 4, zInts cA 40 jj) :: (g 5, zInts cA 20 lt) :: (g 6, zInts cA 20 dd) :: cw) (As := [.ref (g 0), .ref (g 1), .ref (g 2), .ref (g 3), .ref (g 4), .ref (g 6), .int (nI (q2)), .ref oa]) (rest := []) hx hb hml hts hown hZ hP hD hS hA (c_L_best l D cA _ ((lb, zInts cA 20 (colF (fun _ => nI 0) (wl fw (nI t) nj))) :: (oa, zInts cA 8 (fun _ => nI 0)) :: (g 0, zInts cA 4 cf) :: (g 1, zInts cA 24 tf) :: (g 2, zInts cA 24 ff) :: (g 3, zInts cA 10 vf) :: (g 4, zInts cA 40 jj) :: (g 5, zInts cA 20 lt) :: (g 6, zInts cA 20 dd) :: cw) 2 (g 0) cf rfl 3 (g 1) tf rfl 4 (g 2) ff rfl 5 (g 3) vf rfl 6 (g 4) jj rfl 8 (g 6) dd rfl nj jt fin fw c2 hj20 (hjob_of hp) q2 t (tr t) (le t) (mk q2) y1 y2 y3 y4 y5 y6 y7 y8 y9 y10 y11 Pq y12 y13 (bo t) (fc t) y14 y15 y16 y17 (wl fw (nI t) nj).length rfl hw5 jf (hR_of hp htn) (LG mk tr le bo jf q2 t Pq (wl fw (nI t) nj)) (hlg_of hp htn) (hpb_of hI hp htn) 1 oa (fun _ => nI 0) rfl (by decide) (by decide) (by decide) (by decide) (by decide) (by decide)) gL_works_L_best rfl ⟨rfl, rfl⟩ ⟨by decide +kernel, (Nat.le_of_ble_eq_true rfl), (Nat.le_of_ble_eq_true rfl)⟩ hl.1 rfl (Nat.le_of_ble_eq_true rfl) ⟨(Nat.le_of_ble_eq_true rfl), (Nat.le_of_ble_eq_true rfl)⟩ rfl dL_works_804 (fun rb9 ub9 H locs hb9 hP hD hS hz => ?_)
            obtain ⟨hbr9, hub9⟩ := hb9
            obtain rfl := show rb9 = nI (BT (LG mk tr le bo jf q2 t Pq (wl fw (nI t) nj)) (wl fw (nI t) nj).length (np 0) 7) from hbr9
            have hP : va_P D vwCl ((lb, zInts cA 20 (colF (fun _ => nI 0) (wl fw (nI t) nj))) :: (oa, zInts cA 8 ub9) :: (g 0, zInts cA 4 cf) :: (g 1, zInts cA 24 tf) :: (g 2, zInts cA 24 ff) :: (g 3, zInts cA 10 vf) :: (g 4, zInts cA 40 jj) :: (g 5, zInts cA 20 lt) :: (g 6, zInts cA 20 dd) :: cw) H := hP
            have hD : va_D A ((lb, zInts cA 20 (colF (fun _ => nI 0) (wl fw (nI t) nj))) :: (oa, zInts cA 8 ub9) :: (g 0, zInts cA 4 cf) :: (g 1, zInts cA 24 tf) :: (g 2, zInts cA 24 ff) :: (g 3, zInts cA 10 vf) :: (g 4, zInts cA 40 jj) :: (g 5, zInts cA 20 lt) :: (g 6, zInts cA 20 dd) :: cw) := hD
            refine lv_pop hx hb dL_works_807 rfl ?_
            refine lv_iconst (v := nI (0)) hx hb dL_works_808 (by decide) ?_
            refine lv_istore (lv' := [(18, .int (nI (0))), (17, .int (nI ((wl fw (nI t) nj).length))), (16, .ref lb), (15, .int (nI (0))), (14, .ref oa), (13, .int (nI (t))), (12, .int (bI (true))), (11, .int (bI (true))), (0, .ref (ad 0)), (1, .int (nI (kd))), (2, .int (y)), (3, .ref (g 0)), (4, .ref (g 1)), (5, .ref (g 2)), (6, .ref (g 3)), (7, .ref (g 4)), (8, .ref (g 5)), (9, .ref (g 6)), (10, .int (nI (q2)))]) hx hb dL_works_809 hl (by decide) rfl (fun ls hl => ?_)
            have hBl : ∀ i, i < (wl fw (nI t) nj).length → (BO (LG mk tr le bo jf q2 t Pq (wl fw (nI t) nj)) (wl fw (nI t) nj).length (np 0) 7).getD i 0 < (wl fw (nI t) nj).length := fun i hi => BO_lt _ (getD_mem (by rw [BO_ln]; exact hi))
            have hJm : ∀ i, i < (wl fw (nI t) nj).length → (fun i9 => (wl fw (nI t) nj).getD ((BO (LG mk tr le bo jf q2 t Pq (wl fw (nI t) nj)) (wl fw (nI t) nj).length (np 0) 7).getD i9 0) 0) i ∈ (wl fw (nI t) nj) := fun i hi => getD_mem (hBl i hi)
            have hwp : ∀ i, i ≤ (wl fw (nI t) nj).length → (wkP bo jf t (fun i9 => (wl fw (nI t) nj).getD ((BO (LG mk tr le bo jf q2 t Pq (wl fw (nI t) nj)) (wl fw (nI t) nj).length (np 0) 7).getD i9 0) 0) Pq i) ≤ tr t * le t := fun i hi => by
              cases i with
              | zero => exact hPq2
              | succ i => exact y17 (jf ((fun i9 => (wl fw (nI t) nj).getD ((BO (LG mk tr le bo jf q2 t Pq (wl fw (nI t) nj)) (wl fw (nI t) nj).length (np 0) 7).getD i9 0) 0) i) + 1) (by have := (hR_of hp htn _ (hJm i (by omega))).2.2.2; omega)
            have k0 : va_up ct q2 (ct q2 + 0) = ct := va_up_id ct q2
            have k1 : va_up pq q2 (nI (wkP bo jf t (fun i9 => (wl fw (nI t) nj).getD ((BO (LG mk tr le bo jf q2 t Pq (wl fw (nI t) nj)) (wl fw (nI t) nj).length (np 0) 7).getD i9 0) 0) Pq 0)) = pq := va_up_eq hPq1
            have k2 : va_up ck q2 (wkC mk tr le bo jf q2 t (fun i9 => (wl fw (nI t) nj).getD ((BO (LG mk tr le bo jf q2 t Pq (wl fw (nI t) nj)) (wl fw (nI t) nj).length (np 0) 7).getD i9 0) 0) Pq (ck q2) 0) = ck := va_up_id ck q2
            have hI00 : zI n tr le sl mo fc bo nd mk (va_up ct q2 (ct q2 + 0)) hd (va_up pq q2 (nI (wkP bo jf t (fun i9 => (wl fw (nI t) nj).getD ((BO (LG mk tr le bo jf q2 t Pq (wl fw (nI t) nj)) (wl fw (nI t) nj).length (np 0) 7).getD i9 0) 0) Pq 0))) nj (wkF (fun i9 => (wl fw (nI t) nj).getD ((BO (LG mk tr le bo jf q2 t Pq (wl fw (nI t) nj)) (wl fw (nI t) nj).length (np 0) 7).getD i9 0) 0) fw 0) jf dl := by rw [k0, k1]; exact hI
            have hp00 : pL n tr le sl mo la fc bo nd mk (va_up ck q2 (wkC mk tr le bo jf q2 t (fun i9 => (wl fw (nI t) nj).getD ((BO (LG mk tr le bo jf q2 t Pq (wl fw (nI t) nj)) (wl fw (nI t) nj).length (np 0) 7).getD i9 0) 0) Pq (ck q2) 0)) (va_up ct q2 (ct q2 + 0)) hd (va_up pq q2 (nI (wkP bo jf t (fun i9 => (wl fw (nI t) nj).getD ((BO (LG mk tr le bo jf q2 t Pq (wl fw (nI t) nj)) (wl fw (nI t) nj).length (np 0) 7).getD i9 0) 0) Pq 0))) nj (wkF (fun i9 => (wl fw (nI t) nj).getD ((BO (LG mk tr le bo jf q2 t Pq (wl fw (nI t) nj)) (wl fw (nI t) nj).length (np 0) 7).getD i9 0) 0) fw 0) jf dl (dn + 0) cf tf ff vf jj lt dd jt fin := by rw [k0, k1, k2]; exact hp
            refine z_loopW (α := Nat × Nat × (Nat → Int32) × (Nat → Int32) × (Nat → Int32) × (Nat → Bool)) (fun v => (min (wl fw (nI t) nj).length (12 - ct q2)) - v.2.1) (fun v H locs ls => lv_has ls 21 [(17, .int (nI ((wl fw (nI t) nj).length))), (16, .ref lb), (14, .ref oa), (13, .int (nI (t))), (12, .int (bI (true))), (11, .int (bI (true))), (0, .ref (ad 0)), (1, .int (nI (kd))), (2, .int (y)), (3, .ref (g 0)), (4, .ref (g 1)), (5, .ref (g 2)), (6, .ref (g 3)), (7, .ref (g 4)), (8, .ref (g 5)), (9, .ref (g 6)), (10, .int (nI (q2))), (15, .int (nI (v.1))), (18, .int (nI (v.2.1)))] ∧ va_P D vwCl ((lb, zInts cA 20 (colF (fun _ => nI 0) (wl fw (nI t) nj))) :: (oa, zInts cA 8 ub9) :: (g 0, zInts cA 4 v.2.2.1) :: (g 1, zInts cA 24 tf) :: (g 2, zInts cA 24 ff) :: (g 3, zInts cA 10 v.2.2.2.1) :: (g 4, zInts cA 40 jj) :: (g 5, zInts cA 20 lt) :: (g 6, zInts cA 20 v.2.2.2.2.1) :: cw) H ∧ va_D A ((lb, zInts cA 20 (colF (fun _ => nI 0) (wl fw (nI t) nj))) :: (oa, zInts cA 8 ub9) :: (g 0, zInts cA 4 v.2.2.1) :: (g 1, zInts cA 24 tf) :: (g 2, zInts cA 24 ff) :: (g 3, zInts cA 10 v.2.2.2.1) :: (g 4, zInts cA 40 jj) :: (g 5, zInts cA 20 lt) :: (g 6, zInts cA 20 v.2.2.2.2.1) :: cw) ∧ va_S A s.heap H locs ∧ v.2.1 ≤ (min (wl fw (nI t) nj).length (12 - ct q2)) ∧ v.1 = (wkL mk tr le bo jf dl q2 t (fun i9 => (wl fw (nI t) nj).getD ((BO (LG mk tr le bo jf q2 t Pq (wl fw (nI t) nj)) (wl fw (nI t) nj).length (np 0) 7).getD i9 0) 0) Pq (ck q2) v.2.1) ∧ zI n tr le sl mo fc bo nd mk (va_up ct q2 (ct q2 + v.2.1)) hd (va_up pq q2 (nI (wkP bo jf t (fun i9 => (wl fw (nI t) nj).getD ((BO (LG mk tr le bo jf q2 t Pq (wl fw (nI t) nj)) (wl fw (nI t) nj).length (np 0) 7).getD i9 0) 0) Pq v.2.1))) nj (wkF (fun i9 => (wl fw (nI t) nj).getD ((BO (LG mk tr le bo jf q2 t Pq (wl fw (nI t) nj)) (wl fw (nI t) nj).length (np 0) 7).getD i9 0) 0) fw v.2.1) jf dl ∧ pL n tr le sl mo la fc bo nd mk (va_up ck q2 (wkC mk tr le bo jf q2 t (fun i9 => (wl fw (nI t) nj).getD ((BO (LG mk tr le bo jf q2 t Pq (wl fw (nI t) nj)) (wl fw (nI t) nj).length (np 0) 7).getD i9 0) 0) Pq (ck q2) v.2.1)) (va_up ct q2 (ct q2 + v.2.1)) hd (va_up pq q2 (nI (wkP bo jf t (fun i9 => (wl fw (nI t) nj).getD ((BO (LG mk tr le bo jf q2 t Pq (wl fw (nI t) nj)) (wl fw (nI t) nj).length (np 0) 7).getD i9 0) 0) Pq v.2.1))) nj (wkF (fun i9 => (wl fw (nI t) nj).getD ((BO (LG mk tr le bo jf q2 t Pq (wl fw (nI t) nj)) (wl fw (nI t) nj).length (np 0) 7).getD i9 0) 0) fw v.2.1) jf dl (dn + v.2.1) v.2.2.1 tf ff v.2.2.2.1 jj lt v.2.2.2.2.1 jt v.2.2.2.2.2) (fun _ => []) (0, 0, cf, vf, dd, fin) ⟨lv_sub hl [1, 2, 4, 5, 6, 7, 8, 9, 10, 11, 12, 13, 14, 15, 16, 17, 18, 3, 0] rfl, hP, hD, hS, ⟨Nat.zero_le _, rfl, hI00, hp00⟩⟩ ?_
            intro v ih811 H locs ls hv
            obtain ⟨du, iw, cv, vv, dv, fv⟩ := v
            obtain ⟨hl, hP, hD, hS, hI⟩ := hv
            have hP : va_P D vwCl ((lb, zInts cA 20 (colF (fun _ => nI 0) (wl fw (nI t) nj))) :: (oa, zInts cA 8 ub9) :: (g 0, zInts cA 4 cv) :: (g 1, zInts cA 24 tf) :: (g 2, zInts cA 24 ff) :: (g 3, zInts cA 10 vv) :: (g 4, zInts cA 40 jj) :: (g 5, zInts cA 20 lt) :: (g 6, zInts cA 20 dv) :: cw) H := hP
            have hD : va_D A ((lb, zInts cA 20 (colF (fun _ => nI 0) (wl fw (nI t) nj))) :: (oa, zInts cA 8 ub9) :: (g 0, zInts cA 4 cv) :: (g 1, zInts cA 24 tf) :: (g 2, zInts cA 24 ff) :: (g 3, zInts cA 10 vv) :: (g 4, zInts cA 40 jj) :: (g 5, zInts cA 20 lt) :: (g 6, zInts cA 20 dv) :: cw) := hD
            have hl : lv_has ls 21 [(17, .int (nI ((wl fw (nI t) nj).length))), (16, .ref lb), (14, .ref oa), (13, .int (nI (t))), (12, .int (bI (true))), (11, .int (bI (true))), (0, .ref (ad 0)), (1, .int (nI (kd))), (2, .int (y)), (3, .ref (g 0)), (4, .ref (g 1)), (5, .ref (g 2)), (6, .ref (g 3)), (7, .ref (g 4)), (8, .ref (g 5)), (9, .ref (g 6)), (10, .int (nI (q2))), (15, .int (nI (du))), (18, .int (nI (iw)))] := hl
            have hI : iw ≤ (min (wl fw (nI t) nj).length (12 - ct q2)) ∧ du = (wkL mk tr le bo jf dl q2 t (fun i9 => (wl fw (nI t) nj).getD ((BO (LG mk tr le bo jf q2 t Pq (wl fw (nI t) nj)) (wl fw (nI t) nj).length (np 0) 7).getD i9 0) 0) Pq (ck q2) iw) ∧ zI n tr le sl mo fc bo nd mk (va_up ct q2 (ct q2 + iw)) hd (va_up pq q2 (nI (wkP bo jf t (fun i9 => (wl fw (nI t) nj).getD ((BO (LG mk tr le bo jf q2 t Pq (wl fw (nI t) nj)) (wl fw (nI t) nj).length (np 0) 7).getD i9 0) 0) Pq iw))) nj (wkF (fun i9 => (wl fw (nI t) nj).getD ((BO (LG mk tr le bo jf q2 t Pq (wl fw (nI t) nj)) (wl fw (nI t) nj).length (np 0) 7).getD i9 0) 0) fw iw) jf dl ∧ pL n tr le sl mo la fc bo nd mk (va_up ck q2 (wkC mk tr le bo jf q2 t (fun i9 => (wl fw (nI t) nj).getD ((BO (LG mk tr le bo jf q2 t Pq (wl fw (nI t) nj)) (wl fw (nI t) nj).length (np 0) 7).getD i9 0) 0) Pq (ck q2) iw)) (va_up ct q2 (ct q2 + iw)) hd (va_up pq q2 (nI (wkP bo jf t (fun i9 => (wl fw (nI t) nj).getD ((BO (LG mk tr le bo jf q2 t Pq (wl fw (nI t) nj)) (wl fw (nI t) nj).length (np 0) 7).getD i9 0) 0) Pq iw))) nj (wkF (fun i9 => (wl fw (nI t) nj).getD ((BO (LG mk tr le bo jf q2 t Pq (wl fw (nI t) nj)) (wl fw (nI t) nj).length (np 0) 7).getD i9 0) 0) fw iw) jf dl (dn + iw) cv tf ff vv jj lt dv jt fv := hI
            obtain ⟨hil, hdu, hIi, hpi⟩ := hI
            have hI := hIk
            obtain ⟨w1v, w2v, w3v, w4v, w5v⟩ := hpi.2.2.2.2.2.1 q2 hdn
            have hvv4 : vv (4 + q2) = nI (ct q2 + iw) := by rw [w3v, va_up_self]
            have hvv2 : vv (2 + q2) = (wkC mk tr le bo jf q2 t (fun i9 => (wl fw (nI t) nj).getD ((BO (LG mk tr le bo jf q2 t Pq (wl fw (nI t) nj)) (wl fw (nI t) nj).length (np 0) 7).getD i9 0) 0) Pq (ck q2) iw) := by rw [w2v, va_up_self]
            have hcv3 : cv 3 = nI (dn + iw) := hpi.2.1.2.2.2
            refine lv_iload hx hb dL_works_811 (lv_at hl 18 rfl) ?_
            refine lv_iload hx hb dL_works_813 (lv_at hl 0 rfl) ?_
            refine zc_ge (tgt := 903) hx hb (by omega) (by omega) dL_works_815 (by decide) (fun c_21 => ?_) (fun c_21 => ?_)
            · have hiw : iw = (min (wl fw (nI t) nj).length (12 - ct q2)) := by omega
              have hdu2 : du = (wkL mk tr le bo jf dl q2 t (fun i9 => (wl fw (nI t) nj).getD ((BO (LG mk tr le bo jf q2 t Pq (wl fw (nI t) nj)) (wl fw (nI t) nj).length (np 0) 7).getD i9 0) 0) Pq (ck q2) (min (wl fw (nI t) nj).length (12 - ct q2))) := by rw [hdu, hiw]
              have hI2 : zI n tr le sl mo fc bo nd mk (va_up ct q2 (ct q2 + (min (wl fw (nI t) nj).length (12 - ct q2)))) hd (va_up pq q2 (nI (wkP bo jf t (fun i9 => (wl fw (nI t) nj).getD ((BO (LG mk tr le bo jf q2 t Pq (wl fw (nI t) nj)) (wl fw (nI t) nj).length (np 0) 7).getD i9 0) 0) Pq (min (wl fw (nI t) nj).length (12 - ct q2))))) nj (wkF (fun i9 => (wl fw (nI t) nj).getD ((BO (LG mk tr le bo jf q2 t Pq (wl fw (nI t) nj)) (wl fw (nI t) nj).length (np 0) 7).getD i9 0) 0) fw (min (wl fw (nI t) nj).length (12 - ct q2))) jf dl := by rw [← hiw]; exact hIi
              have hp2 : pL n tr le sl mo la fc bo nd mk (va_up ck q2 (wkC mk tr le bo jf q2 t (fun i9 => (wl fw (nI t) nj).getD ((BO (LG mk tr le bo jf q2 t Pq (wl fw (nI t) nj)) (wl fw (nI t) nj).length (np 0) 7).getD i9 0) 0) Pq (ck q2) (min (wl fw (nI t) nj).length (12 - ct q2)))) (va_up ct q2 (ct q2 + (min (wl fw (nI t) nj).length (12 - ct q2)))) hd (va_up pq q2 (nI (wkP bo jf t (fun i9 => (wl fw (nI t) nj).getD ((BO (LG mk tr le bo jf q2 t Pq (wl fw (nI t) nj)) (wl fw (nI t) nj).length (np 0) 7).getD i9 0) 0) Pq (min (wl fw (nI t) nj).length (12 - ct q2))))) nj (wkF (fun i9 => (wl fw (nI t) nj).getD ((BO (LG mk tr le bo jf q2 t Pq (wl fw (nI t) nj)) (wl fw (nI t) nj).length (np 0) 7).getD i9 0) 0) fw (min (wl fw (nI t) nj).length (12 - ct q2))) jf dl (dn + (min (wl fw (nI t) nj).length (12 - ct q2))) cv tf ff vv jj lt dv jt fv := by rw [← hiw]; exact hpi
              rw [hdu2] at hl
              refine lv_aload_n hx hb dL_works_903 rfl (lv_at hl 6 rfl) ?_
              refine lv_iconst (v := nI (2)) hx hb dL_works_904 (by decide) ?_
              refine lv_iload hx hb dL_works_905 (lv_at hl 16 rfl) ?_
              refine ze_H_i (n := 3) (mc := 4) (ms := 24) (ws := cw) (es := [(lb, zInts cA 20 (colF (fun _ => nI 0) (wl fw (nI t) nj))), (oa, zInts cA 8 ub9), (g 0, zInts cA 4 cv), (g 1, zInts cA 24 tf), (g 2, zInts cA 24 ff), (g 3, zInts cA 10 vv), (g 4, zInts cA 40 jj), (g 5, zInts cA 20 lt), (g 6, zInts cA 20 dv)]) (As := [.ref (ad 0), .int (nI (2)), .int (nI (q2))]) (rest := []) hx hb hml hts hown hZ hX hN [0, 1, 2, 3, 4, 5, 6, 7, 8] rfl rfl hP hD hS hA (c_L_one_2 l D cA _ cw (ad 0) _ l0 _ _ _ _ (kS (ix (nI (q2)) nd) (fun j => (hd j).isSome && decide (ct j < 12))) (nI (q2)) (fun sz9 => c_X4_work l hlt D cA sz9 cw ad T Bd E PT PB PE n tr le sl mo la fc bo nd mk ck ct hd pq nj fw jf dl dn oc s8 s9 s10 s11 s12 hL hI (nI (q2))) (fun _ _ h => h.1)) gL_works_L_one rfl ⟨rfl, rfl⟩ ⟨by decide +kernel, (Nat.le_of_ble_eq_true rfl), (Nat.le_of_ble_eq_true rfl)⟩ hl.1 rfl (Nat.le_of_ble_eq_true rfl) ⟨(Nat.le_of_ble_eq_true rfl), (Nat.le_of_ble_eq_true rfl)⟩ rfl dL_works_907 (fun r9 u9 H locs hp9 hP hD hS hz => ?_)
              rcases u9 with ⟨j9, t9, P9, w1⟩ | u9
              · dsimp only [zwP] at hp9
                obtain ⟨hjn, hv0, hht9, hpq9, hP16, hct9, hr9, hkp, oc9, x8, x9, x10, x11, x12, hL1⟩ := hp9
                have e9 := (nI_eq (by omega) (by omega)).mp hv0
                subst e9
                have e7 : t = t9 := Option.some.inj (hhd.symm.trans hht9)
                subst e7
                have e6 : Pq = P9 := (nI_eq (by omega) (by omega)).mp (hPq1.symm.trans hpq9)
                subst e6; subst hr9
                have hP : va_P D vwCl ((lb, zInts cA 20 (colF (fun _ => nI 0) (wl fw (nI t) nj))) :: (oa, zInts cA 8 ub9) :: (g 0, zInts cA 4 cv) :: (g 1, zInts cA 24 tf) :: (g 2, zInts cA 24 ff) :: (g 3, zInts cA 10 vv) :: (g 4, zInts cA 40 jj) :: (g 5, zInts cA 20 lt) :: (g 6, zInts cA 20 dv) :: w1) H := hP
                have hD : va_D A ((lb, zInts cA 20 (colF (fun _ => nI 0) (wl fw (nI t) nj))) :: (oa, zInts cA 8 ub9) :: (g 0, zInts cA 4 cv) :: (g 1, zInts cA 24 tf) :: (g 2, zInts cA 24 ff) :: (g 3, zInts cA 10 vv) :: (g 4, zInts cA 40 jj) :: (g 5, zInts cA 20 lt) :: (g 6, zInts cA 20 dv) :: w1) := hD
                refine lv_iload hx hb dL_works_910 (lv_at hl 17 rfl) ?_
                refine lv_icmp_ne (tgt := 919) hx hb dL_works_912 (by decide) (fun c_22 => absurd rfl c_22) (fun c_22 => ?_)
                refine lv_iconst (v := bI (true)) hx hb dL_works_915 (by decide) ?_
                refine lv_goto (tgt := 920) hx hb dL_works_916 (by decide) ?_
                have hP := zd_P hP
                have hD := zd_D hD
                have hP : va_P D vwCl ((oa, zInts cA 8 ub9) :: (g 0, zInts cA 4 cv) :: (g 1, zInts cA 24 tf) :: (g 2, zInts cA 24 ff) :: (g 3, zInts cA 10 vv) :: (g 4, zInts cA 40 jj) :: (g 5, zInts cA 20 lt) :: (g 6, zInts cA 20 dv) :: w1) H := hP
                have hD : va_D A ((oa, zInts cA 8 ub9) :: (g 0, zInts cA 4 cv) :: (g 1, zInts cA 24 tf) :: (g 2, zInts cA 24 ff) :: (g 3, zInts cA 10 vv) :: (g 4, zInts cA 40 jj) :: (g 5, zInts cA 20 lt) :: (g 6, zInts cA 20 dv) :: w1) := hD
                have hP := zd_P hP
                have hD := zd_D hD
                have hP : va_P D vwCl ((g 0, zInts cA 4 cv) :: (g 1, zInts cA 24 tf) :: (g 2, zInts cA 24 ff) :: (g 3, zInts cA 10 vv) :: (g 4, zInts cA 40 jj) :: (g 5, zInts cA 20 lt) :: (g 6, zInts cA 20 dv) :: w1) H := hP
                have hD : va_D A ((g 0, zInts cA 4 cv) :: (g 1, zInts cA 24 tf) :: (g 2, zInts cA 24 ff) :: (g 3, zInts cA 10 vv) :: (g 4, zInts cA 40 jj) :: (g 5, zInts cA 20 lt) :: (g 6, zInts cA 20 dv) :: w1) := hD
                exact W.widen (k := 12) (n := 128) (by omega) (by omega) (zr_qz (S := va_W) (post := (fun (r : Int32) (u : va_W) => r = bI true ∧ LV cA ad g u)) (w1 := fun u => u) ((g 0, zInts cA 4 cv) :: (g 1, zInts cA 24 tf) :: (g 2, zInts cA 24 ff) :: (g 3, zInts cA 10 vv) :: (g 4, zInts cA 40 jj) :: (g 5, zInts cA 20 lt) :: (g 6, zInts cA 20 dv) :: w1) hx hb hr hlocks ⟨rfl, ⟨_, _, _, _, _, _, _, _, _, _, _, _, _, _, _, _, _, _, _, _, _, _, _, _, _, _, _, _, _, _, _, _, _, _, _, _, _, _, _, _, w1, rfl, hL1, hI2, hp2⟩⟩ hP hD hS rfl dL_works_920)
              · exact absurd (show (kS (ix (nI (q2)) nd) (fun j => (hd j).isSome && decide (ct j < 12))) = 0 from kS_y (ix_in (by omega) hdn) (by show ((hd q2).isSome && decide (ct q2 < 12)) = true; rw [hhd, decide_eq_true (p := ct q2 < 12) (by omega)]; rfl)) hp9.2.1
            · refine lv_aload hx hb dL_works_818 (lv_at hl 12 rfl) ?_
              refine lv_iconst (v := nI (4)) hx hb dL_works_820 (by decide) ?_
              refine lv_iload hx hb dL_works_821 (lv_at hl 16 rfl) ?_
              refine zo_add hx hb dL_works_823 ?_
              refine va_iald hx hb hZ.1 hP 5 0 rfl rfl (vp_in_nI (show 4 + q2 < 10 by omega) (by omega)) dL_works_824 ?_
              rw [nI_clamp (show 4 + q2 < 2 ^ 31 by omega)]
              refine zx_val (y := nI (ct q2 + iw)) (hvv4) ?_
              refine lv_bipush (v := nI (12)) hx hb dL_works_825 (by decide) ?_
              refine zc_ge (tgt := 903) hx hb (by omega) (by omega) dL_works_827 (by decide) (fun c_23 => ?_) (fun c_23 => ?_)
              · have hiw : iw = (min (wl fw (nI t) nj).length (12 - ct q2)) := by omega
                have hdu2 : du = (wkL mk tr le bo jf dl q2 t (fun i9 => (wl fw (nI t) nj).getD ((BO (LG mk tr le bo jf q2 t Pq (wl fw (nI t) nj)) (wl fw (nI t) nj).length (np 0) 7).getD i9 0) 0) Pq (ck q2) (min (wl fw (nI t) nj).length (12 - ct q2))) := by rw [hdu, hiw]
                have hI2 : zI n tr le sl mo fc bo nd mk (va_up ct q2 (ct q2 + (min (wl fw (nI t) nj).length (12 - ct q2)))) hd (va_up pq q2 (nI (wkP bo jf t (fun i9 => (wl fw (nI t) nj).getD ((BO (LG mk tr le bo jf q2 t Pq (wl fw (nI t) nj)) (wl fw (nI t) nj).length (np 0) 7).getD i9 0) 0) Pq (min (wl fw (nI t) nj).length (12 - ct q2))))) nj (wkF (fun i9 => (wl fw (nI t) nj).getD ((BO (LG mk tr le bo jf q2 t Pq (wl fw (nI t) nj)) (wl fw (nI t) nj).length (np 0) 7).getD i9 0) 0) fw (min (wl fw (nI t) nj).length (12 - ct q2))) jf dl := by rw [← hiw]; exact hIi
                have hp2 : pL n tr le sl mo la fc bo nd mk (va_up ck q2 (wkC mk tr le bo jf q2 t (fun i9 => (wl fw (nI t) nj).getD ((BO (LG mk tr le bo jf q2 t Pq (wl fw (nI t) nj)) (wl fw (nI t) nj).length (np 0) 7).getD i9 0) 0) Pq (ck q2) (min (wl fw (nI t) nj).length (12 - ct q2)))) (va_up ct q2 (ct q2 + (min (wl fw (nI t) nj).length (12 - ct q2)))) hd (va_up pq q2 (nI (wkP bo jf t (fun i9 => (wl fw (nI t) nj).getD ((BO (LG mk tr le bo jf q2 t Pq (wl fw (nI t) nj)) (wl fw (nI t) nj).length (np 0) 7).getD i9 0) 0) Pq (min (wl fw (nI t) nj).length (12 - ct q2))))) nj (wkF (fun i9 => (wl fw (nI t) nj).getD ((BO (LG mk tr le bo jf q2 t Pq (wl fw (nI t) nj)) (wl fw (nI t) nj).length (np 0) 7).getD i9 0) 0) fw (min (wl fw (nI t) nj).length (12 - ct q2))) jf dl (dn + (min (wl fw (nI t) nj).length (12 - ct q2))) cv tf ff vv jj lt dv jt fv := by rw [← hiw]; exact hpi
                rw [hdu2] at hl
                refine lv_aload_n hx hb dL_works_903 rfl (lv_at hl 6 rfl) ?_
                refine lv_iconst (v := nI (2)) hx hb dL_works_904 (by decide) ?_
                refine lv_iload hx hb dL_works_905 (lv_at hl 16 rfl) ?_
                refine ze_H_i (n := 3) (mc := 4) (ms := 24) (ws := cw) (es := [(lb, zInts cA 20 (colF (fun _ => nI 0) (wl fw (nI t) nj))), (oa, zInts cA 8 ub9), (g 0, zInts cA 4 cv), (g 1, zInts cA 24 tf), (g 2, zInts cA 24 ff), (g 3, zInts cA 10 vv), (g 4, zInts cA 40 jj), (g 5, zInts cA 20 lt), (g 6, zInts cA 20 dv)]) (As := [.ref (ad 0), .int (nI (2)), .int (nI (q2))]) (rest := []) hx hb hml hts hown hZ hX hN [0, 1, 2, 3, 4, 5, 6, 7, 8] rfl rfl hP hD hS hA (c_L_one_2 l D cA _ cw (ad 0) _ l0 _ _ _ _ (kS (ix (nI (q2)) nd) (fun j => (hd j).isSome && decide (ct j < 12))) (nI (q2)) (fun sz9 => c_X4_work l hlt D cA sz9 cw ad T Bd E PT PB PE n tr le sl mo la fc bo nd mk ck ct hd pq nj fw jf dl dn oc s8 s9 s10 s11 s12 hL hI (nI (q2))) (fun _ _ h => h.1)) gL_works_L_one rfl ⟨rfl, rfl⟩ ⟨by decide +kernel, (Nat.le_of_ble_eq_true rfl), (Nat.le_of_ble_eq_true rfl)⟩ hl.1 rfl (Nat.le_of_ble_eq_true rfl) ⟨(Nat.le_of_ble_eq_true rfl), (Nat.le_of_ble_eq_true rfl)⟩ rfl dL_works_907 (fun r9 u9 H locs hp9 hP hD hS hz => ?_)
                rcases u9 with ⟨j9, t9, P9, w1⟩ | u9
                · dsimp only [zwP] at hp9
                  obtain ⟨hjn, hv0, hht9, hpq9, hP16, hct9, hr9, hkp, oc9, x8, x9, x10, x11, x12, hL1⟩ := hp9
                  have e9 := (nI_eq (by omega) (by omega)).mp hv0
                  subst e9
                  have e7 : t = t9 := Option.some.inj (hhd.symm.trans hht9)
                  subst e7
                  have e6 : Pq = P9 := (nI_eq (by omega) (by omega)).mp (hPq1.symm.trans hpq9)
                  subst e6; subst hr9
                  have hP : va_P D vwCl ((lb, zInts cA 20 (colF (fun _ => nI 0) (wl fw (nI t) nj))) :: (oa, zInts cA 8 ub9) :: (g 0, zInts cA 4 cv) :: (g 1, zInts cA 24 tf) :: (g 2, zInts cA 24 ff) :: (g 3, zInts cA 10 vv) :: (g 4, zInts cA 40 jj) :: (g 5, zInts cA 20 lt) :: (g 6, zInts cA 20 dv) :: w1) H := hP
                  have hD : va_D A ((lb, zInts cA 20 (colF (fun _ => nI 0) (wl fw (nI t) nj))) :: (oa, zInts cA 8 ub9) :: (g 0, zInts cA 4 cv) :: (g 1, zInts cA 24 tf) :: (g 2, zInts cA 24 ff) :: (g 3, zInts cA 10 vv) :: (g 4, zInts cA 40 jj) :: (g 5, zInts cA 20 lt) :: (g 6, zInts cA 20 dv) :: w1) := hD
                  refine lv_iload hx hb dL_works_910 (lv_at hl 17 rfl) ?_
                  refine lv_icmp_ne (tgt := 919) hx hb dL_works_912 (by decide) (fun c_24 => absurd rfl c_24) (fun c_24 => ?_)
                  refine lv_iconst (v := bI (true)) hx hb dL_works_915 (by decide) ?_
                  refine lv_goto (tgt := 920) hx hb dL_works_916 (by decide) ?_
                  have hP := zd_P hP
                  have hD := zd_D hD
                  have hP : va_P D vwCl ((oa, zInts cA 8 ub9) :: (g 0, zInts cA 4 cv) :: (g 1, zInts cA 24 tf) :: (g 2, zInts cA 24 ff) :: (g 3, zInts cA 10 vv) :: (g 4, zInts cA 40 jj) :: (g 5, zInts cA 20 lt) :: (g 6, zInts cA 20 dv) :: w1) H := hP
                  have hD : va_D A ((oa, zInts cA 8 ub9) :: (g 0, zInts cA 4 cv) :: (g 1, zInts cA 24 tf) :: (g 2, zInts cA 24 ff) :: (g 3, zInts cA 10 vv) :: (g 4, zInts cA 40 jj) :: (g 5, zInts cA 20 lt) :: (g 6, zInts cA 20 dv) :: w1) := hD
                  have hP := zd_P hP
                  have hD := zd_D hD
                  have hP : va_P D vwCl ((g 0, zInts cA 4 cv) :: (g 1, zInts cA 24 tf) :: (g 2, zInts cA 24 ff) :: (g 3, zInts cA 10 vv) :: (g 4, zInts cA 40 jj) :: (g 5, zInts cA 20 lt) :: (g 6, zInts cA 20 dv) :: w1) H := hP
                  have hD : va_D A ((g 0, zInts cA 4 cv) :: (g 1, zInts cA 24 tf) :: (g 2, zInts cA 24 ff) :: (g 3, zInts cA 10 vv) :: (g 4, zInts cA 40 jj) :: (g 5, zInts cA 20 lt) :: (g 6, zInts cA 20 dv) :: w1) := hD
                  exact W.widen (k := 12) (n := 128) (by omega) (by omega) (zr_qz (S := va_W) (post := (fun (r : Int32) (u : va_W) => r = bI true ∧ LV cA ad g u)) (w1 := fun u => u) ((g 0, zInts cA 4 cv) :: (g 1, zInts cA 24 tf) :: (g 2, zInts cA 24 ff) :: (g 3, zInts cA 10 vv) :: (g 4, zInts cA 40 jj) :: (g 5, zInts cA 20 lt) :: (g 6, zInts cA 20 dv) :: w1) hx hb hr hlocks ⟨rfl, ⟨_, _, _, _, _, _, _, _, _, _, _, _, _, _, _, _, _, _, _, _, _, _, _, _, _, _, _, _, _, _, _, _, _, _, _, _, _, _, _, _, w1, rfl, hL1, hI2, hp2⟩⟩ hP hD hS rfl dL_works_920)
                · exact absurd (show (kS (ix (nI (q2)) nd) (fun j => (hd j).isSome && decide (ct j < 12))) = 0 from kS_y (ix_in (by omega) hdn) (by show ((hd q2).isSome && decide (ct q2 < 12)) = true; rw [hhd, decide_eq_true (p := ct q2 < 12) (by omega)]; rfl)) hp9.2.1
              · have hiM : iw < (wl fw (nI t) nj).length := by omega
                obtain ⟨x9, hxe⟩ : ∃ z, z = (fun i9 => (wl fw (nI t) nj).getD ((BO (LG mk tr le bo jf q2 t Pq (wl fw (nI t) nj)) (wl fw (nI t) nj).length (np 0) 7).getD i9 0) 0) iw := ⟨_, rfl⟩
                have hum : ub9 iw = nI x9 := by rw [hub9 iw hiM, hxe]
                have hxm : x9 ∈ (wl fw (nI t) nj) := by rw [hxe]; exact hJm iw hiM
                obtain ⟨x20, xj1, xj2, xj3⟩ := hR_of hp htn x9 hxm
                have hxn := (wl_mem hxm).1
                obtain ⟨xq1, xq2, xq3, xq4, xq5, xq6, xq7⟩ := qJ x9 hxn
                obtain ⟨z1, z2, z3, z4, z5, z6, z7, z8, z9, z10, z11, z12, z13, z14, z15, z16, z17⟩ := fb_of (P := (wkP bo jf t (fun i9 => (wl fw (nI t) nj).getD ((BO (LG mk tr le bo jf q2 t Pq (wl fw (nI t) nj)) (wl fw (nI t) nj).length (np 0) 7).getD i9 0) 0) Pq iw)) hIi hpi hdn hhd (va_up_self _ _ _) (hwp iw (by omega))
                refine lv_aload hx hb dL_works_830 (lv_at hl 10 rfl) ?_
                refine lv_aload hx hb dL_works_832 (lv_at hl 11 rfl) ?_
                refine lv_aload hx hb dL_works_834 (lv_at hl 12 rfl) ?_
                refine lv_iload hx hb dL_works_836 (lv_at hl 16 rfl) ?_
                refine lv_aload hx hb dL_works_838 (lv_at hl 13 rfl) ?_
                refine lv_bipush (v := nI (20)) hx hb dL_works_840 (by decide) ?_
                refine lv_aload hx hb dL_works_842 (lv_at hl 2 rfl) ?_
                refine lv_iload hx hb dL_works_844 (lv_at hl 18 rfl) ?_
                refine va_iald hx hb hZ.1 hP 1 0 rfl rfl (vp_in_nI (show iw < 8 by omega) (by omega)) dL_works_846 ?_
                rw [nI_clamp (show iw < 2 ^ 31 by omega)]
                refine zx_val (y := nI (x9)) (hum) ?_
                refine zo_add hx hb dL_works_847 ?_
                refine va_iald hx hb hZ.1 hP 6 0 rfl rfl (vp_in_nI (show 20 + x9 < 40 by omega) (by omega)) dL_works_848 ?_
                rw [nI_clamp (show 20 + x9 < 2 ^ 31 by omega)]
                refine zx_val (y := nI (jf x9)) (xj2) ?_
                refine zw_S_i (n := 5) (mc := 0) (ms := 0) (w1 := fun u : Unit => (lb, zInts cA 20 (colF (fun _ => nI 0) (wl fw (nI t) nj))) :: (oa, zInts cA 8 ub9) :: (g 0, zInts cA 4 cv) :: (g 1, zInts cA 24 tf) :: (g 2, zInts cA 24 ff) :: (g 3, zInts cA 10 (upd (upd (upd vv (2 + q2) (wkC mk tr le bo jf q2 t (fun i9 => (wl fw (nI t) nj).getD ((BO (LG mk tr le bo jf q2 t Pq (wl fw (nI t) nj)) (wl fw (nI t) nj).length (np 0) 7).getD i9 0) 0) Pq (ck q2) (iw + 1))) (4 + q2) (nI (ct q2 + iw + 1))) (8 + q2) (nI (bo t (jf x9 + 1))))) :: (g 4, zInts cA 40 jj) :: (g 5, zInts cA 20 lt) :: (g 6, zInts cA 20 dv) :: cw) (As := [.ref (g 1), .ref (g 2), .ref (g 3), .int (nI (q2)), .int (nI (jf x9))]) (rest := []) hx hb hml hts hown hZ hP hD hS hA (c_L_runs2 l D cA _ ((lb, zInts cA 20 (colF (fun _ => nI 0) (wl fw (nI t) nj))) :: (oa, zInts cA 8 ub9) :: (g 0, zInts cA 4 cv) :: (g 1, zInts cA 24 tf) :: (g 2, zInts cA 24 ff) :: (g 3, zInts cA 10 vv) :: (g 4, zInts cA 40 jj) :: (g 5, zInts cA 20 lt) :: (g 6, zInts cA 20 dv) :: cw) 3 (g 1) tf rfl 4 (g 2) ff rfl 5 (g 3) vv rfl q2 t (tr t) (le t) (mk q2) z1 z2 z3 z4 z5 z6 z7 z8 z9 z10 z11 (wkP bo jf t (fun i9 => (wl fw (nI t) nj).getD ((BO (LG mk tr le bo jf q2 t Pq (wl fw (nI t) nj)) (wl fw (nI t) nj).length (np 0) 7).getD i9 0) 0) Pq iw) z12 z13 (bo t) (fc t) z14 z15 z16 z17 (jf x9) xj3 (by decide) (by decide) (c9 := (wkC mk tr le bo jf q2 t (fun i9 => (wl fw (nI t) nj).getD ((BO (LG mk tr le bo jf q2 t Pq (wl fw (nI t) nj)) (wl fw (nI t) nj).length (np 0) 7).getD i9 0) 0) Pq (ck q2) (iw + 1))) (d9 := (ct q2 + iw + 1)) (q9 := (bo t (jf x9 + 1))) (lg9 := (legT (zpa (mk q2)) (zsp (mk q2)) (tr t) (le t) (bo t) (wkP bo jf t (fun i9 => (wl fw (nI t) nj).getD ((BO (LG mk tr le bo jf q2 t Pq (wl fw (nI t) nj)) (wl fw (nI t) nj).length (np 0) 7).getD i9 0) 0) Pq iw) (jf x9))) (by rw [hvv2, hxe]; rfl) (by rw [hvv4, nI_add]) rfl rfl) gL_works_L_runs rfl ⟨rfl, rfl⟩ ⟨by decide +kernel, (Nat.le_of_ble_eq_true rfl), (Nat.le_of_ble_eq_true rfl)⟩ hl.1 rfl (Nat.le_of_ble_eq_true rfl) ⟨(Nat.le_of_ble_eq_true rfl), (Nat.le_of_ble_eq_true rfl)⟩ rfl dL_works_849 (fun r9 u9 H locs hp9 hP hD hS hz => ?_)
                obtain rfl := show r9 = nI (legT (zpa (mk q2)) (zsp (mk q2)) (tr t) (le t) (bo t) (wkP bo jf t (fun i9 => (wl fw (nI t) nj).getD ((BO (LG mk tr le bo jf q2 t Pq (wl fw (nI t) nj)) (wl fw (nI t) nj).length (np 0) 7).getD i9 0) 0) Pq iw) (jf x9)) from hp9
                have hP : va_P D vwCl ((lb, zInts cA 20 (colF (fun _ => nI 0) (wl fw (nI t) nj))) :: (oa, zInts cA 8 ub9) :: (g 0, zInts cA 4 cv) :: (g 1, zInts cA 24 tf) :: (g 2, zInts cA 24 ff) :: (g 3, zInts cA 10 (upd (upd (upd vv (2 + q2) (wkC mk tr le bo jf q2 t (fun i9 => (wl fw (nI t) nj).getD ((BO (LG mk tr le bo jf q2 t Pq (wl fw (nI t) nj)) (wl fw (nI t) nj).length (np 0) 7).getD i9 0) 0) Pq (ck q2) (iw + 1))) (4 + q2) (nI (ct q2 + iw + 1))) (8 + q2) (nI (bo t (jf x9 + 1))))) :: (g 4, zInts cA 40 jj) :: (g 5, zInts cA 20 lt) :: (g 6, zInts cA 20 dv) :: cw) H := hP
                have hD : va_D A ((lb, zInts cA 20 (colF (fun _ => nI 0) (wl fw (nI t) nj))) :: (oa, zInts cA 8 ub9) :: (g 0, zInts cA 4 cv) :: (g 1, zInts cA 24 tf) :: (g 2, zInts cA 24 ff) :: (g 3, zInts cA 10 (upd (upd (upd vv (2 + q2) (wkC mk tr le bo jf q2 t (fun i9 => (wl fw (nI t) nj).getD ((BO (LG mk tr le bo jf q2 t Pq (wl fw (nI t) nj)) (wl fw (nI t) nj).length (np 0) 7).getD i9 0) 0) Pq (ck q2) (iw + 1))) (4 + q2) (nI (ct q2 + iw + 1))) (8 + q2) (nI (bo t (jf x9 + 1))))) :: (g 4, zInts cA 40 jj) :: (g 5, zInts cA 20 lt) :: (g 6, zInts cA 20 dv) :: cw) := hD
                refine lv_pop hx hb dL_works_852 rfl ?_
                refine lv_aload hx hb dL_works_853 (lv_at hl 15 rfl) ?_
                refine lv_aload hx hb dL_works_855 (lv_at hl 2 rfl) ?_
                refine lv_iload hx hb dL_works_857 (lv_at hl 18 rfl) ?_
                refine va_iald hx hb hZ.1 hP 1 0 rfl rfl (vp_in_nI (show iw < 8 by omega) (by omega)) dL_works_859 ?_
                rw [nI_clamp (show iw < 2 ^ 31 by omega)]
                refine zx_val (y := nI (x9)) (hum) ?_
                refine lv_iconst (v := nI (1)) hx hb dL_works_860 (by decide) ?_
                refine va_iast hx hb hZ.1 hP hD hS 8 0 rfl rfl (vp_in_nI (show x9 < 20 by omega) (by omega)) dL_works_861 (fun H locs hP hD hS => ?_)
                rw [nI_clamp (show x9 < 2 ^ 31 by omega)] at hP hD
                have hP : va_P D vwCl ((lb, zInts cA 20 (colF (fun _ => nI 0) (wl fw (nI t) nj))) :: (oa, zInts cA 8 ub9) :: (g 0, zInts cA 4 cv) :: (g 1, zInts cA 24 tf) :: (g 2, zInts cA 24 ff) :: (g 3, zInts cA 10 (upd (upd (upd vv (2 + q2) (wkC mk tr le bo jf q2 t (fun i9 => (wl fw (nI t) nj).getD ((BO (LG mk tr le bo jf q2 t Pq (wl fw (nI t) nj)) (wl fw (nI t) nj).length (np 0) 7).getD i9 0) 0) Pq (ck q2) (iw + 1))) (4 + q2) (nI (ct q2 + iw + 1))) (8 + q2) (nI (bo t (jf x9 + 1))))) :: (g 4, zInts cA 40 jj) :: (g 5, zInts cA 20 lt) :: (g 6, zInts cA 20 (upd dv x9 (nI (1)))) :: cw) H := hP
                have hD : va_D A ((lb, zInts cA 20 (colF (fun _ => nI 0) (wl fw (nI t) nj))) :: (oa, zInts cA 8 ub9) :: (g 0, zInts cA 4 cv) :: (g 1, zInts cA 24 tf) :: (g 2, zInts cA 24 ff) :: (g 3, zInts cA 10 (upd (upd (upd vv (2 + q2) (wkC mk tr le bo jf q2 t (fun i9 => (wl fw (nI t) nj).getD ((BO (LG mk tr le bo jf q2 t Pq (wl fw (nI t) nj)) (wl fw (nI t) nj).length (np 0) 7).getD i9 0) 0) Pq (ck q2) (iw + 1))) (4 + q2) (nI (ct q2 + iw + 1))) (8 + q2) (nI (bo t (jf x9 + 1))))) :: (g 4, zInts cA 40 jj) :: (g 5, zInts cA 20 lt) :: (g 6, zInts cA 20 (upd dv x9 (nI (1)))) :: cw) := hD
                refine lv_aload_n hx hb dL_works_862 rfl (lv_at hl 9 rfl) ?_
                refine lv_iconst (v := nI (3)) hx hb dL_works_863 (by decide) ?_
                refine lv_dup2_11 hx hb dL_works_864 rfl rfl ?_
                refine va_iald hx hb hZ.1 hP 2 0 rfl rfl (vp_in_nI (show 3 < 4 by omega) (by omega)) dL_works_865 ?_
                rw [nI_clamp (show 3 < 2 ^ 31 by omega)]
                refine zx_val (y := nI (dn + iw)) (hcv3) ?_
                refine lv_iconst (v := nI (1)) hx hb dL_works_866 (by decide) ?_
                refine zo_add hx hb dL_works_867 ?_
                refine va_iast hx hb hZ.1 hP hD hS 2 0 rfl rfl (vp_in_nI (show 3 < 4 by omega) (by omega)) dL_works_868 (fun H locs hP hD hS => ?_)
                rw [nI_clamp (show 3 < 2 ^ 31 by omega)] at hP hD
                have hP : va_P D vwCl ((lb, zInts cA 20 (colF (fun _ => nI 0) (wl fw (nI t) nj))) :: (oa, zInts cA 8 ub9) :: (g 0, zInts cA 4 (upd cv 3 (nI ((dn + iw) + 1)))) :: (g 1, zInts cA 24 tf) :: (g 2, zInts cA 24 ff) :: (g 3, zInts cA 10 (upd (upd (upd vv (2 + q2) (wkC mk tr le bo jf q2 t (fun i9 => (wl fw (nI t) nj).getD ((BO (LG mk tr le bo jf q2 t Pq (wl fw (nI t) nj)) (wl fw (nI t) nj).length (np 0) 7).getD i9 0) 0) Pq (ck q2) (iw + 1))) (4 + q2) (nI (ct q2 + iw + 1))) (8 + q2) (nI (bo t (jf x9 + 1))))) :: (g 4, zInts cA 40 jj) :: (g 5, zInts cA 20 lt) :: (g 6, zInts cA 20 (upd dv x9 (nI (1)))) :: cw) H := hP
                have hD : va_D A ((lb, zInts cA 20 (colF (fun _ => nI 0) (wl fw (nI t) nj))) :: (oa, zInts cA 8 ub9) :: (g 0, zInts cA 4 (upd cv 3 (nI ((dn + iw) + 1)))) :: (g 1, zInts cA 24 tf) :: (g 2, zInts cA 24 ff) :: (g 3, zInts cA 10 (upd (upd (upd vv (2 + q2) (wkC mk tr le bo jf q2 t (fun i9 => (wl fw (nI t) nj).getD ((BO (LG mk tr le bo jf q2 t Pq (wl fw (nI t) nj)) (wl fw (nI t) nj).length (np 0) 7).getD i9 0) 0) Pq (ck q2) (iw + 1))) (4 + q2) (nI (ct q2 + iw + 1))) (8 + q2) (nI (bo t (jf x9 + 1))))) :: (g 4, zInts cA 40 jj) :: (g 5, zInts cA 20 lt) :: (g 6, zInts cA 20 (upd dv x9 (nI (1)))) :: cw) := hD
                refine lv_iload hx hb dL_works_869 (lv_at hl 17 rfl) ?_
                refine lv_aload hx hb dL_works_871 (lv_at hl 12 rfl) ?_
                refine lv_iconst (v := nI (2)) hx hb dL_works_873 (by decide) ?_
                refine lv_iload hx hb dL_works_874 (lv_at hl 16 rfl) ?_
                refine zo_add hx hb dL_works_876 ?_
                refine va_iald hx hb hZ.1 hP 5 0 rfl rfl (vp_in_nI (show 2 + q2 < 10 by omega) (by omega)) dL_works_877 ?_
                rw [nI_clamp (show 2 + q2 < 2 ^ 31 by omega)]
                refine zx_val (y := (wkC mk tr le bo jf q2 t (fun i9 => (wl fw (nI t) nj).getD ((BO (LG mk tr le bo jf q2 t Pq (wl fw (nI t) nj)) (wl fw (nI t) nj).length (np 0) 7).getD i9 0) 0) Pq (ck q2) (iw + 1))) (by rw [pk_un (by omega), pk_un (by omega), pk_us]) ?_
                refine lv_aload hx hb dL_works_878 (lv_at hl 14 rfl) ?_
                refine lv_aload hx hb dL_works_880 (lv_at hl 2 rfl) ?_
                refine lv_iload hx hb dL_works_882 (lv_at hl 18 rfl) ?_
                refine va_iald hx hb hZ.1 hP 1 0 rfl rfl (vp_in_nI (show iw < 8 by omega) (by omega)) dL_works_884 ?_
                rw [nI_clamp (show iw < 2 ^ 31 by omega)]
                refine zx_val (y := nI (x9)) (hum) ?_
                refine va_iald hx hb hZ.1 hP 7 0 rfl rfl (vp_in_nI (show x9 < 20 by omega) (by omega)) dL_works_885 ?_
                rw [nI_clamp (show x9 < 2 ^ 31 by omega)]
                refine zx_val (y := nI (dl x9)) (xq5) ?_
                refine z_join (α := Nat) (pc' := 894) (fun v ls => lv_has ls 21 [(17, .int (nI ((wl fw (nI t) nj).length))), (16, .ref lb), (14, .ref oa), (13, .int (nI (t))), (12, .int (bI (true))), (11, .int (bI (true))), (0, .ref (ad 0)), (1, .int (nI (kd))), (2, .int (y)), (3, .ref (g 0)), (4, .ref (g 1)), (5, .ref (g 2)), (6, .ref (g 3)), (7, .ref (g 4)), (8, .ref (g 5)), (9, .ref (g 6)), (10, .int (nI (q2))), (15, .int (nI (du))), (18, .int (nI (iw)))] ∧ v = (if (wkC mk tr le bo jf q2 t (fun i9 => (wl fw (nI t) nj).getD ((BO (LG mk tr le bo jf q2 t Pq (wl fw (nI t) nj)) (wl fw (nI t) nj).length (np 0) 7).getD i9 0) 0) Pq (ck q2) (iw + 1)) ≤ nI (dl x9) then 0 else 1)) (fun v => [.int (nI (v)), .int (nI (du))]) ?_ (fun J894 => ?_)
                · intro lx ls hv
                  obtain ⟨hl, hI894⟩ := hv
                  have hl : lv_has ls 21 [(17, .int (nI ((wl fw (nI t) nj).length))), (16, .ref lb), (14, .ref oa), (13, .int (nI (t))), (12, .int (bI (true))), (11, .int (bI (true))), (0, .ref (ad 0)), (1, .int (nI (kd))), (2, .int (y)), (3, .ref (g 0)), (4, .ref (g 1)), (5, .ref (g 2)), (6, .ref (g 3)), (7, .ref (g 4)), (8, .ref (g 5)), (9, .ref (g 6)), (10, .int (nI (q2))), (15, .int (nI (du))), (18, .int (nI (iw)))] := hl
                  have hI894 : lx = (if (wkC mk tr le bo jf q2 t (fun i9 => (wl fw (nI t) nj).getD ((BO (LG mk tr le bo jf q2 t Pq (wl fw (nI t) nj)) (wl fw (nI t) nj).length (np 0) 7).getD i9 0) 0) Pq (ck q2) (iw + 1)) ≤ nI (dl x9) then 0 else 1) := hI894
                  refine zo_add hx hb dL_works_894 ?_
                  refine lv_istore (lv' := [(15, .int (nI (du + lx))), (17, .int (nI ((wl fw (nI t) nj).length))), (16, .ref lb), (14, .ref oa), (13, .int (nI (t))), (12, .int (bI (true))), (11, .int (bI (true))), (0, .ref (ad 0)), (1, .int (nI (kd))), (2, .int (y)), (3, .ref (g 0)), (4, .ref (g 1)), (5, .ref (g 2)), (6, .ref (g 3)), (7, .ref (g 4)), (8, .ref (g 5)), (9, .ref (g 6)), (10, .int (nI (q2))), (18, .int (nI (iw)))]) hx hb dL_works_895 hl (by decide) rfl (fun ls hl => ?_)
                  obtain ⟨hIg, hpg⟩ := J_go (j := q2) (t := t) (q9 := bo t (jf x9 + 1)) (d9 := ct q2 + iw + 1) (c9 := (wkC mk tr le bo jf q2 t (fun i9 => (wl fw (nI t) nj).getD ((BO (LG mk tr le bo jf q2 t Pq (wl fw (nI t) nj)) (wl fw (nI t) nj).length (np 0) 7).getD i9 0) 0) Pq (ck q2) (iw + 1))) hIi hpi hdn hhd (y17 (jf x9 + 1) (by omega)) (by omega)
                  obtain ⟨hId, hpd⟩ := J_done (k9 := x9) hIg hpg hxn
                  simp only [va_up_up] at hId hpd
                  have e7 : (wkF (fun i9 => (wl fw (nI t) nj).getD ((BO (LG mk tr le bo jf q2 t Pq (wl fw (nI t) nj)) (wl fw (nI t) nj).length (np 0) 7).getD i9 0) 0) fw (iw + 1)) = upd (wkF (fun i9 => (wl fw (nI t) nj).getD ((BO (LG mk tr le bo jf q2 t Pq (wl fw (nI t) nj)) (wl fw (nI t) nj).length (np 0) 7).getD i9 0) 0) fw iw) x9 (-1) := by rw [hxe]; rfl
                  have e8 : (wkP bo jf t (fun i9 => (wl fw (nI t) nj).getD ((BO (LG mk tr le bo jf q2 t Pq (wl fw (nI t) nj)) (wl fw (nI t) nj).length (np 0) 7).getD i9 0) 0) Pq (iw + 1)) = bo t (jf x9 + 1) := by rw [hxe]; rfl
                  have hI2i : zI n tr le sl mo fc bo nd mk (va_up ct q2 (ct q2 + (iw + 1))) hd (va_up pq q2 (nI (wkP bo jf t (fun i9 => (wl fw (nI t) nj).getD ((BO (LG mk tr le bo jf q2 t Pq (wl fw (nI t) nj)) (wl fw (nI t) nj).length (np 0) 7).getD i9 0) 0) Pq (iw + 1)))) nj (wkF (fun i9 => (wl fw (nI t) nj).getD ((BO (LG mk tr le bo jf q2 t Pq (wl fw (nI t) nj)) (wl fw (nI t) nj).length (np 0) 7).getD i9 0) 0) fw (iw + 1)) jf dl := by rw [e7, e8]; exact hId
                  have hp2i : pL n tr le sl mo la fc bo nd mk (va_up ck q2 (wkC mk tr le bo jf q2 t (fun i9 => (wl fw (nI t) nj).getD ((BO (LG mk tr le bo jf q2 t Pq (wl fw (nI t) nj)) (wl fw (nI t) nj).length (np 0) 7).getD i9 0) 0) Pq (ck q2) (iw + 1))) (va_up ct q2 (ct q2 + (iw + 1))) hd (va_up pq q2 (nI (wkP bo jf t (fun i9 => (wl fw (nI t) nj).getD ((BO (LG mk tr le bo jf q2 t Pq (wl fw (nI t) nj)) (wl fw (nI t) nj).length (np 0) 7).getD i9 0) 0) Pq (iw + 1)))) nj (wkF (fun i9 => (wl fw (nI t) nj).getD ((BO (LG mk tr le bo jf q2 t Pq (wl fw (nI t) nj)) (wl fw (nI t) nj).length (np 0) 7).getD i9 0) 0) fw (iw + 1)) jf dl (dn + (iw + 1)) (upd cv 3 (nI ((dn + iw) + 1))) tf ff (upd (upd (upd vv (2 + q2) (wkC mk tr le bo jf q2 t (fun i9 => (wl fw (nI t) nj).getD ((BO (LG mk tr le bo jf q2 t Pq (wl fw (nI t) nj)) (wl fw (nI t) nj).length (np 0) 7).getD i9 0) 0) Pq (ck q2) (iw + 1))) (4 + q2) (nI (ct q2 + iw + 1))) (8 + q2) (nI (bo t (jf x9 + 1)))) jj lt (upd dv x9 (nI (1))) jt (va_up fv x9 true) := by rw [e7, e8]; exact hpd
                  refine lv_iinc (v := nI (iw + 1)) (lv' := [(18, .int (nI (iw + 1))), (15, .int (nI (du + lx))), (17, .int (nI ((wl fw (nI t) nj).length))), (16, .ref lb), (14, .ref oa), (13, .int (nI (t))), (12, .int (bI (true))), (11, .int (bI (true))), (0, .ref (ad 0)), (1, .int (nI (kd))), (2, .int (y)), (3, .ref (g 0)), (4, .ref (g 1)), (5, .ref (g 2)), (6, .ref (g 3)), (7, .ref (g 4)), (8, .ref (g 5)), (9, .ref (g 6)), (10, .int (nI (q2)))]) hx hb dL_works_897 hl (k := 18) rfl (zinc 1 _) (by decide) rfl (fun ls hl => ?_)
                  refine lv_goto (tgt := 811) hx hb dL_works_900 (by decide) ?_
                  exact ih811 ((du + lx), (iw + 1), (upd cv 3 (nI ((dn + iw) + 1))), (upd (upd (upd vv (2 + q2) (wkC mk tr le bo jf q2 t (fun i9 => (wl fw (nI t) nj).getD ((BO (LG mk tr le bo jf q2 t Pq (wl fw (nI t) nj)) (wl fw (nI t) nj).length (np 0) 7).getD i9 0) 0) Pq (ck q2) (iw + 1))) (4 + q2) (nI (ct q2 + iw + 1))) (8 + q2) (nI (bo t (jf x9 + 1)))), (upd dv x9 (nI (1))), (va_up fv x9 true)) H locs ls (by first | omega | (dsimp only; omega)) ⟨lv_sub hl [2, 3, 4, 5, 6, 7, 8, 9, 10, 11, 12, 13, 14, 15, 16, 17, 18, 1, 0] rfl, hP, hD, hS, ⟨by dsimp only; omega, by dsimp only; rw [hdu, hI894, hxe]; rfl, hI2i, hp2i⟩⟩
                · skip
                  refine lv_icmp_le (tgt := 893) hx hb dL_works_886 (by decide) (fun c_25 => ?_) (fun c_25 => ?_)
                  · refine lv_iconst (v := nI (0)) hx hb dL_works_893 (by decide) ?_
                    exact J894 (0) ls ⟨lv_sub hl [0, 1, 2, 3, 4, 5, 6, 7, 8, 9, 10, 11, 12, 13, 14, 15, 16, 17, 18] rfl, by rw [if_pos (by assumption)]⟩
                  · refine lv_iconst (v := nI (1)) hx hb dL_works_889 (by decide) ?_
                    refine lv_goto (tgt := 894) hx hb dL_works_890 (by decide) ?_
                    exact J894 (1) ls ⟨lv_sub hl [0, 1, 2, 3, 4, 5, 6, 7, 8, 9, 10, 11, 12, 13, 14, 15, 16, 17, 18] rfl, by rw [if_neg (by assumption)]⟩
          · refine lv_iload hx hb dL_works_729 (lv_at hl 3 rfl) ?_
            refine zb_ne (tgt := 739) hx hb dL_works_731 (by decide) (fun c_26 => ?_) (fun c_26 => Bool.noConfusion c_26)
            refine lv_iload hx hb dL_works_739 (lv_at hl 2 rfl) ?_
            refine zb_eq (tgt := 760) hx hb dL_works_741 (by decide) (fun c_27 => Bool.noConfusion c_27) (fun c_27 => ?_)
            refine lv_aload hx hb dL_works_744 (lv_at hl 10 rfl) ?_
            refine lv_iconst (v := nI (4)) hx hb dL_works_746 (by decide) ?_
            refine lv_iload hx hb dL_works_747 (lv_at hl 14 rfl) ?_
            refine zo_add hx hb dL_works_749 ?_
            refine va_iald hx hb hZ.1 hP 4 0 rfl rfl (vp_in_nI (show 4 + q2 < 10 by omega) (by omega)) dL_works_750 ?_
            rw [nI_clamp (show 4 + q2 < 2 ^ 31 by omega)]
            refine zx_val (y := nI (ct q2)) (qv3) ?_
            refine lv_bipush (v := nI (12)) hx hb dL_works_751 (by decide) ?_
            refine zc_ge (tgt := 760) hx hb (by omega) (by omega) dL_works_753 (by decide) (fun c_28 => ?_) (fun c_28 => False.elim (by omega))
            refine lv_bipush (v := (-102)) hx hb dL_works_760 (by decide) ?_
            refine lv_istore (lv' := [(15, .int ((-102))), (14, .ref oa), (13, .int (nI (t))), (12, .int (bI (true))), (11, .int (bI (true))), (0, .ref (ad 0)), (1, .int (nI (kd))), (2, .int (y)), (3, .ref (g 0)), (4, .ref (g 1)), (5, .ref (g 2)), (6, .ref (g 3)), (7, .ref (g 4)), (8, .ref (g 5)), (9, .ref (g 6)), (10, .int (nI (q2)))]) hx hb dL_works_762 hl (by decide) rfl (fun ls hl => ?_)
            refine lv_iload hx hb dL_works_764 (lv_at hl 0 rfl) ?_
            refine lv_if_ne (tgt := 903) hx hb dL_works_766 (by decide) (fun c_29 => ?_) (fun c_29 => absurd c_29 (by decide))
            refine lv_aload_n hx hb dL_works_903 rfl (lv_at hl 5 rfl) ?_
            refine lv_iconst (v := nI (2)) hx hb dL_works_904 (by decide) ?_
            refine lv_iload hx hb dL_works_905 (lv_at hl 15 rfl) ?_
            refine ze_H_i (n := 3) (mc := 4) (ms := 24) (ws := cw) (es := [(oa, zInts cA 8 (fun _ => nI 0)), (g 0, zInts cA 4 cf), (g 1, zInts cA 24 tf), (g 2, zInts cA 24 ff), (g 3, zInts cA 10 vf), (g 4, zInts cA 40 jj), (g 5, zInts cA 20 lt), (g 6, zInts cA 20 dd)]) (As := [.ref (ad 0), .int (nI (2)), .int (nI (q2))]) (rest := []) hx hb hml hts hown hZ hX hN [0, 1, 2, 3, 4, 5, 6, 7] rfl rfl hP hD hS hA (c_L_one_2 l D cA _ cw (ad 0) _ l0 _ _ _ _ (kS (ix (nI (q2)) nd) (fun j => (hd j).isSome && decide (ct j < 12))) (nI (q2)) (fun sz9 => c_X4_work l hlt D cA sz9 cw ad T Bd E PT PB PE n tr le sl mo la fc bo nd mk ck ct hd pq nj fw jf dl dn oc s8 s9 s10 s11 s12 hL hI (nI (q2))) (fun _ _ h => h.1)) gL_works_L_one rfl ⟨rfl, rfl⟩ ⟨by decide +kernel, (Nat.le_of_ble_eq_true rfl), (Nat.le_of_ble_eq_true rfl)⟩ hl.1 rfl (Nat.le_of_ble_eq_true rfl) ⟨(Nat.le_of_ble_eq_true rfl), (Nat.le_of_ble_eq_true rfl)⟩ rfl dL_works_907 (fun r9 u9 H locs hp9 hP hD hS hz => ?_)
            rcases u9 with ⟨j9, t9, P9, w1⟩ | u9
            · dsimp only [zwP] at hp9
              obtain ⟨hjn, hv0, hht9, hpq9, hP16, hct9, hr9, hkp, oc9, x8, x9, x10, x11, x12, hL1⟩ := hp9
              have e9 := (nI_eq (by omega) (by omega)).mp hv0
              rw [← e9] at hct9; omega
            · dsimp only [zwP] at hp9
              obtain ⟨hr9, hK9, E9, hE9⟩ := hp9
              have hr9 : r9 = (-102) := by rw [hr9, show (kS (ix (nI (q2)) nd) (fun j => (hd j).isSome && decide (ct j < 12))) = 2 from kS_n (ix_in (by omega) hdn) (by show ((hd q2).isSome && decide (ct q2 < 12)) = false; rw [hhd, decide_eq_false (p := ct q2 < 12) (by omega)]; rfl)]; rfl
              subst hr9
              obtain ⟨-, hkp, oc9, x8, x9, x10, x11, x12, hL1⟩ := hE9
              have hP : va_P D vwCl ((oa, zInts cA 8 (fun _ => nI 0)) :: (g 0, zInts cA 4 cf) :: (g 1, zInts cA 24 tf) :: (g 2, zInts cA 24 ff) :: (g 3, zInts cA 10 vf) :: (g 4, zInts cA 40 jj) :: (g 5, zInts cA 20 lt) :: (g 6, zInts cA 20 dd) :: u9) H := hP
              have hD : va_D A ((oa, zInts cA 8 (fun _ => nI 0)) :: (g 0, zInts cA 4 cf) :: (g 1, zInts cA 24 tf) :: (g 2, zInts cA 24 ff) :: (g 3, zInts cA 10 vf) :: (g 4, zInts cA 40 jj) :: (g 5, zInts cA 20 lt) :: (g 6, zInts cA 20 dd) :: u9) := hD
              refine lv_iload hx hb dL_works_910 (lv_at hl 0 rfl) ?_
              refine lv_icmp_ne (tgt := 919) hx hb dL_works_912 (by decide) (fun c_30 => absurd rfl c_30) (fun c_30 => ?_)
              refine lv_iconst (v := bI (true)) hx hb dL_works_915 (by decide) ?_
              refine lv_goto (tgt := 920) hx hb dL_works_916 (by decide) ?_
              have hP := zd_P hP
              have hD := zd_D hD
              have hP : va_P D vwCl ((g 0, zInts cA 4 cf) :: (g 1, zInts cA 24 tf) :: (g 2, zInts cA 24 ff) :: (g 3, zInts cA 10 vf) :: (g 4, zInts cA 40 jj) :: (g 5, zInts cA 20 lt) :: (g 6, zInts cA 20 dd) :: u9) H := hP
              have hD : va_D A ((g 0, zInts cA 4 cf) :: (g 1, zInts cA 24 tf) :: (g 2, zInts cA 24 ff) :: (g 3, zInts cA 10 vf) :: (g 4, zInts cA 40 jj) :: (g 5, zInts cA 20 lt) :: (g 6, zInts cA 20 dd) :: u9) := hD
              exact W.widen (k := 12) (n := 128) (by omega) (by omega) (zr_qz (S := va_W) (post := (fun (r : Int32) (u : va_W) => r = bI true ∧ LV cA ad g u)) (w1 := fun u => u) ((g 0, zInts cA 4 cf) :: (g 1, zInts cA 24 tf) :: (g 2, zInts cA 24 ff) :: (g 3, zInts cA 10 vf) :: (g 4, zInts cA 40 jj) :: (g 5, zInts cA 20 lt) :: (g 6, zInts cA 20 dd) :: u9) hx hb hr hlocks ⟨rfl, ⟨_, _, _, _, _, _, _, _, _, _, _, _, _, _, _, _, _, _, _, _, _, _, _, _, _, _, _, _, _, _, _, _, _, _, _, _, _, _, _, _, u9, rfl, hL1, hI, hp⟩⟩ hP hD hS rfl dL_works_920)
      · obtain rfl : bD = false := by rw [hI48]; exact decide_eq_false (Nat.not_lt.mpr hdn)
        refine lv_iload hx hb dL_works_50 (lv_at hl 0 rfl) ?_
        refine zb_eq (tgt := 70) hx hb dL_works_52 (by decide) (fun c_31 => ?_) (fun c_31 => Bool.noConfusion c_31)
        refine lv_iconst (v := bI (false)) hx hb dL_works_70 (by decide) ?_
        refine lv_istore (lv' := [(12, .int (bI (false))), (11, .int (bI (false))), (0, .ref (ad 0)), (1, .int (nI (kd))), (2, .int (y)), (3, .ref (g 0)), (4, .ref (g 1)), (5, .ref (g 2)), (6, .ref (g 3)), (7, .ref (g 4)), (8, .ref (g 5)), (9, .ref (g 6)), (10, .int (nI (q2)))]) hx hb dL_works_71 hl (by decide) rfl (fun ls hl => ?_)
        refine lv_iload hx hb dL_works_73 (lv_at hl 0 rfl) ?_
        refine zb_eq (tgt := 89) hx hb dL_works_75 (by decide) (fun c_32 => ?_) (fun c_32 => Bool.noConfusion c_32)
        refine lv_iconst (v := nI (0)) hx hb dL_works_89 (by decide) ?_
        refine lv_istore (lv' := [(13, .int (nI (0))), (12, .int (bI (false))), (11, .int (bI (false))), (0, .ref (ad 0)), (1, .int (nI (kd))), (2, .int (y)), (3, .ref (g 0)), (4, .ref (g 1)), (5, .ref (g 2)), (6, .ref (g 3)), (7, .ref (g 4)), (8, .ref (g 5)), (9, .ref (g 6)), (10, .int (nI (q2)))]) hx hb dL_works_90 hl (by decide) rfl (fun ls hl => ?_)
        refine lv_iload_n hx hb dL_works_92 rfl (lv_at hl 4 rfl) ?_
        refine lv_iconst (v := nI (3)) hx hb dL_works_93 (by decide) ?_
        refine zc_ge (tgt := 317) hx hb (by omega) (by omega) dL_works_94 (by decide) (fun c_33 => ?_) (fun c_33 => False.elim (by omega))
        refine lv_iload_n hx hb dL_works_317 rfl (lv_at hl 4 rfl) ?_
        refine lv_iconst (v := nI (3)) hx hb dL_works_318 (by decide) ?_
        refine zc_ne (tgt := 457) hx hb (by omega) (by omega) dL_works_319 (by decide) (fun c_34 => ?_) (fun c_34 => False.elim (by omega))
        refine lv_iload_n hx hb dL_works_457 rfl (lv_at hl 4 rfl) ?_
        refine lv_bipush (v := nI (7)) hx hb dL_works_458 (by decide) ?_
        refine zc_ge (tgt := 723) hx hb (by omega) (by omega) dL_works_460 (by decide) (fun c_35 => ?_) (fun c_35 => False.elim (by omega))
        refine lv_bipush (v := nI (8)) hx hb dL_works_723 (by decide) ?_
        refine z_newF hx hb (hts (.arrayClass .int) (by decide +kernel)) hZ hP hD hS hA 8 (by decide) (Nat.le_of_ble_eq_true rfl) (Nat.le_of_ble_eq_true rfl) dL_works_725 (fun oa H hP hD hS => ?_)
        have hP : va_P D vwCl ((oa, zInts cA 8 (fun _ => nI 0)) :: (g 0, zInts cA 4 cf) :: (g 1, zInts cA 24 tf) :: (g 2, zInts cA 24 ff) :: (g 3, zInts cA 10 vf) :: (g 4, zInts cA 40 jj) :: (g 5, zInts cA 20 lt) :: (g 6, zInts cA 20 dd) :: cw) H := hP
        have hD : va_D A ((oa, zInts cA 8 (fun _ => nI 0)) :: (g 0, zInts cA 4 cf) :: (g 1, zInts cA 24 tf) :: (g 2, zInts cA 24 ff) :: (g 3, zInts cA 10 vf) :: (g 4, zInts cA 40 jj) :: (g 5, zInts cA 20 lt) :: (g 6, zInts cA 20 dd) :: cw) := hD
        refine lv_astore (lv' := [(14, .ref oa), (13, .int (nI (0))), (12, .int (bI (false))), (11, .int (bI (false))), (0, .ref (ad 0)), (1, .int (nI (kd))), (2, .int (y)), (3, .ref (g 0)), (4, .ref (g 1)), (5, .ref (g 2)), (6, .ref (g 3)), (7, .ref (g 4)), (8, .ref (g 5)), (9, .ref (g 6)), (10, .int (nI (q2)))]) hx hb dL_works_727 hl (by decide) rfl (fun ls hl => ?_)
        refine lv_iload hx hb dL_works_729 (lv_at hl 3 rfl) ?_
        refine zb_ne (tgt := 739) hx hb dL_works_731 (by decide) (fun c_36 => Bool.noConfusion c_36) (fun c_36 => ?_)
        refine lv_bipush (v := (-101)) hx hb dL_works_734 (by decide) ?_
        refine lv_goto (tgt := 762) hx hb dL_works_736 (by decide) ?_
        refine lv_istore (lv' := [(15, .int ((-101))), (14, .ref oa), (13, .int (nI (0))), (12, .int (bI (false))), (11, .int (bI (false))), (0, .ref (ad 0)), (1, .int (nI (kd))), (2, .int (y)), (3, .ref (g 0)), (4, .ref (g 1)), (5, .ref (g 2)), (6, .ref (g 3)), (7, .ref (g 4)), (8, .ref (g 5)), (9, .ref (g 6)), (10, .int (nI (q2)))]) hx hb dL_works_762 hl (by decide) rfl (fun ls hl => ?_)
        refine lv_iload hx hb dL_works_764 (lv_at hl 0 rfl) ?_
        refine lv_if_ne (tgt := 903) hx hb dL_works_766 (by decide) (fun c_37 => ?_) (fun c_37 => absurd c_37 (by decide))
        refine lv_aload_n hx hb dL_works_903 rfl (lv_at hl 5 rfl) ?_
        refine lv_iconst (v := nI (2)) hx hb dL_works_904 (by decide) ?_
        refine lv_iload hx hb dL_works_905 (lv_at hl 15 rfl) ?_
        refine ze_H_i (n := 3) (mc := 4) (ms := 24) (ws := cw) (es := [(oa, zInts cA 8 (fun _ => nI 0)), (g 0, zInts cA 4 cf), (g 1, zInts cA 24 tf), (g 2, zInts cA 24 ff), (g 3, zInts cA 10 vf), (g 4, zInts cA 40 jj), (g 5, zInts cA 20 lt), (g 6, zInts cA 20 dd)]) (As := [.ref (ad 0), .int (nI (2)), .int (nI (q2))]) (rest := []) hx hb hml hts hown hZ hX hN [0, 1, 2, 3, 4, 5, 6, 7] rfl rfl hP hD hS hA (c_L_one_2 l D cA _ cw (ad 0) _ l0 _ _ _ _ (kS (ix (nI (q2)) nd) (fun j => (hd j).isSome && decide (ct j < 12))) (nI (q2)) (fun sz9 => c_X4_work l hlt D cA sz9 cw ad T Bd E PT PB PE n tr le sl mo la fc bo nd mk ck ct hd pq nj fw jf dl dn oc s8 s9 s10 s11 s12 hL hI (nI (q2))) (fun _ _ h => h.1)) gL_works_L_one rfl ⟨rfl, rfl⟩ ⟨by decide +kernel, (Nat.le_of_ble_eq_true rfl), (Nat.le_of_ble_eq_true rfl)⟩ hl.1 rfl (Nat.le_of_ble_eq_true rfl) ⟨(Nat.le_of_ble_eq_true rfl), (Nat.le_of_ble_eq_true rfl)⟩ rfl dL_works_907 (fun r9 u9 H locs hp9 hP hD hS hz => ?_)
        rcases u9 with ⟨j9, t9, P9, w1⟩ | u9
        · dsimp only [zwP] at hp9
          obtain ⟨hjn, hv0, hht9, hpq9, hP16, hct9, hr9, hkp, oc9, x8, x9, x10, x11, x12, hL1⟩ := hp9
          have e9 := (nI_eq (by omega) (by omega)).mp hv0
          omega
        · dsimp only [zwP] at hp9
          obtain ⟨hr9, hK9, E9, hE9⟩ := hp9
          have hr9 : r9 = (-101) := by rw [hr9, show (kS (ix (nI (q2)) nd) (fun j => (hd j).isSome && decide (ct j < 12))) = 1 from kS_1 (by rw [ix_nI (by omega), if_neg (by omega)])]; rfl
          subst hr9
          obtain ⟨-, hkp, oc9, x8, x9, x10, x11, x12, hL1⟩ := hE9
          have hP : va_P D vwCl ((oa, zInts cA 8 (fun _ => nI 0)) :: (g 0, zInts cA 4 cf) :: (g 1, zInts cA 24 tf) :: (g 2, zInts cA 24 ff) :: (g 3, zInts cA 10 vf) :: (g 4, zInts cA 40 jj) :: (g 5, zInts cA 20 lt) :: (g 6, zInts cA 20 dd) :: u9) H := hP
          have hD : va_D A ((oa, zInts cA 8 (fun _ => nI 0)) :: (g 0, zInts cA 4 cf) :: (g 1, zInts cA 24 tf) :: (g 2, zInts cA 24 ff) :: (g 3, zInts cA 10 vf) :: (g 4, zInts cA 40 jj) :: (g 5, zInts cA 20 lt) :: (g 6, zInts cA 20 dd) :: u9) := hD
          refine lv_iload hx hb dL_works_910 (lv_at hl 0 rfl) ?_
          refine lv_icmp_ne (tgt := 919) hx hb dL_works_912 (by decide) (fun c_38 => absurd rfl c_38) (fun c_38 => ?_)
          refine lv_iconst (v := bI (true)) hx hb dL_works_915 (by decide) ?_
          refine lv_goto (tgt := 920) hx hb dL_works_916 (by decide) ?_
          have hP := zd_P hP
          have hD := zd_D hD
          have hP : va_P D vwCl ((g 0, zInts cA 4 cf) :: (g 1, zInts cA 24 tf) :: (g 2, zInts cA 24 ff) :: (g 3, zInts cA 10 vf) :: (g 4, zInts cA 40 jj) :: (g 5, zInts cA 20 lt) :: (g 6, zInts cA 20 dd) :: u9) H := hP
          have hD : va_D A ((g 0, zInts cA 4 cf) :: (g 1, zInts cA 24 tf) :: (g 2, zInts cA 24 ff) :: (g 3, zInts cA 10 vf) :: (g 4, zInts cA 40 jj) :: (g 5, zInts cA 20 lt) :: (g 6, zInts cA 20 dd) :: u9) := hD
          exact W.widen (k := 12) (n := 128) (by omega) (by omega) (zr_qz (S := va_W) (post := (fun (r : Int32) (u : va_W) => r = bI true ∧ LV cA ad g u)) (w1 := fun u => u) ((g 0, zInts cA 4 cf) :: (g 1, zInts cA 24 tf) :: (g 2, zInts cA 24 ff) :: (g 3, zInts cA 10 vf) :: (g 4, zInts cA 40 jj) :: (g 5, zInts cA 20 lt) :: (g 6, zInts cA 20 dd) :: u9) hx hb hr hlocks ⟨rfl, ⟨_, _, _, _, _, _, _, _, _, _, _, _, _, _, _, _, _, _, _, _, _, _, _, _, _, _, _, _, _, _, _, _, _, _, _, _, _, _, _, _, u9, rfl, hL1, hI, hp⟩⟩ hP hD hS rfl dL_works_920)
    · skip
      refine lv_iload hx hb dL_works_35 (lv_at hl 0 rfl) ?_
      refine lv_aload_n hx hb dL_works_37 rfl (lv_at hl 4 rfl) ?_
      refine lv_iconst (v := nI (1)) hx hb dL_works_38 (by decide) ?_
      refine va_iald hx hb hZ.1 hP 0 0 rfl rfl (vp_in_nI (show 1 < 4 by omega) (by omega)) dL_works_39 ?_
      rw [nI_clamp (show 1 < 2 ^ 31 by omega)]
      refine zx_val (y := nI (nd)) (c1) ?_
      refine zc_ge (tgt := 47) hx hb (by omega) (by omega) dL_works_40 (by decide) (fun c_39 => ?_) (fun c_39 => ?_)
      · refine lv_iconst (v := bI (false)) hx hb dL_works_47 (by decide) ?_
        exact J48 (false) ls ⟨lv_sub hl [1, 2, 3, 4, 5, 6, 7, 8, 9, 10, 0] rfl, (decide_eq_false (by omega)).symm⟩
      · refine lv_iconst (v := bI (true)) hx hb dL_works_43 (by decide) ?_
        refine lv_goto (tgt := 48) hx hb dL_works_44 (by decide) ?_
        exact J48 (true) ls ⟨lv_sub hl [1, 2, 3, 4, 5, 6, 7, 8, 9, 10, 0] rfl, (decide_eq_true (by omega)).symm⟩
  · skip
    refine zf_eq (tgt := 24) hx hb (by omega) dL_works_15 (by decide) (fun c_40 => ?_) (fun c_40 => ?_)
    · refine lv_iconst (v := nI (1)) hx hb dL_works_24 (by decide) ?_
      refine lv_goto (tgt := 29) hx hb dL_works_25 (by decide) ?_
      exact J29 (1) ls ⟨lv_sub hl [0, 1, 2, 3, 4, 5, 6, 7, 8, 9] rfl, by omega⟩
    · refine lv_aload_n hx hb dL_works_18 rfl (lv_at hl 3 rfl) ?_
      refine lv_iconst (v := nI (1)) hx hb dL_works_19 (by decide) ?_
      refine va_iald hx hb hZ.1 hP 0 0 rfl rfl (vp_in_nI (show 1 < 4 by omega) (by omega)) dL_works_20 ?_
      rw [nI_clamp (show 1 < 2 ^ 31 by omega)]
      refine zx_val (y := nI (nd)) (c1) ?_
      refine zf_ne (tgt := 28) hx hb (by omega) dL_works_21 (by decide) (fun c_41 => ?_) (fun c_41 => ?_)
      · refine lv_iconst (v := nI (0)) hx hb dL_works_28 (by decide) ?_
        exact J29 (0) ls ⟨lv_sub hl [0, 1, 2, 3, 4, 5, 6, 7, 8, 9] rfl, by omega⟩
      · refine lv_iconst (v := nI (1)) hx hb dL_works_24 (by decide) ?_
        refine lv_goto (tgt := 29) hx hb dL_works_25 (by decide) ?_
        exact J29 (1) ls ⟨lv_sub hl [0, 1, 2, 3, 4, 5, 6, 7, 8, 9] rfl, by omega⟩
