set_option maxHeartbeats 4000000 in
set_option maxRecDepth 100000 in
theorem c_L_orders (l : Launch) (hlt : l.stackTraces = false) (D : va_G) (cA : Nat → ClassId) (sz : Nat) (ad : Nat → Nat) (T : Nat → Nat) (Bd : Nat → Nat) (E : Nat → Nat) (PT : Nat → Nat) (PB : Nat → Nat) (PE : Nat → Nat) (n : Nat) (tr : Nat → Nat) (le : Nat → Nat) (sl : Nat → Nat) (mo : Nat → Option Nat) (la : Nat → Bool) (fc : Nat → Nat) (bo : Nat → Nat → Nat) (nd : Nat) (mk : Nat → Nat) (ck : Nat → Int32) (ct : Nat → Nat) (hd : Nat → Option Nat) (pq : Nat → Int32) (nj : Nat) (fw : Nat → Int32) (jf : Nat → Nat) (dl : Nat → Nat) (dn : Nat) (oc : Nat) (s8 : Nat → Int32) (s9 : Nat → Int32) (s10 : Nat → Int32) (s11 : Nat → Int32) (s12 : Nat → Int32) (cf : Nat → Int32) (tf : Nat → Int32) (ff : Nat → Int32) (vf : Nat → Int32) (jj : Nat → Int32) (lt : Nat → Int32) (dd : Nat → Int32) (jt : Nat → Nat) (fin : Nat → Bool) (g : Nat → Nat) (cw : va_W) (hL : zL cA cw ad T Bd E PT PB PE n tr le sl mo la fc bo nd mk ck ct hd pq nj fw jf dl dn oc s8 s9 s10 s11 s12) (hI : zI n tr le sl mo fc bo nd mk ct hd pq nj fw jf dl) (hp : pL n tr le sl mo la fc bo nd mk ck ct hd pq nj fw jf dl dn cf tf ff vf jj lt dd jt fin)  : Met l yL_orders wsL_orders ({ frames := 10, cells := 140, slots := 1020, locals := 194 }) (va_Pc [.ref (ad 0), .ref (g 0), .ref (g 1), .ref (g 2), .ref (g 3), .ref (g 4), .ref (g 6)] (zMW D cA ((g 0, zInts cA 4 cf) :: (g 1, zInts cA 24 tf) :: (g 2, zInts cA 24 ff) :: (g 3, zInts cA 10 vf) :: (g 4, zInts cA 40 jj) :: (g 5, zInts cA 20 lt) :: (g 6, zInts cA 20 dd) :: cw) sz)) (va_Qi (fun (r : Int32) (u : va_W) => r = bI true ∧ LV cA ad g u) (fun u => zB D (va_A ((g 0, zInts cA 4 cf) :: (g 1, zInts cA 24 tf) :: (g 2, zInts cA 24 ff) :: (g 3, zInts cA 10 vf) :: (g 4, zInts cA 40 jj) :: (g 5, zInts cA 20 lt) :: (g 6, zInts cA 20 dd) :: cw) sz) u) (va_A ((g 0, zInts cA 4 cf) :: (g 1, zInts cA 24 tf) :: (g 2, zInts cA 24 ff) :: (g 3, zInts cA 10 vf) :: (g 4, zInts cA 40 jj) :: (g 5, zInts cA 20 lt) :: (g 6, zInts cA 20 dd) :: cw) sz)) 140 1020 (va_A ((g 0, zInts cA 4 cf) :: (g 1, zInts cA 24 tf) :: (g 2, zInts cA 24 ff) :: (g 3, zInts cA 10 vf) :: (g 4, zInts cA 40 jj) :: (g 5, zInts cA 20 lt) :: (g 6, zInts cA 20 dd) :: cw) sz) := by
  refine zOpen (cc := cL_orders) (maxL := 16) (ret := (some .boolean)) (own := RL) (by decide) rfl rfl (Nat.le_of_ble_eq_true rfl) ?_
  intro p e s m below meth c ls hx hb hr hml hts hown hlocks hnm ⟨⟨⟨hZ, hP, hD0, hsz⟩, hX⟩, hN⟩ hl
  subst hsz
  have hD := hD0.self (sz := s.heap.size)
  generalize hAe : va_A ((g 0, zInts cA 4 cf) :: (g 1, zInts cA 24 tf) :: (g 2, zInts cA 24 ff) :: (g 3, zInts cA 10 vf) :: (g 4, zInts cA 40 jj) :: (g 5, zInts cA 20 lt) :: (g 6, zInts cA 20 dd) :: cw) s.heap.size = A at hD hX ⊢
  have hA : ∀ q : Nat, s.heap.size ≤ q → A q := fun q h => by rw [← hAe]; exact Or.inr h
  have hS : va_S A s.heap s.heap [] := va_S.rf
  have hl : lv_has ls 16 [(0, .ref (ad 0)), (1, .ref (g 0)), (2, .ref (g 1)), (3, .ref (g 2)), (4, .ref (g 3)), (5, .ref (g 4)), (6, .ref (g 6))] := hl
  have hL0 := hL
  have l0 := hL.1.1
  obtain ⟨hn8, hd3, hj60, hIT, hID, hIJ, hIdl, hIw⟩ := id hI
  obtain ⟨⟨hn4, hd2, hj20⟩, ⟨c0, c1, c2, c3⟩, qT, qT0, qF, qV, qV0, qJ, qJ0, qW⟩ := id hp
  refine lv_bipush (v := nI (8)) hx hb dL_orders_0 (by decide) ?_
  refine z_newF hx hb (hts (.arrayClass .int) (by decide +kernel)) hZ hP hD hS hA 8 (by decide) (by show _ ≤ 140; omega) (by show _ ≤ 1020; omega) dL_orders_2 (fun oa H hP hD hS => ?_)
  have hP : va_P D vwCl ((oa, zInts cA 8 (fun _ => nI 0)) :: (g 0, zInts cA 4 cf) :: (g 1, zInts cA 24 tf) :: (g 2, zInts cA 24 ff) :: (g 3, zInts cA 10 vf) :: (g 4, zInts cA 40 jj) :: (g 5, zInts cA 20 lt) :: (g 6, zInts cA 20 dd) :: cw) H := hP
  have hD : va_D A ((oa, zInts cA 8 (fun _ => nI 0)) :: (g 0, zInts cA 4 cf) :: (g 1, zInts cA 24 tf) :: (g 2, zInts cA 24 ff) :: (g 3, zInts cA 10 vf) :: (g 4, zInts cA 40 jj) :: (g 5, zInts cA 20 lt) :: (g 6, zInts cA 20 dd) :: cw) := hD
  refine lv_astore (lv' := [(7, .ref oa), (0, .ref (ad 0)), (1, .ref (g 0)), (2, .ref (g 1)), (3, .ref (g 2)), (4, .ref (g 3)), (5, .ref (g 4)), (6, .ref (g 6))]) hx hb dL_orders_4 hl (by decide) rfl (fun ls hl => ?_)
  refine lv_bipush (v := nI (20)) hx hb dL_orders_6 (by decide) ?_
  refine z_newF hx hb (hts (.arrayClass .int) (by decide +kernel)) hZ hP hD hS hA 20 (by decide) (by show _ ≤ 140; omega) (by show _ ≤ 1020; omega) dL_orders_8 (fun lb H hP hD hS => ?_)
  have hP : va_P D vwCl ((lb, zInts cA 20 (fun _ => nI 0)) :: (oa, zInts cA 8 (fun _ => nI 0)) :: (g 0, zInts cA 4 cf) :: (g 1, zInts cA 24 tf) :: (g 2, zInts cA 24 ff) :: (g 3, zInts cA 10 vf) :: (g 4, zInts cA 40 jj) :: (g 5, zInts cA 20 lt) :: (g 6, zInts cA 20 dd) :: cw) H := hP
  have hD : va_D A ((lb, zInts cA 20 (fun _ => nI 0)) :: (oa, zInts cA 8 (fun _ => nI 0)) :: (g 0, zInts cA 4 cf) :: (g 1, zInts cA 24 tf) :: (g 2, zInts cA 24 ff) :: (g 3, zInts cA 10 vf) :: (g 4, zInts cA 40 jj) :: (g 5, zInts cA 20 lt) :: (g 6, zInts cA 20 dd) :: cw) := hD
  refine lv_astore (lv' := [(8, .ref lb), (7, .ref oa), (0, .ref (ad 0)), (1, .ref (g 0)), (2, .ref (g 1)), (3, .ref (g 2)), (4, .ref (g 3)), (5, .ref (g 4)), (6, .ref (g 6))]) hx hb dL_orders_10 hl (by decide) rfl (fun ls hl => ?_)
  refine lv_iconst (v := nI (0)) hx hb dL_orders_12 (by decide) ?_
  refine lv_istore (lv' := [(9, .int (nI (0))), (8, .ref lb), (7, .ref oa), (0, .ref (ad 0)), (1, .ref (g 0)), (2, .ref (g 1)), (3, .ref (g 2)), (4, .ref (g 3)), (5, .ref (g 4)), (6, .ref (g 6))]) hx hb dL_orders_13 hl (by decide) rfl (fun ls hl => ?_)
  refine z_loopF (α := Nat × (Nat → Int32) × (Nat → Int32) × va_W) (fun v => nd + 1 - v.1) (fun v => 2 + 45 * v.1) (fun v => 28 + 330 * v.1) (fun v H locs ls => lv_has ls 16 [(8, .ref lb), (7, .ref oa), (0, .ref (ad 0)), (1, .ref (g 0)), (2, .ref (g 1)), (3, .ref (g 2)), (4, .ref (g 3)), (5, .ref (g 4)), (6, .ref (g 6)), (9, .int (nI (v.1)))] ∧ va_P D vwCl ((lb, zInts cA 20 v.2.2.1) :: (oa, zInts cA 8 v.2.1) :: (g 0, zInts cA 4 cf) :: (g 1, zInts cA 24 tf) :: (g 2, zInts cA 24 ff) :: (g 3, zInts cA 10 vf) :: (g 4, zInts cA 40 jj) :: (g 5, zInts cA 20 lt) :: (g 6, zInts cA 20 dd) :: v.2.2.2) H ∧ va_D A ((lb, zInts cA 20 v.2.2.1) :: (oa, zInts cA 8 v.2.1) :: (g 0, zInts cA 4 cf) :: (g 1, zInts cA 24 tf) :: (g 2, zInts cA 24 ff) :: (g 3, zInts cA 10 vf) :: (g 4, zInts cA 40 jj) :: (g 5, zInts cA 20 lt) :: (g 6, zInts cA 20 dd) :: v.2.2.2) ∧ va_S A s.heap H locs ∧ v.1 ≤ nd + 1 ∧ (∃ oc s8 s9 s10 s11 s12, zL cA v.2.2.2 ad T Bd E PT PB PE n tr le sl mo la fc bo nd mk ck ct hd pq nj fw jf dl dn oc s8 s9 s10 s11 s12)) (fun _ => []) (0, (fun _ => nI 0), (fun _ => nI 0), cw) (show _ ≤ 2 + 45 * 0 by omega) (show _ ≤ 28 + 330 * 0 by omega) ⟨lv_sub hl [1, 2, 3, 4, 5, 6, 7, 8, 9, 0] rfl, hP, hD, hS, ⟨Nat.zero_le _, _, _, _, _, _, _, hL⟩⟩ ?_
  intro v ih15 H locs ls hv
  obtain ⟨dz, Of, Lf, cw9⟩ := v
  obtain ⟨hl, hP, hD, hS, hIv⟩ := hv
  have hP : va_P D vwCl ((lb, zInts cA 20 Lf) :: (oa, zInts cA 8 Of) :: (g 0, zInts cA 4 cf) :: (g 1, zInts cA 24 tf) :: (g 2, zInts cA 24 ff) :: (g 3, zInts cA 10 vf) :: (g 4, zInts cA 40 jj) :: (g 5, zInts cA 20 lt) :: (g 6, zInts cA 20 dd) :: cw9) H := hP
  have hD : va_D A ((lb, zInts cA 20 Lf) :: (oa, zInts cA 8 Of) :: (g 0, zInts cA 4 cf) :: (g 1, zInts cA 24 tf) :: (g 2, zInts cA 24 ff) :: (g 3, zInts cA 10 vf) :: (g 4, zInts cA 40 jj) :: (g 5, zInts cA 20 lt) :: (g 6, zInts cA 20 dd) :: cw9) := hD
  have hl : lv_has ls 16 [(8, .ref lb), (7, .ref oa), (0, .ref (ad 0)), (1, .ref (g 0)), (2, .ref (g 1)), (3, .ref (g 2)), (4, .ref (g 3)), (5, .ref (g 4)), (6, .ref (g 6)), (9, .int (nI (dz)))] := hl
  have hIv : dz ≤ nd + 1 ∧ (∃ oc s8 s9 s10 s11 s12, zL cA cw9 ad T Bd E PT PB PE n tr le sl mo la fc bo nd mk ck ct hd pq nj fw jf dl dn oc s8 s9 s10 s11 s12) := hIv
  refine W.widen (k := 2 + 45 * dz) (n := 28 + 330 * dz) (Nat.le_refl _) (Nat.le_refl _) ?_
  obtain ⟨hdz, oc, s8, s9, s10, s11, s12, hL1⟩ := hIv
  refine lv_iload hx hb dL_orders_15 (lv_at hl 9 rfl) ?_
  refine lv_aload_n hx hb dL_orders_17 rfl (lv_at hl 3 rfl) ?_
  refine lv_iconst (v := nI (1)) hx hb dL_orders_18 (by decide) ?_
  refine va_iald hx hb hZ.1 hP 2 0 rfl rfl (vp_in_nI (show 1 < 4 by omega) (by omega)) dL_orders_19 ?_
  rw [nI_clamp (show 1 < 2 ^ 31 by omega)]
  refine zx_val (y := nI (nd)) (c1) ?_
  refine zc_gt (tgt := 260) hx hb (by omega) (by omega) dL_orders_20 (by decide) (fun c_1 => ?_) (fun c_1 => ?_)
  · refine lv_iconst (v := bI (true)) hx hb dL_orders_260 (by decide) ?_
    have hP := zd_P hP
    have hD := zd_D hD
    have hP : va_P D vwCl ((oa, zInts cA 8 Of) :: (g 0, zInts cA 4 cf) :: (g 1, zInts cA 24 tf) :: (g 2, zInts cA 24 ff) :: (g 3, zInts cA 10 vf) :: (g 4, zInts cA 40 jj) :: (g 5, zInts cA 20 lt) :: (g 6, zInts cA 20 dd) :: cw9) H := hP
    have hD : va_D A ((oa, zInts cA 8 Of) :: (g 0, zInts cA 4 cf) :: (g 1, zInts cA 24 tf) :: (g 2, zInts cA 24 ff) :: (g 3, zInts cA 10 vf) :: (g 4, zInts cA 40 jj) :: (g 5, zInts cA 20 lt) :: (g 6, zInts cA 20 dd) :: cw9) := hD
    have hP := zd_P hP
    have hD := zd_D hD
    have hP : va_P D vwCl ((g 0, zInts cA 4 cf) :: (g 1, zInts cA 24 tf) :: (g 2, zInts cA 24 ff) :: (g 3, zInts cA 10 vf) :: (g 4, zInts cA 40 jj) :: (g 5, zInts cA 20 lt) :: (g 6, zInts cA 20 dd) :: cw9) H := hP
    have hD : va_D A ((g 0, zInts cA 4 cf) :: (g 1, zInts cA 24 tf) :: (g 2, zInts cA 24 ff) :: (g 3, zInts cA 10 vf) :: (g 4, zInts cA 40 jj) :: (g 5, zInts cA 20 lt) :: (g 6, zInts cA 20 dd) :: cw9) := hD
    exact W.widen (k := 140) (n := 1020) (by omega) (by omega) (zr_qz (S := va_W) (post := (fun (r : Int32) (u : va_W) => r = bI true ∧ LV cA ad g u)) (w1 := fun u => u) ((g 0, zInts cA 4 cf) :: (g 1, zInts cA 24 tf) :: (g 2, zInts cA 24 ff) :: (g 3, zInts cA 10 vf) :: (g 4, zInts cA 40 jj) :: (g 5, zInts cA 20 lt) :: (g 6, zInts cA 20 dd) :: cw9) hx hb hr hlocks ⟨rfl, ⟨_, _, _, _, _, _, _, _, _, _, _, _, _, _, _, _, _, _, _, _, _, _, _, _, _, _, _, _, _, _, _, _, _, _, _, _, _, _, _, _, cw9, rfl, hL1, hI, hp⟩⟩ hP hD hS rfl dL_orders_261)
  · rcases Nat.lt_or_ge dz nd with hdt | hdt
    · obtain ⟨qv1, qv2, qv3, qv4, qv5⟩ := qV dz hdt
      obtain ⟨hmk1, hct1, hpn1, hps1⟩ := hID dz hdt
      rcases hhd : hd dz with _ | t
      · have qv6 : vf (6 + dz) = -1 := by rw [qv4, hhd]; rfl
        refine lv_iload hx hb dL_orders_23 (lv_at hl 9 rfl) ?_
        refine lv_aload_n hx hb dL_orders_25 rfl (lv_at hl 3 rfl) ?_
        refine lv_iconst (v := nI (1)) hx hb dL_orders_26 (by decide) ?_
        refine va_iald hx hb hZ.1 hP 2 0 rfl rfl (vp_in_nI (show 1 < 4 by omega) (by omega)) dL_orders_27 ?_
        rw [nI_clamp (show 1 < 2 ^ 31 by omega)]
        refine zx_val (y := nI (nd)) (c1) ?_
        refine zc_ge (tgt := 35) hx hb (by omega) (by omega) dL_orders_28 (by decide) (fun c_2 => False.elim (by omega)) (fun c_2 => ?_)
        refine lv_iconst (v := bI (true)) hx hb dL_orders_31 (by decide) ?_
        refine lv_goto (tgt := 36) hx hb dL_orders_32 (by decide) ?_
        refine lv_istore (lv' := [(10, .int (bI (true))), (8, .ref lb), (7, .ref oa), (0, .ref (ad 0)), (1, .ref (g 0)), (2, .ref (g 1)), (3, .ref (g 2)), (4, .ref (g 3)), (5, .ref (g 4)), (6, .ref (g 6)), (9, .int (nI (dz)))]) hx hb dL_orders_36 hl (by decide) rfl (fun ls hl => ?_)
        refine lv_iload hx hb dL_orders_38 (lv_at hl 0 rfl) ?_
        refine zb_eq (tgt := 58) hx hb dL_orders_40 (by decide) (fun c_3 => Bool.noConfusion c_3) (fun c_3 => ?_)
        refine lv_aload hx hb dL_orders_43 (lv_at hl 7 rfl) ?_
        refine lv_bipush (v := nI (6)) hx hb dL_orders_45 (by decide) ?_
        refine lv_iload hx hb dL_orders_47 (lv_at hl 10 rfl) ?_
        refine zo_add hx hb dL_orders_49 ?_
        refine va_iald hx hb hZ.1 hP 5 0 rfl rfl (vp_in_nI (show 6 + dz < 10 by omega) (by omega)) dL_orders_50 ?_
        rw [nI_clamp (show 6 + dz < 2 ^ 31 by omega)]
        refine zx_val (y := (-1)) (qv6) ?_
        refine lv_if_lt (tgt := 58) hx hb dL_orders_51 (by decide) (fun c_4 => ?_) (fun c_4 => absurd (by decide) c_4)
        refine lv_iconst (v := bI (false)) hx hb dL_orders_58 (by decide) ?_
        refine lv_istore (lv' := [(11, .int (bI (false))), (10, .int (bI (true))), (8, .ref lb), (7, .ref oa), (0, .ref (ad 0)), (1, .ref (g 0)), (2, .ref (g 1)), (3, .ref (g 2)), (4, .ref (g 3)), (5, .ref (g 4)), (6, .ref (g 6)), (9, .int (nI (dz)))]) hx hb dL_orders_59 hl (by decide) rfl (fun ls hl => ?_)
        refine lv_iload hx hb dL_orders_61 (lv_at hl 1 rfl) ?_
        refine zb_eq (tgt := 71) hx hb dL_orders_63 (by decide) (fun c_5 => Bool.noConfusion c_5) (fun c_5 => ?_)
        refine lv_bipush (v := (-102)) hx hb dL_orders_66 (by decide) ?_
        refine lv_goto (tgt := 73) hx hb dL_orders_68 (by decide) ?_
        refine lv_istore (lv' := [(12, .int ((-102))), (11, .int (bI (false))), (10, .int (bI (true))), (8, .ref lb), (7, .ref oa), (0, .ref (ad 0)), (1, .ref (g 0)), (2, .ref (g 1)), (3, .ref (g 2)), (4, .ref (g 3)), (5, .ref (g 4)), (6, .ref (g 6)), (9, .int (nI (dz)))]) hx hb dL_orders_73 hl (by decide) rfl (fun ls hl => ?_)
        refine lv_iload hx hb dL_orders_75 (lv_at hl 1 rfl) ?_
        refine zb_eq (tgt := 99) hx hb dL_orders_77 (by decide) (fun c_6 => ?_) (fun c_6 => Bool.noConfusion c_6)
        refine lv_iload hx hb dL_orders_99 (lv_at hl 0 rfl) ?_
        refine lv_istore (lv' := [(13, .int ((-102))), (12, .int ((-102))), (11, .int (bI (false))), (10, .int (bI (true))), (8, .ref lb), (7, .ref oa), (0, .ref (ad 0)), (1, .ref (g 0)), (2, .ref (g 1)), (3, .ref (g 2)), (4, .ref (g 3)), (5, .ref (g 4)), (6, .ref (g 6)), (9, .int (nI (dz)))]) hx hb dL_orders_101 hl (by decide) rfl (fun ls hl => ?_)
        refine lv_iload hx hb dL_orders_103 (lv_at hl 2 rfl) ?_
        refine zb_eq (tgt := 129) hx hb dL_orders_105 (by decide) (fun c_7 => ?_) (fun c_7 => Bool.noConfusion c_7)
        refine lv_iconst (v := nI (0)) hx hb dL_orders_129 (by decide) ?_
        refine lv_istore (lv' := [(14, .int (nI (0))), (13, .int ((-102))), (12, .int ((-102))), (11, .int (bI (false))), (10, .int (bI (true))), (8, .ref lb), (7, .ref oa), (0, .ref (ad 0)), (1, .ref (g 0)), (2, .ref (g 1)), (3, .ref (g 2)), (4, .ref (g 3)), (5, .ref (g 4)), (6, .ref (g 6)), (9, .int (nI (dz)))]) hx hb dL_orders_130 hl (by decide) rfl (fun ls hl => ?_)
        refine lv_aload_n hx hb dL_orders_132 rfl (lv_at hl 7 rfl) ?_
        refine lv_iconst (v := nI (3)) hx hb dL_orders_133 (by decide) ?_
        refine lv_iload hx hb dL_orders_134 (lv_at hl 14 rfl) ?_
        refine ze_H_i (n := 3) (mc := 2) (ms := 12) (ws := cw9) (es := [(lb, zInts cA 20 Lf), (oa, zInts cA 8 Of), (g 0, zInts cA 4 cf), (g 1, zInts cA 24 tf), (g 2, zInts cA 24 ff), (g 3, zInts cA 10 vf), (g 4, zInts cA 40 jj), (g 5, zInts cA 20 lt), (g 6, zInts cA 20 dd)]) (As := [.ref (ad 0), .int (nI (3)), .int (nI (dz))]) (rest := []) hx hb hml hts hown hZ hX hN [0, 1, 2, 3, 4, 5, 6, 7, 8] rfl rfl hP hD hS hA (c_L_one_3 l D cA _ cw9 (ad 0) _ (hL1.1.1) _ _ _ _ (kR (ix (nI (dz)) nd) hd (fun _ => some 0) (fun _ => true)) (nI (dz)) (fun sz9 => c_X4_bestTime l hlt D cA sz9 cw9 _ _ _ _ _ _ _ _ _ _ _ _ _ _ _ _ _ _ _ _ _ _ _ _ _ _ _ _ _ _ _ _ hL1 hI (nI (dz))) (fun _ _ h => h.1)) gL_orders_L_one rfl ⟨rfl, rfl⟩ ⟨by decide +kernel, (Nat.le_of_ble_eq_true rfl), (Nat.le_of_ble_eq_true rfl)⟩ hl.1 rfl (Nat.le_of_ble_eq_true rfl) ⟨by show _ ≤ 140; omega, by show _ ≤ 1020; omega⟩ rfl dL_orders_136 (fun r9 u9 H locs hp9 hP hD hS hz => ?_)
        rcases u9 with ⟨j9, t9, P9, w1⟩ | u9
        · dsimp only [zwP] at hp9
          obtain ⟨hjn, hv0, hht9, hpq9, hP16, hr9, hkp, oc9, x8, x9, x10, x11, x12, hL1⟩ := hp9
          have e9 := (nI_eq (by omega) (by omega)).mp hv0
          rw [← e9, hhd] at hht9; cases hht9
        · dsimp only [zwP] at hp9
          obtain ⟨hr9, hK9, E9, hE9⟩ := hp9
          have hr9 : r9 = (-102) := by rw [hr9, show (kR (ix (nI (dz)) nd) hd (fun _ => some 0) (fun _ => true)) = 2 from kR_2 (ix_in (by omega) hdt) hhd]; rfl
          subst hr9
          obtain ⟨-, hkp, oc9, x8, x9, x10, x11, x12, hL1⟩ := hE9
          have hP : va_P D vwCl ((lb, zInts cA 20 Lf) :: (oa, zInts cA 8 Of) :: (g 0, zInts cA 4 cf) :: (g 1, zInts cA 24 tf) :: (g 2, zInts cA 24 ff) :: (g 3, zInts cA 10 vf) :: (g 4, zInts cA 40 jj) :: (g 5, zInts cA 20 lt) :: (g 6, zInts cA 20 dd) :: u9) H := hP
          have hD : va_D A ((lb, zInts cA 20 Lf) :: (oa, zInts cA 8 Of) :: (g 0, zInts cA 4 cf) :: (g 1, zInts cA 24 tf) :: (g 2, zInts cA 24 ff) :: (g 3, zInts cA 10 vf) :: (g 4, zInts cA 40 jj) :: (g 5, zInts cA 20 lt) :: (g 6, zInts cA 20 dd) :: u9) := hD
          refine lv_iload hx hb dL_orders_139 (lv_at hl 1 rfl) ?_
          refine lv_icmp_ne (tgt := 190) hx hb dL_orders_141 (by decide) (fun c_8 => absurd rfl c_8) (fun c_8 => ?_)
          refine lv_aload_n hx hb dL_orders_144 rfl (lv_at hl 7 rfl) ?_
          refine lv_iconst (v := nI (5)) hx hb dL_orders_145 (by decide) ?_
          refine lv_iload hx hb dL_orders_146 (lv_at hl 14 rfl) ?_
          refine ze_H_i (n := 3) (mc := 2) (ms := 12) (ws := u9) (es := [(lb, zInts cA 20 Lf), (oa, zInts cA 8 Of), (g 0, zInts cA 4 cf), (g 1, zInts cA 24 tf), (g 2, zInts cA 24 ff), (g 3, zInts cA 10 vf), (g 4, zInts cA 40 jj), (g 5, zInts cA 20 lt), (g 6, zInts cA 20 dd)]) (As := [.ref (ad 0), .int (nI (5)), .int (nI (dz))]) (rest := []) hx hb hml hts hown hZ hX hN [0, 1, 2, 3, 4, 5, 6, 7, 8] rfl rfl hP hD hS hA (c_L_one_5 l D cA _ u9 (ad 0) _ (hL1.1.1) _ _ _ _ (kR (ix (nI (dz)) nd) hd (fun _ => some 0) (fun _ => true)) (nI (dz)) (fun sz9 => c_X4_triedTime l hlt D cA sz9 u9 _ _ _ _ _ _ _ _ _ _ _ _ _ _ _ _ _ _ _ _ _ _ _ _ _ _ _ _ _ _ _ _ hL1 hI (nI (dz))) (fun _ _ h => h.1)) gL_orders_L_one rfl ⟨rfl, rfl⟩ ⟨by decide +kernel, (Nat.le_of_ble_eq_true rfl), (Nat.le_of_ble_eq_true rfl)⟩ hl.1 rfl (Nat.le_of_ble_eq_true rfl) ⟨by show _ ≤ 140; omega, by show _ ≤ 1020; omega⟩ rfl dL_orders_148 (fun r9 u9 H locs hp9 hP hD hS hz => ?_)
          rcases u9 with ⟨j9, t9, P9, w1⟩ | u9
          · dsimp only [zwP] at hp9
            obtain ⟨hjn, hv0, hht9, hpq9, hP16, hr9, hkp, oc9, x8, x9, x10, x11, x12, hL1⟩ := hp9
            have e9 := (nI_eq (by omega) (by omega)).mp hv0
            rw [← e9, hhd] at hht9; cases hht9
          · dsimp only [zwP] at hp9
            obtain ⟨hr9, hK9, E9, hE9⟩ := hp9
            have hr9 : r9 = (-102) := by rw [hr9, show (kR (ix (nI (dz)) nd) hd (fun _ => some 0) (fun _ => true)) = 2 from kR_2 (ix_in (by omega) hdt) hhd]; rfl
            subst hr9
            obtain ⟨-, hkp, oc9, x8, x9, x10, x11, x12, hL1⟩ := hE9
            have hP : va_P D vwCl ((lb, zInts cA 20 Lf) :: (oa, zInts cA 8 Of) :: (g 0, zInts cA 4 cf) :: (g 1, zInts cA 24 tf) :: (g 2, zInts cA 24 ff) :: (g 3, zInts cA 10 vf) :: (g 4, zInts cA 40 jj) :: (g 5, zInts cA 20 lt) :: (g 6, zInts cA 20 dd) :: u9) H := hP
            have hD : va_D A ((lb, zInts cA 20 Lf) :: (oa, zInts cA 8 Of) :: (g 0, zInts cA 4 cf) :: (g 1, zInts cA 24 tf) :: (g 2, zInts cA 24 ff) :: (g 3, zInts cA 10 vf) :: (g 4, zInts cA 40 jj) :: (g 5, zInts cA 20 lt) :: (g 6, zInts cA 20 dd) :: u9) := hD
            refine lv_iload hx hb dL_orders_151 (lv_at hl 1 rfl) ?_
            refine lv_icmp_ne (tgt := 190) hx hb dL_orders_153 (by decide) (fun c_9 => absurd rfl c_9) (fun c_9 => ?_)
            refine lv_aload_n hx hb dL_orders_156 rfl (lv_at hl 7 rfl) ?_
            refine lv_iconst (v := nI (4)) hx hb dL_orders_157 (by decide) ?_
            refine lv_iload hx hb dL_orders_158 (lv_at hl 14 rfl) ?_
            refine ze_H_i (n := 3) (mc := 2) (ms := 12) (ws := u9) (es := [(lb, zInts cA 20 Lf), (oa, zInts cA 8 Of), (g 0, zInts cA 4 cf), (g 1, zInts cA 24 tf), (g 2, zInts cA 24 ff), (g 3, zInts cA 10 vf), (g 4, zInts cA 40 jj), (g 5, zInts cA 20 lt), (g 6, zInts cA 20 dd)]) (As := [.ref (ad 0), .int (nI (4)), .int (nI (dz))]) (rest := []) hx hb hml hts hown hZ hX hN [0, 1, 2, 3, 4, 5, 6, 7, 8] rfl rfl hP hD hS hA (c_L_one_4 l D cA _ u9 (ad 0) _ (hL1.1.1) _ _ _ _ (kR (ix (nI (dz)) nd) hd (fun _ => some 0) (fun _ => true)) (nI (dz)) (fun sz9 => c_X4_insertedTime l hlt D cA sz9 u9 _ _ _ _ _ _ _ _ _ _ _ _ _ _ _ _ _ _ _ _ _ _ _ _ _ _ _ _ _ _ _ _ hL1 hI (nI (dz))) (fun _ _ h => h.1)) gL_orders_L_one rfl ⟨rfl, rfl⟩ ⟨by decide +kernel, (Nat.le_of_ble_eq_true rfl), (Nat.le_of_ble_eq_true rfl)⟩ hl.1 rfl (Nat.le_of_ble_eq_true rfl) ⟨by show _ ≤ 140; omega, by show _ ≤ 1020; omega⟩ rfl dL_orders_160 (fun r9 u9 H locs hp9 hP hD hS hz => ?_)
            rcases u9 with ⟨j9, t9, P9, w1⟩ | u9
            · dsimp only [zwP] at hp9
              obtain ⟨hjn, hv0, hht9, hpq9, hP16, hr9, hkp, oc9, x8, x9, x10, x11, x12, hL1⟩ := hp9
              have e9 := (nI_eq (by omega) (by omega)).mp hv0
              rw [← e9, hhd] at hht9; cases hht9
            · dsimp only [zwP] at hp9
              obtain ⟨hr9, hK9, E9, hE9⟩ := hp9
              have hr9 : r9 = (-102) := by rw [hr9, show (kR (ix (nI (dz)) nd) hd (fun _ => some 0) (fun _ => true)) = 2 from kR_2 (ix_in (by omega) hdt) hhd]; rfl
              subst hr9
              obtain ⟨-, hkp, oc9, x8, x9, x10, x11, x12, hL1⟩ := hE9
              have hP : va_P D vwCl ((lb, zInts cA 20 Lf) :: (oa, zInts cA 8 Of) :: (g 0, zInts cA 4 cf) :: (g 1, zInts cA 24 tf) :: (g 2, zInts cA 24 ff) :: (g 3, zInts cA 10 vf) :: (g 4, zInts cA 40 jj) :: (g 5, zInts cA 20 lt) :: (g 6, zInts cA 20 dd) :: u9) H := hP
              have hD : va_D A ((lb, zInts cA 20 Lf) :: (oa, zInts cA 8 Of) :: (g 0, zInts cA 4 cf) :: (g 1, zInts cA 24 tf) :: (g 2, zInts cA 24 ff) :: (g 3, zInts cA 10 vf) :: (g 4, zInts cA 40 jj) :: (g 5, zInts cA 20 lt) :: (g 6, zInts cA 20 dd) :: u9) := hD
              refine lv_iload hx hb dL_orders_163 (lv_at hl 3 rfl) ?_
              refine zb_eq (tgt := 185) hx hb dL_orders_165 (by decide) (fun c_10 => ?_) (fun c_10 => Bool.noConfusion c_10)
              refine lv_iload hx hb dL_orders_185 (lv_at hl 2 rfl) ?_
              refine lv_icmp_eq (tgt := 192) hx hb dL_orders_187 (by decide) (fun c_11 => ?_) (fun c_11 => absurd rfl c_11)
              refine lv_iconst (v := pI 0) hx hb dL_orders_192 (by decide) ?_
              refine lv_istore (lv' := [(15, .int (pI 0)), (14, .int (nI (0))), (13, .int ((-102))), (12, .int ((-102))), (11, .int (bI (false))), (10, .int (bI (true))), (8, .ref lb), (7, .ref oa), (0, .ref (ad 0)), (1, .ref (g 0)), (2, .ref (g 1)), (3, .ref (g 2)), (4, .ref (g 3)), (5, .ref (g 4)), (6, .ref (g 6)), (9, .int (nI (dz)))]) hx hb dL_orders_193 hl (by decide) rfl (fun ls hl => ?_)
              refine z_loopF (α := Nat × va_W) (fun v => 0 + 2 - v.1) (fun v => 2 + 45 * dz + 13 + 3 * v.1) (fun v => 28 + 330 * dz + 90 + 18 * v.1) (fun v H locs ls => lv_has ls 16 [(14, .int (nI (0))), (13, .int ((-102))), (12, .int ((-102))), (11, .int (bI (false))), (10, .int (bI (true))), (8, .ref lb), (7, .ref oa), (0, .ref (ad 0)), (1, .ref (g 0)), (2, .ref (g 1)), (3, .ref (g 2)), (4, .ref (g 3)), (5, .ref (g 4)), (6, .ref (g 6)), (9, .int (nI (dz))), (15, .int (pI v.1))] ∧ va_P D vwCl ((lb, zInts cA 20 Lf) :: (oa, zInts cA 8 Of) :: (g 0, zInts cA 4 cf) :: (g 1, zInts cA 24 tf) :: (g 2, zInts cA 24 ff) :: (g 3, zInts cA 10 vf) :: (g 4, zInts cA 40 jj) :: (g 5, zInts cA 20 lt) :: (g 6, zInts cA 20 dd) :: v.2) H ∧ va_D A ((lb, zInts cA 20 Lf) :: (oa, zInts cA 8 Of) :: (g 0, zInts cA 4 cf) :: (g 1, zInts cA 24 tf) :: (g 2, zInts cA 24 ff) :: (g 3, zInts cA 10 vf) :: (g 4, zInts cA 40 jj) :: (g 5, zInts cA 20 lt) :: (g 6, zInts cA 20 dd) :: v.2) ∧ va_S A s.heap H locs ∧ v.1 ≤ 0 + 2 ∧ (∃ oc s8 s9 s10 s11 s12, zL cA v.2 ad T Bd E PT PB PE n tr le sl mo la fc bo nd mk ck ct hd pq nj fw jf dl dn oc s8 s9 s10 s11 s12)) (fun _ => []) (0, u9) (show _ ≤ 2 + 45 * dz + 13 + 3 * 0 by omega) (show _ ≤ 28 + 330 * dz + 90 + 18 * 0 by omega) ⟨lv_sub hl [1, 2, 3, 4, 5, 6, 7, 8, 9, 10, 11, 12, 13, 14, 15, 0] rfl, hP, hD, hS, ⟨Nat.zero_le _, _, _, _, _, _, _, hL1⟩⟩ ?_
              intro v ih195 H locs ls hv
              obtain ⟨kk, cw8⟩ := v
              obtain ⟨hl, hP, hD, hS, hIv⟩ := hv
              have hP : va_P D vwCl ((lb, zInts cA 20 Lf) :: (oa, zInts cA 8 Of) :: (g 0, zInts cA 4 cf) :: (g 1, zInts cA 24 tf) :: (g 2, zInts cA 24 ff) :: (g 3, zInts cA 10 vf) :: (g 4, zInts cA 40 jj) :: (g 5, zInts cA 20 lt) :: (g 6, zInts cA 20 dd) :: cw8) H := hP
              have hD : va_D A ((lb, zInts cA 20 Lf) :: (oa, zInts cA 8 Of) :: (g 0, zInts cA 4 cf) :: (g 1, zInts cA 24 tf) :: (g 2, zInts cA 24 ff) :: (g 3, zInts cA 10 vf) :: (g 4, zInts cA 40 jj) :: (g 5, zInts cA 20 lt) :: (g 6, zInts cA 20 dd) :: cw8) := hD
              have hl : lv_has ls 16 [(14, .int (nI (0))), (13, .int ((-102))), (12, .int ((-102))), (11, .int (bI (false))), (10, .int (bI (true))), (8, .ref lb), (7, .ref oa), (0, .ref (ad 0)), (1, .ref (g 0)), (2, .ref (g 1)), (3, .ref (g 2)), (4, .ref (g 3)), (5, .ref (g 4)), (6, .ref (g 6)), (9, .int (nI (dz))), (15, .int (pI kk))] := hl
              have hIv : kk ≤ 0 + 2 ∧ (∃ oc s8 s9 s10 s11 s12, zL cA cw8 ad T Bd E PT PB PE n tr le sl mo la fc bo nd mk ck ct hd pq nj fw jf dl dn oc s8 s9 s10 s11 s12) := hIv
              refine W.widen (k := 2 + 45 * dz + 13 + 3 * kk) (n := 28 + 330 * dz + 90 + 18 * kk) (Nat.le_refl _) (Nat.le_refl _) ?_
              obtain ⟨hkk, oc, s8, s9, s10, s11, s12, hL1⟩ := hIv
              refine lv_iload hx hb dL_orders_195 (lv_at hl 15 rfl) ?_
              rcases kk with _ | kk
              · have e0 : pI 0 = -1 := by decide
                rw [e0] at hl
                refine zx_val (y := -1) e0 ?_
                refine lv_iload hx hb dL_orders_197 (lv_at hl 0 rfl) ?_
                refine lv_icmp_gt (tgt := 254) hx hb dL_orders_199 (by decide) (fun c_12 => absurd c_12 (Int32.not_lt.mpr (zneg_le (by omega) (by decide)))) (fun c_12 => ?_)
                refine lv_aload_n hx hb dL_orders_202 rfl (lv_at hl 7 rfl) ?_
                refine lv_iconst (v := nI (3)) hx hb dL_orders_203 (by decide) ?_
                refine lv_iload hx hb dL_orders_204 (lv_at hl 14 rfl) ?_
                refine lv_iload hx hb dL_orders_206 (lv_at hl 15 rfl) ?_
                refine ze_H_i (n := 4) (mc := 3) (ms := 18) (ws := cw8) (es := [(lb, zInts cA 20 Lf), (oa, zInts cA 8 Of), (g 0, zInts cA 4 cf), (g 1, zInts cA 24 tf), (g 2, zInts cA 24 ff), (g 3, zInts cA 10 vf), (g 4, zInts cA 40 jj), (g 5, zInts cA 20 lt), (g 6, zInts cA 20 dd)]) (As := [.ref (ad 0), .int (nI (3)), .int (nI (dz)), .int ((-1))]) (rest := []) hx hb hml hts hown hZ hX hN [0, 1, 2, 3, 4, 5, 6, 7, 8] rfl rfl hP hD hS hA (c_L_two_3 l D cA _ cw8 (ad 0) _ (hL1.1.1) _ _ _ _ (kR (ix (nI (dz)) nd) hd (fun t => ix ((-1)) (wl fw (nI t) nj).length) (fun _ => true)) (nI (dz)) ((-1)) (fun sz9 => c_X4_bestJob l hlt D cA sz9 cw8 _ _ _ _ _ _ _ _ _ _ _ _ _ _ _ _ _ _ _ _ _ _ _ _ _ _ _ _ _ _ _ _ hL1 hI (nI (dz)) ((-1))) (fun _ _ h => h.1)) gL_orders_L_two rfl ⟨rfl, rfl⟩ ⟨by decide +kernel, (Nat.le_of_ble_eq_true rfl), (Nat.le_of_ble_eq_true rfl)⟩ hl.1 rfl (Nat.le_of_ble_eq_true rfl) ⟨by show _ ≤ 140; omega, by show _ ≤ 1020; omega⟩ rfl dL_orders_208 (fun r9 u9 H locs hp9 hP hD hS hz => ?_)
                rcases u9 with ⟨j9, t9, P9, q9, w1⟩ | u9
                · dsimp only [zwP] at hp9
                  obtain ⟨hjn, hv0, hht9, hpq9, hP16, hq9, hv1, hr9, hkp, oc9, x8, x9, x10, x11, x12, hL1⟩ := hp9
                  have e9 := (nI_eq (by omega) (by omega)).mp hv0
                  rw [← e9, hhd] at hht9; cases hht9
                · dsimp only [zwP] at hp9
                  obtain ⟨hr9, hK9, E9, hE9⟩ := hp9
                  have hr9 : r9 = (-102) := by rw [hr9, show (kR (ix (nI (dz)) nd) hd (fun t => ix ((-1)) (wl fw (nI t) nj).length) (fun _ => true)) = 2 from kR_2 (ix_in (by omega) hdt) hhd]; rfl
                  subst hr9
                  obtain ⟨-, hkp, oc9, x8, x9, x10, x11, x12, hL1⟩ := hE9
                  have hP : va_P D vwCl ((lb, zInts cA 20 Lf) :: (oa, zInts cA 8 Of) :: (g 0, zInts cA 4 cf) :: (g 1, zInts cA 24 tf) :: (g 2, zInts cA 24 ff) :: (g 3, zInts cA 10 vf) :: (g 4, zInts cA 40 jj) :: (g 5, zInts cA 20 lt) :: (g 6, zInts cA 20 dd) :: u9) H := hP
                  have hD : va_D A ((lb, zInts cA 20 Lf) :: (oa, zInts cA 8 Of) :: (g 0, zInts cA 4 cf) :: (g 1, zInts cA 24 tf) :: (g 2, zInts cA 24 ff) :: (g 3, zInts cA 10 vf) :: (g 4, zInts cA 40 jj) :: (g 5, zInts cA 20 lt) :: (g 6, zInts cA 20 dd) :: u9) := hD
                  refine lv_iload hx hb dL_orders_211 (lv_at hl 3 rfl) ?_
                  refine zb_ne (tgt := 221) hx hb dL_orders_213 (by decide) (fun c_13 => Bool.noConfusion c_13) (fun c_13 => ?_)
                  refine lv_iload hx hb dL_orders_216 (lv_at hl 2 rfl) ?_
                  refine lv_goto (tgt := 243) hx hb dL_orders_218 (by decide) ?_
                  refine lv_icmp_eq (tgt := 248) hx hb dL_orders_243 (by decide) (fun c_14 => ?_) (fun c_14 => absurd rfl c_14)
                  refine lv_iinc (v := pI 1) (lv' := [(15, .int (pI 1)), (14, .int (nI (0))), (13, .int ((-102))), (12, .int ((-102))), (11, .int (bI (false))), (10, .int (bI (true))), (8, .ref lb), (7, .ref oa), (0, .ref (ad 0)), (1, .ref (g 0)), (2, .ref (g 1)), (3, .ref (g 2)), (4, .ref (g 3)), (5, .ref (g 4)), (6, .ref (g 6)), (9, .int (nI (dz)))]) hx hb dL_orders_248 hl (k := 15) rfl (by decide) (by decide) rfl (fun ls hl => ?_)
                  refine lv_goto (tgt := 195) hx hb dL_orders_251 (by decide) ?_
                  refine W.widen (k := 2 + 45 * dz + 13 + 3 * 1) (n := 28 + 330 * dz + 90 + 18 * 1) (by omega) (by omega) ?_
                  exact ih195 (1, u9) H locs ls (by first | omega | (dsimp only; omega)) ⟨lv_sub hl [1, 2, 3, 4, 5, 6, 7, 8, 9, 10, 11, 12, 13, 14, 15, 0] rfl, hP, hD, hS, ⟨by dsimp only; omega, _, _, _, _, _, _, hL1⟩⟩
              · rw [pI_s] at hl
                refine zx_val (y := nI kk) (pI_s kk) ?_
                refine lv_iload hx hb dL_orders_197 (lv_at hl 0 rfl) ?_
                refine zc_gt (tgt := 254) hx hb (by omega) (by omega) dL_orders_199 (by decide) (fun c_15 => ?_) (fun c_15 => ?_)
                · refine lv_iinc (v := nI (dz + 1)) (lv' := [(9, .int (nI (dz + 1))), (14, .int (nI (0))), (13, .int ((-102))), (12, .int ((-102))), (11, .int (bI (false))), (10, .int (bI (true))), (8, .ref lb), (7, .ref oa), (0, .ref (ad 0)), (1, .ref (g 0)), (2, .ref (g 1)), (3, .ref (g 2)), (4, .ref (g 3)), (5, .ref (g 4)), (6, .ref (g 6)), (15, .int (nI (kk)))]) hx hb dL_orders_254 hl (k := 14) rfl (zinc 1 _) (by decide) rfl (fun ls hl => ?_)
                  refine lv_goto (tgt := 15) hx hb dL_orders_257 (by decide) ?_
                  refine W.widen (k := 2 + 45 * ((dz + 1))) (n := 28 + 330 * ((dz + 1))) (by omega) (by omega) ?_
                  exact ih15 ((dz + 1), Of, Lf, cw8) H locs ls (by first | omega | (dsimp only; omega)) ⟨lv_sub hl [6, 7, 8, 9, 10, 11, 12, 13, 14, 0] rfl, hP, hD, hS, ⟨by dsimp only; omega, _, _, _, _, _, _, hL1⟩⟩
                · refine lv_aload_n hx hb dL_orders_202 rfl (lv_at hl 7 rfl) ?_
                  refine lv_iconst (v := nI (3)) hx hb dL_orders_203 (by decide) ?_
                  refine lv_iload hx hb dL_orders_204 (lv_at hl 14 rfl) ?_
                  refine lv_iload hx hb dL_orders_206 (lv_at hl 15 rfl) ?_
                  refine ze_H_i (n := 4) (mc := 3) (ms := 18) (ws := cw8) (es := [(lb, zInts cA 20 Lf), (oa, zInts cA 8 Of), (g 0, zInts cA 4 cf), (g 1, zInts cA 24 tf), (g 2, zInts cA 24 ff), (g 3, zInts cA 10 vf), (g 4, zInts cA 40 jj), (g 5, zInts cA 20 lt), (g 6, zInts cA 20 dd)]) (As := [.ref (ad 0), .int (nI (3)), .int (nI (dz)), .int (nI (kk))]) (rest := []) hx hb hml hts hown hZ hX hN [0, 1, 2, 3, 4, 5, 6, 7, 8] rfl rfl hP hD hS hA (c_L_two_3 l D cA _ cw8 (ad 0) _ (hL1.1.1) _ _ _ _ (kR (ix (nI (dz)) nd) hd (fun t => ix (nI (kk)) (wl fw (nI t) nj).length) (fun _ => true)) (nI (dz)) (nI (kk)) (fun sz9 => c_X4_bestJob l hlt D cA sz9 cw8 _ _ _ _ _ _ _ _ _ _ _ _ _ _ _ _ _ _ _ _ _ _ _ _ _ _ _ _ _ _ _ _ hL1 hI (nI (dz)) (nI (kk))) (fun _ _ h => h.1)) gL_orders_L_two rfl ⟨rfl, rfl⟩ ⟨by decide +kernel, (Nat.le_of_ble_eq_true rfl), (Nat.le_of_ble_eq_true rfl)⟩ hl.1 rfl (Nat.le_of_ble_eq_true rfl) ⟨by show _ ≤ 140; omega, by show _ ≤ 1020; omega⟩ rfl dL_orders_208 (fun r9 u9 H locs hp9 hP hD hS hz => ?_)
                  rcases u9 with ⟨j9, t9, P9, q9, w1⟩ | u9
                  · dsimp only [zwP] at hp9
                    obtain ⟨hjn, hv0, hht9, hpq9, hP16, hq9, hv1, hr9, hkp, oc9, x8, x9, x10, x11, x12, hL1⟩ := hp9
                    have e9 := (nI_eq (by omega) (by omega)).mp hv0
                    rw [← e9, hhd] at hht9; cases hht9
                  · dsimp only [zwP] at hp9
                    obtain ⟨hr9, hK9, E9, hE9⟩ := hp9
                    have hr9 : r9 = (-102) := by rw [hr9, show (kR (ix (nI (dz)) nd) hd (fun t => ix (nI (kk)) (wl fw (nI t) nj).length) (fun _ => true)) = 2 from kR_2 (ix_in (by omega) hdt) hhd]; rfl
                    subst hr9
                    obtain ⟨-, hkp, oc9, x8, x9, x10, x11, x12, hL1⟩ := hE9
                    have hP : va_P D vwCl ((lb, zInts cA 20 Lf) :: (oa, zInts cA 8 Of) :: (g 0, zInts cA 4 cf) :: (g 1, zInts cA 24 tf) :: (g 2, zInts cA 24 ff) :: (g 3, zInts cA 10 vf) :: (g 4, zInts cA 40 jj) :: (g 5, zInts cA 20 lt) :: (g 6, zInts cA 20 dd) :: u9) H := hP
                    have hD : va_D A ((lb, zInts cA 20 Lf) :: (oa, zInts cA 8 Of) :: (g 0, zInts cA 4 cf) :: (g 1, zInts cA 24 tf) :: (g 2, zInts cA 24 ff) :: (g 3, zInts cA 10 vf) :: (g 4, zInts cA 40 jj) :: (g 5, zInts cA 20 lt) :: (g 6, zInts cA 20 dd) :: u9) := hD
                    refine lv_iload hx hb dL_orders_211 (lv_at hl 3 rfl) ?_
                    refine zb_ne (tgt := 221) hx hb dL_orders_213 (by decide) (fun c_16 => Bool.noConfusion c_16) (fun c_16 => ?_)
                    refine lv_iload hx hb dL_orders_216 (lv_at hl 2 rfl) ?_
                    refine lv_goto (tgt := 243) hx hb dL_orders_218 (by decide) ?_
                    refine lv_icmp_eq (tgt := 248) hx hb dL_orders_243 (by decide) (fun c_17 => ?_) (fun c_17 => absurd rfl c_17)
                    refine lv_iinc (v := pI (kk + 2)) (lv' := [(15, .int (pI (kk + 2))), (14, .int (nI (0))), (13, .int ((-102))), (12, .int ((-102))), (11, .int (bI (false))), (10, .int (bI (true))), (8, .ref lb), (7, .ref oa), (0, .ref (ad 0)), (1, .ref (g 0)), (2, .ref (g 1)), (3, .ref (g 2)), (4, .ref (g 3)), (5, .ref (g 4)), (6, .ref (g 6)), (9, .int (nI (dz)))]) hx hb dL_orders_248 hl (k := 15) rfl (by rw [pI_s (kk + 1)]; exact zinc 1 _) (by decide) rfl (fun ls hl => ?_)
                    refine lv_goto (tgt := 195) hx hb dL_orders_251 (by decide) ?_
                    refine W.widen (k := 2 + 45 * dz + 13 + 3 * ((kk + 2))) (n := 28 + 330 * dz + 90 + 18 * ((kk + 2))) (by omega) (by omega) ?_
                    exact ih195 ((kk + 2), u9) H locs ls (by first | omega | (dsimp only; omega)) ⟨lv_sub hl [1, 2, 3, 4, 5, 6, 7, 8, 9, 10, 11, 12, 13, 14, 15, 0] rfl, hP, hD, hS, ⟨by dsimp only; omega, _, _, _, _, _, _, hL1⟩⟩
      · have qv6 : vf (6 + dz) = nI t := by rw [qv4, hhd]; rfl
        obtain ⟨htn, hmt1, Pq, hPq1, hPq2⟩ := hps1 t hhd
        obtain ⟨t1, t2, t3, t4, -⟩ := hIT t htn
        have hm8 : tr t * le t ≤ 8 * 200 := Nat.mul_le_mul t2 t4
        obtain ⟨y1, y2, y3, y4, y5, y6, y7, y8, y9, y10, y11, y12, y13, y14, y15, y16, y17⟩ := fb_of hI hp hdt hhd hPq1 hPq2
        have hw5 := qW t htn
        refine lv_iload hx hb dL_orders_23 (lv_at hl 9 rfl) ?_
        refine lv_aload_n hx hb dL_orders_25 rfl (lv_at hl 3 rfl) ?_
        refine lv_iconst (v := nI (1)) hx hb dL_orders_26 (by decide) ?_
        refine va_iald hx hb hZ.1 hP 2 0 rfl rfl (vp_in_nI (show 1 < 4 by omega) (by omega)) dL_orders_27 ?_
        rw [nI_clamp (show 1 < 2 ^ 31 by omega)]
        refine zx_val (y := nI (nd)) (c1) ?_
        refine zc_ge (tgt := 35) hx hb (by omega) (by omega) dL_orders_28 (by decide) (fun c_18 => False.elim (by omega)) (fun c_18 => ?_)
        refine lv_iconst (v := bI (true)) hx hb dL_orders_31 (by decide) ?_
        refine lv_goto (tgt := 36) hx hb dL_orders_32 (by decide) ?_
        refine lv_istore (lv' := [(10, .int (bI (true))), (8, .ref lb), (7, .ref oa), (0, .ref (ad 0)), (1, .ref (g 0)), (2, .ref (g 1)), (3, .ref (g 2)), (4, .ref (g 3)), (5, .ref (g 4)), (6, .ref (g 6)), (9, .int (nI (dz)))]) hx hb dL_orders_36 hl (by decide) rfl (fun ls hl => ?_)
        refine lv_iload hx hb dL_orders_38 (lv_at hl 0 rfl) ?_
        refine zb_eq (tgt := 58) hx hb dL_orders_40 (by decide) (fun c_19 => Bool.noConfusion c_19) (fun c_19 => ?_)
        refine lv_aload hx hb dL_orders_43 (lv_at hl 7 rfl) ?_
        refine lv_bipush (v := nI (6)) hx hb dL_orders_45 (by decide) ?_
        refine lv_iload hx hb dL_orders_47 (lv_at hl 10 rfl) ?_
        refine zo_add hx hb dL_orders_49 ?_
        refine va_iald hx hb hZ.1 hP 5 0 rfl rfl (vp_in_nI (show 6 + dz < 10 by omega) (by omega)) dL_orders_50 ?_
        rw [nI_clamp (show 6 + dz < 2 ^ 31 by omega)]
        refine zx_val (y := nI (t)) (qv6) ?_
        refine zf_lt (tgt := 58) hx hb (by omega) dL_orders_51 (by decide) ?_
        refine lv_iconst (v := bI (true)) hx hb dL_orders_54 (by decide) ?_
        refine lv_goto (tgt := 59) hx hb dL_orders_55 (by decide) ?_
        refine lv_istore (lv' := [(11, .int (bI (true))), (10, .int (bI (true))), (8, .ref lb), (7, .ref oa), (0, .ref (ad 0)), (1, .ref (g 0)), (2, .ref (g 1)), (3, .ref (g 2)), (4, .ref (g 3)), (5, .ref (g 4)), (6, .ref (g 6)), (9, .int (nI (dz)))]) hx hb dL_orders_59 hl (by decide) rfl (fun ls hl => ?_)
        refine lv_iload hx hb dL_orders_61 (lv_at hl 1 rfl) ?_
        refine zb_eq (tgt := 71) hx hb dL_orders_63 (by decide) (fun c_21 => Bool.noConfusion c_21) (fun c_21 => ?_)
        refine lv_bipush (v := (-102)) hx hb dL_orders_66 (by decide) ?_
        refine lv_goto (tgt := 73) hx hb dL_orders_68 (by decide) ?_
        refine lv_istore (lv' := [(12, .int ((-102))), (11, .int (bI (true))), (10, .int (bI (true))), (8, .ref lb), (7, .ref oa), (0, .ref (ad 0)), (1, .ref (g 0)), (2, .ref (g 1)), (3, .ref (g 2)), (4, .ref (g 3)), (5, .ref (g 4)), (6, .ref (g 6)), (9, .int (nI (dz)))]) hx hb dL_orders_73 hl (by decide) rfl (fun ls hl => ?_)
        refine lv_iload hx hb dL_orders_75 (lv_at hl 1 rfl) ?_
        refine zb_eq (tgt := 99) hx hb dL_orders_77 (by decide) (fun c_22 => Bool.noConfusion c_22) (fun c_22 => ?_)
        refine lv_aload_n hx hb dL_orders_80 rfl (lv_at hl 6 rfl) ?_
        refine lv_aload_n hx hb dL_orders_81 rfl (lv_at hl 7 rfl) ?_
        refine lv_aload_n hx hb dL_orders_82 rfl (lv_at hl 8 rfl) ?_
        refine lv_aload hx hb dL_orders_83 (lv_at hl 9 rfl) ?_
        refine lv_aload hx hb dL_orders_85 (lv_at hl 10 rfl) ?_
        refine lv_aload hx hb dL_orders_87 (lv_at hl 11 rfl) ?_
        refine lv_iload hx hb dL_orders_89 (lv_at hl 12 rfl) ?_
        refine lv_aload hx hb dL_orders_91 (lv_at hl 4 rfl) ?_
        refine zw_S_i (n := 8) (mc := 2) (ms := 16) (w1 := fun u : Nat → Int32 => (lb, zInts cA 20 Lf) :: (oa, zInts cA 8 u) :: (g 0, zInts cA 4 cf) :: (g 1, zInts cA 24 tf) :: (g 2, zInts cA 24 ff) :: (g 3, zInts cA 10 vf) :: (g 4, zInts cA 40 jj) :: (g 5, zInts cA 20 lt) :: (g 6, zInts cA 20 dd) :: cw9) (As := [.ref (g 0), .ref (g 1), .ref (g 2), .ref (g 3), .ref (g 4), .ref (g 6), .int (nI (dz)), .ref oa]) (rest := []) hx hb hml hts hown hZ hP hD hS hA (c_L_best l D cA _ ((lb, zInts cA 20 Lf) :: (oa, zInts cA 8 Of) :: (g 0, zInts cA 4 cf) :: (g 1, zInts cA 24 tf) :: (g 2, zInts cA 24 ff) :: (g 3, zInts cA 10 vf) :: (g 4, zInts cA 40 jj) :: (g 5, zInts cA 20 lt) :: (g 6, zInts cA 20 dd) :: cw9) 2 (g 0) cf rfl 3 (g 1) tf rfl 4 (g 2) ff rfl 5 (g 3) vf rfl 6 (g 4) jj rfl 8 (g 6) dd rfl nj jt fin fw c2 hj20 (hjob_of hp) dz t (tr t) (le t) (mk dz) y1 y2 y3 y4 y5 y6 y7 y8 y9 y10 y11 Pq y12 y13 (bo t) (fc t) y14 y15 y16 y17 (wl fw (nI t) nj).length rfl hw5 jf (hR_of hp htn) (LG mk tr le bo jf dz t Pq (wl fw (nI t) nj)) (hlg_of hp htn) (hpb_of hI hp htn) 1 oa Of rfl (by decide) (by decide) (by decide) (by decide) (by decide) (by decide)) gL_orders_L_best rfl ⟨rfl, rfl⟩ ⟨by decide +kernel, (Nat.le_of_ble_eq_true rfl), (Nat.le_of_ble_eq_true rfl)⟩ hl.1 rfl (Nat.le_of_ble_eq_true rfl) ⟨by show _ ≤ 140; omega, by show _ ≤ 1020; omega⟩ rfl dL_orders_93 (fun rb9 ub9 H locs hb9 hP hD hS hz => ?_)
        obtain ⟨hbr9, hub9⟩ := hb9
        obtain rfl := show rb9 = nI (BT (LG mk tr le bo jf dz t Pq (wl fw (nI t) nj)) (wl fw (nI t) nj).length (np 0) 7) from hbr9
        have hP : va_P D vwCl ((lb, zInts cA 20 Lf) :: (oa, zInts cA 8 ub9) :: (g 0, zInts cA 4 cf) :: (g 1, zInts cA 24 tf) :: (g 2, zInts cA 24 ff) :: (g 3, zInts cA 10 vf) :: (g 4, zInts cA 40 jj) :: (g 5, zInts cA 20 lt) :: (g 6, zInts cA 20 dd) :: cw9) H := hP
        have hD : va_D A ((lb, zInts cA 20 Lf) :: (oa, zInts cA 8 ub9) :: (g 0, zInts cA 4 cf) :: (g 1, zInts cA 24 tf) :: (g 2, zInts cA 24 ff) :: (g 3, zInts cA 10 vf) :: (g 4, zInts cA 40 jj) :: (g 5, zInts cA 20 lt) :: (g 6, zInts cA 20 dd) :: cw9) := hD
        refine lv_goto (tgt := 101) hx hb dL_orders_96 (by decide) ?_
        refine lv_istore (lv' := [(13, .int (nI (BT (LG mk tr le bo jf dz t Pq (wl fw (nI t) nj)) (wl fw (nI t) nj).length (np 0) 7))), (12, .int ((-102))), (11, .int (bI (true))), (10, .int (bI (true))), (8, .ref lb), (7, .ref oa), (0, .ref (ad 0)), (1, .ref (g 0)), (2, .ref (g 1)), (3, .ref (g 2)), (4, .ref (g 3)), (5, .ref (g 4)), (6, .ref (g 6)), (9, .int (nI (dz)))]) hx hb dL_orders_101 hl (by decide) rfl (fun ls hl => ?_)
        refine lv_iload hx hb dL_orders_103 (lv_at hl 2 rfl) ?_
        refine zb_eq (tgt := 129) hx hb dL_orders_105 (by decide) (fun c_23 => Bool.noConfusion c_23) (fun c_23 => ?_)
        refine lv_aload_n hx hb dL_orders_108 rfl (lv_at hl 7 rfl) ?_
        refine lv_aload hx hb dL_orders_109 (lv_at hl 11 rfl) ?_
        refine lv_aload hx hb dL_orders_111 (lv_at hl 12 rfl) ?_
        refine lv_aload hx hb dL_orders_113 (lv_at hl 10 rfl) ?_
        refine lv_bipush (v := nI (6)) hx hb dL_orders_115 (by decide) ?_
        refine lv_iload hx hb dL_orders_117 (lv_at hl 13 rfl) ?_
        refine zo_add hx hb dL_orders_119 ?_
        refine va_iald hx hb hZ.1 hP 5 0 rfl rfl (vp_in_nI (show 6 + dz < 10 by omega) (by omega)) dL_orders_120 ?_
        rw [nI_clamp (show 6 + dz < 2 ^ 31 by omega)]
        refine zx_val (y := nI (t)) (qv6) ?_
        refine lv_aload hx hb dL_orders_121 (lv_at hl 4 rfl) ?_
        refine zw_S_i (n := 5) (mc := 0) (ms := 0) (w1 := fun u : Unit => (lb, zInts cA 20 (colF Lf (wl fw (nI t) nj))) :: (oa, zInts cA 8 ub9) :: (g 0, zInts cA 4 cf) :: (g 1, zInts cA 24 tf) :: (g 2, zInts cA 24 ff) :: (g 3, zInts cA 10 vf) :: (g 4, zInts cA 40 jj) :: (g 5, zInts cA 20 lt) :: (g 6, zInts cA 20 dd) :: cw9) (As := [.ref (g 0), .ref (g 4), .ref (g 6), .int (nI (t)), .ref lb]) (rest := []) hx hb hml hts hown hZ hP hD hS hA (c_L_listed l D cA _ ((lb, zInts cA 20 Lf) :: (oa, zInts cA 8 ub9) :: (g 0, zInts cA 4 cf) :: (g 1, zInts cA 24 tf) :: (g 2, zInts cA 24 ff) :: (g 3, zInts cA 10 vf) :: (g 4, zInts cA 40 jj) :: (g 5, zInts cA 20 lt) :: (g 6, zInts cA 20 dd) :: cw9) 2 (g 0) cf rfl 6 (g 4) jj rfl 8 (g 6) dd rfl nj t jt fin fw c2 hj20 (by omega) (hjob_of hp) 0 lb 20 Lf rfl (by have := qW t (by omega); omega) (by decide) (by decide) (by decide) (by decide)) gL_orders_L_listed rfl ⟨rfl, rfl⟩ ⟨by decide +kernel, (Nat.le_of_ble_eq_true rfl), (Nat.le_of_ble_eq_true rfl)⟩ hl.1 rfl (Nat.le_of_ble_eq_true rfl) ⟨by show _ ≤ 140; omega, by show _ ≤ 1020; omega⟩ rfl dL_orders_123 (fun r9 u9 H locs hp9 hP hD hS hz => ?_)
        obtain rfl := show r9 = nI ((wl fw (nI t) nj).length) from hp9
        have hP : va_P D vwCl ((lb, zInts cA 20 (colF Lf (wl fw (nI t) nj))) :: (oa, zInts cA 8 ub9) :: (g 0, zInts cA 4 cf) :: (g 1, zInts cA 24 tf) :: (g 2, zInts cA 24 ff) :: (g 3, zInts cA 10 vf) :: (g 4, zInts cA 40 jj) :: (g 5, zInts cA 20 lt) :: (g 6, zInts cA 20 dd) :: cw9) H := hP
        have hD : va_D A ((lb, zInts cA 20 (colF Lf (wl fw (nI t) nj))) :: (oa, zInts cA 8 ub9) :: (g 0, zInts cA 4 cf) :: (g 1, zInts cA 24 tf) :: (g 2, zInts cA 24 ff) :: (g 3, zInts cA 10 vf) :: (g 4, zInts cA 40 jj) :: (g 5, zInts cA 20 lt) :: (g 6, zInts cA 20 dd) :: cw9) := hD
        refine lv_goto (tgt := 130) hx hb dL_orders_126 (by decide) ?_
        refine lv_istore (lv' := [(14, .int (nI ((wl fw (nI t) nj).length))), (13, .int (nI (BT (LG mk tr le bo jf dz t Pq (wl fw (nI t) nj)) (wl fw (nI t) nj).length (np 0) 7))), (12, .int ((-102))), (11, .int (bI (true))), (10, .int (bI (true))), (8, .ref lb), (7, .ref oa), (0, .ref (ad 0)), (1, .ref (g 0)), (2, .ref (g 1)), (3, .ref (g 2)), (4, .ref (g 3)), (5, .ref (g 4)), (6, .ref (g 6)), (9, .int (nI (dz)))]) hx hb dL_orders_130 hl (by decide) rfl (fun ls hl => ?_)
        refine lv_aload_n hx hb dL_orders_132 rfl (lv_at hl 7 rfl) ?_
        refine lv_iconst (v := nI (3)) hx hb dL_orders_133 (by decide) ?_
        refine lv_iload hx hb dL_orders_134 (lv_at hl 14 rfl) ?_
        refine ze_H_i (n := 3) (mc := 2) (ms := 12) (ws := cw9) (es := [(lb, zInts cA 20 (colF Lf (wl fw (nI t) nj))), (oa, zInts cA 8 ub9), (g 0, zInts cA 4 cf), (g 1, zInts cA 24 tf), (g 2, zInts cA 24 ff), (g 3, zInts cA 10 vf), (g 4, zInts cA 40 jj), (g 5, zInts cA 20 lt), (g 6, zInts cA 20 dd)]) (As := [.ref (ad 0), .int (nI (3)), .int (nI (dz))]) (rest := []) hx hb hml hts hown hZ hX hN [0, 1, 2, 3, 4, 5, 6, 7, 8] rfl rfl hP hD hS hA (c_L_one_3 l D cA _ cw9 (ad 0) _ (hL1.1.1) _ _ _ _ (kR (ix (nI (dz)) nd) hd (fun _ => some 0) (fun _ => true)) (nI (dz)) (fun sz9 => c_X4_bestTime l hlt D cA sz9 cw9 _ _ _ _ _ _ _ _ _ _ _ _ _ _ _ _ _ _ _ _ _ _ _ _ _ _ _ _ _ _ _ _ hL1 hI (nI (dz))) (fun _ _ h => h.1)) gL_orders_L_one rfl ⟨rfl, rfl⟩ ⟨by decide +kernel, (Nat.le_of_ble_eq_true rfl), (Nat.le_of_ble_eq_true rfl)⟩ hl.1 rfl (Nat.le_of_ble_eq_true rfl) ⟨by show _ ≤ 140; omega, by show _ ≤ 1020; omega⟩ rfl dL_orders_136 (fun r9 u9 H locs hp9 hP hD hS hz => ?_)
        rcases u9 with ⟨j9, t9, P9, w1⟩ | u9
        · dsimp only [zwP] at hp9
          obtain ⟨hjn, hv0, hht9, hpq9, hP16, hr9, hkp, oc9, x8, x9, x10, x11, x12, hL1⟩ := hp9
          have e9 := (nI_eq (by omega) (by omega)).mp hv0
          subst e9
          have e7 : t = t9 := Option.some.inj (hhd.symm.trans hht9)
          subst e7
          have e6 : Pq = P9 := (nI_eq (by omega) (by omega)).mp (hPq1.symm.trans hpq9)
          subst e6
          subst hr9
          have hP : va_P D vwCl ((lb, zInts cA 20 (colF Lf (wl fw (nI t) nj))) :: (oa, zInts cA 8 ub9) :: (g 0, zInts cA 4 cf) :: (g 1, zInts cA 24 tf) :: (g 2, zInts cA 24 ff) :: (g 3, zInts cA 10 vf) :: (g 4, zInts cA 40 jj) :: (g 5, zInts cA 20 lt) :: (g 6, zInts cA 20 dd) :: w1) H := hP
          have hD : va_D A ((lb, zInts cA 20 (colF Lf (wl fw (nI t) nj))) :: (oa, zInts cA 8 ub9) :: (g 0, zInts cA 4 cf) :: (g 1, zInts cA 24 tf) :: (g 2, zInts cA 24 ff) :: (g 3, zInts cA 10 vf) :: (g 4, zInts cA 40 jj) :: (g 5, zInts cA 20 lt) :: (g 6, zInts cA 20 dd) :: w1) := hD
          refine lv_iload hx hb dL_orders_139 (lv_at hl 1 rfl) ?_
          refine lv_icmp_ne (tgt := 190) hx hb dL_orders_141 (by decide) (fun c_24 => absurd rfl c_24) (fun c_24 => ?_)
          refine lv_aload_n hx hb dL_orders_144 rfl (lv_at hl 7 rfl) ?_
          refine lv_iconst (v := nI (5)) hx hb dL_orders_145 (by decide) ?_
          refine lv_iload hx hb dL_orders_146 (lv_at hl 14 rfl) ?_
          refine ze_H_i (n := 3) (mc := 2) (ms := 12) (ws := w1) (es := [(lb, zInts cA 20 (colF Lf (wl fw (nI t) nj))), (oa, zInts cA 8 ub9), (g 0, zInts cA 4 cf), (g 1, zInts cA 24 tf), (g 2, zInts cA 24 ff), (g 3, zInts cA 10 vf), (g 4, zInts cA 40 jj), (g 5, zInts cA 20 lt), (g 6, zInts cA 20 dd)]) (As := [.ref (ad 0), .int (nI (5)), .int (nI (dz))]) (rest := []) hx hb hml hts hown hZ hX hN [0, 1, 2, 3, 4, 5, 6, 7, 8] rfl rfl hP hD hS hA (c_L_one_5 l D cA _ w1 (ad 0) _ (hL1.1.1) _ _ _ _ (kR (ix (nI (dz)) nd) hd (fun _ => some 0) (fun _ => true)) (nI (dz)) (fun sz9 => c_X4_triedTime l hlt D cA sz9 w1 _ _ _ _ _ _ _ _ _ _ _ _ _ _ _ _ _ _ _ _ _ _ _ _ _ _ _ _ _ _ _ _ hL1 hI (nI (dz))) (fun _ _ h => h.1)) gL_orders_L_one rfl ⟨rfl, rfl⟩ ⟨by decide +kernel, (Nat.le_of_ble_eq_true rfl), (Nat.le_of_ble_eq_true rfl)⟩ hl.1 rfl (Nat.le_of_ble_eq_true rfl) ⟨by show _ ≤ 140; omega, by show _ ≤ 1020; omega⟩ rfl dL_orders_148 (fun r9 u9 H locs hp9 hP hD hS hz => ?_)
          rcases u9 with ⟨j9, t9, P9, w1⟩ | u9
          · dsimp only [zwP] at hp9
            obtain ⟨hjn, hv0, hht9, hpq9, hP16, hr9, hkp, oc9, x8, x9, x10, x11, x12, hL1⟩ := hp9
            have e9 := (nI_eq (by omega) (by omega)).mp hv0
            subst e9
            have e7 : t = t9 := Option.some.inj (hhd.symm.trans hht9)
            subst e7
            have e6 : Pq = P9 := (nI_eq (by omega) (by omega)).mp (hPq1.symm.trans hpq9)
            subst e6
            subst hr9
            have hP : va_P D vwCl ((lb, zInts cA 20 (colF Lf (wl fw (nI t) nj))) :: (oa, zInts cA 8 ub9) :: (g 0, zInts cA 4 cf) :: (g 1, zInts cA 24 tf) :: (g 2, zInts cA 24 ff) :: (g 3, zInts cA 10 vf) :: (g 4, zInts cA 40 jj) :: (g 5, zInts cA 20 lt) :: (g 6, zInts cA 20 dd) :: w1) H := hP
            have hD : va_D A ((lb, zInts cA 20 (colF Lf (wl fw (nI t) nj))) :: (oa, zInts cA 8 ub9) :: (g 0, zInts cA 4 cf) :: (g 1, zInts cA 24 tf) :: (g 2, zInts cA 24 ff) :: (g 3, zInts cA 10 vf) :: (g 4, zInts cA 40 jj) :: (g 5, zInts cA 20 lt) :: (g 6, zInts cA 20 dd) :: w1) := hD
            refine lv_iload hx hb dL_orders_151 (lv_at hl 1 rfl) ?_
            refine lv_icmp_ne (tgt := 190) hx hb dL_orders_153 (by decide) (fun c_25 => absurd rfl c_25) (fun c_25 => ?_)
            refine lv_aload_n hx hb dL_orders_156 rfl (lv_at hl 7 rfl) ?_
            refine lv_iconst (v := nI (4)) hx hb dL_orders_157 (by decide) ?_
            refine lv_iload hx hb dL_orders_158 (lv_at hl 14 rfl) ?_
            refine ze_H_i (n := 3) (mc := 2) (ms := 12) (ws := w1) (es := [(lb, zInts cA 20 (colF Lf (wl fw (nI t) nj))), (oa, zInts cA 8 ub9), (g 0, zInts cA 4 cf), (g 1, zInts cA 24 tf), (g 2, zInts cA 24 ff), (g 3, zInts cA 10 vf), (g 4, zInts cA 40 jj), (g 5, zInts cA 20 lt), (g 6, zInts cA 20 dd)]) (As := [.ref (ad 0), .int (nI (4)), .int (nI (dz))]) (rest := []) hx hb hml hts hown hZ hX hN [0, 1, 2, 3, 4, 5, 6, 7, 8] rfl rfl hP hD hS hA (c_L_one_4 l D cA _ w1 (ad 0) _ (hL1.1.1) _ _ _ _ (kR (ix (nI (dz)) nd) hd (fun _ => some 0) (fun _ => true)) (nI (dz)) (fun sz9 => c_X4_insertedTime l hlt D cA sz9 w1 _ _ _ _ _ _ _ _ _ _ _ _ _ _ _ _ _ _ _ _ _ _ _ _ _ _ _ _ _ _ _ _ hL1 hI (nI (dz))) (fun _ _ h => h.1)) gL_orders_L_one rfl ⟨rfl, rfl⟩ ⟨by decide +kernel, (Nat.le_of_ble_eq_true rfl), (Nat.le_of_ble_eq_true rfl)⟩ hl.1 rfl (Nat.le_of_ble_eq_true rfl) ⟨by show _ ≤ 140; omega, by show _ ≤ 1020; omega⟩ rfl dL_orders_160 (fun r9 u9 H locs hp9 hP hD hS hz => ?_)
            rcases u9 with ⟨j9, t9, P9, w1⟩ | u9
            · dsimp only [zwP] at hp9
              obtain ⟨hjn, hv0, hht9, hpq9, hP16, hr9, hkp, oc9, x8, x9, x10, x11, x12, hL1⟩ := hp9
              have e9 := (nI_eq (by omega) (by omega)).mp hv0
              subst e9
              have e7 : t = t9 := Option.some.inj (hhd.symm.trans hht9)
              subst e7
              have e6 : Pq = P9 := (nI_eq (by omega) (by omega)).mp (hPq1.symm.trans hpq9)
              subst e6
              subst hr9
              have hP : va_P D vwCl ((lb, zInts cA 20 (colF Lf (wl fw (nI t) nj))) :: (oa, zInts cA 8 ub9) :: (g 0, zInts cA 4 cf) :: (g 1, zInts cA 24 tf) :: (g 2, zInts cA 24 ff) :: (g 3, zInts cA 10 vf) :: (g 4, zInts cA 40 jj) :: (g 5, zInts cA 20 lt) :: (g 6, zInts cA 20 dd) :: w1) H := hP
              have hD : va_D A ((lb, zInts cA 20 (colF Lf (wl fw (nI t) nj))) :: (oa, zInts cA 8 ub9) :: (g 0, zInts cA 4 cf) :: (g 1, zInts cA 24 tf) :: (g 2, zInts cA 24 ff) :: (g 3, zInts cA 10 vf) :: (g 4, zInts cA 40 jj) :: (g 5, zInts cA 20 lt) :: (g 6, zInts cA 20 dd) :: w1) := hD
              refine lv_iload hx hb dL_orders_163 (lv_at hl 3 rfl) ?_
              refine zb_eq (tgt := 185) hx hb dL_orders_165 (by decide) (fun c_26 => Bool.noConfusion c_26) (fun c_26 => ?_)
              refine lv_aload_n hx hb dL_orders_168 rfl (lv_at hl 8 rfl) ?_
              refine lv_aload_n hx hb dL_orders_169 rfl (lv_at hl 9 rfl) ?_
              refine lv_aload_n hx hb dL_orders_170 rfl (lv_at hl 10 rfl) ?_
              refine lv_aload hx hb dL_orders_171 (lv_at hl 11 rfl) ?_
              refine lv_aload hx hb dL_orders_173 (lv_at hl 12 rfl) ?_
              refine lv_aload hx hb dL_orders_175 (lv_at hl 13 rfl) ?_
              refine lv_iload hx hb dL_orders_177 (lv_at hl 14 rfl) ?_
              refine zw_S_i (n := 7) (mc := 4) (ms := 32) (w1 := fun u : Unit => (lb, zInts cA 20 (colF Lf (wl fw (nI t) nj))) :: (oa, zInts cA 8 ub9) :: (g 0, zInts cA 4 cf) :: (g 1, zInts cA 24 tf) :: (g 2, zInts cA 24 ff) :: (g 3, zInts cA 10 vf) :: (g 4, zInts cA 40 jj) :: (g 5, zInts cA 20 lt) :: (g 6, zInts cA 20 dd) :: w1) (As := [.ref (g 0), .ref (g 1), .ref (g 2), .ref (g 3), .ref (g 4), .ref (g 6), .int (nI (dz))]) (rest := [.int (nI (pt (LG mk tr le bo jf dz t Pq (wl fw (nI t) nj)) 7 (insL (LG mk tr le bo jf dz t Pq (wl fw (nI t) nj)) (wl fw (nI t) nj).length)))]) hx hb hml hts hown hZ hP hD hS hA (c_L_inserted l D cA _ ((lb, zInts cA 20 (colF Lf (wl fw (nI t) nj))) :: (oa, zInts cA 8 ub9) :: (g 0, zInts cA 4 cf) :: (g 1, zInts cA 24 tf) :: (g 2, zInts cA 24 ff) :: (g 3, zInts cA 10 vf) :: (g 4, zInts cA 40 jj) :: (g 5, zInts cA 20 lt) :: (g 6, zInts cA 20 dd) :: w1) 2 (g 0) cf rfl 3 (g 1) tf rfl 4 (g 2) ff rfl 5 (g 3) vf rfl 6 (g 4) jj rfl 8 (g 6) dd rfl nj jt fin fw c2 hj20 (hjob_of hp) dz t (tr t) (le t) (mk dz) y1 y2 y3 y4 y5 y6 y7 y8 y9 y10 y11 Pq y12 y13 (bo t) (fc t) y14 y15 y16 y17 (wl fw (nI t) nj).length rfl hw5 jf (hR_of hp htn) (LG mk tr le bo jf dz t Pq (wl fw (nI t) nj)) (hlg_of hp htn) (hpb_of hI hp htn)) gL_orders_L_inserted rfl ⟨rfl, rfl⟩ ⟨by decide +kernel, (Nat.le_of_ble_eq_true rfl), (Nat.le_of_ble_eq_true rfl)⟩ hl.1 rfl (Nat.le_of_ble_eq_true rfl) ⟨by show _ ≤ 140; omega, by show _ ≤ 1020; omega⟩ rfl dL_orders_179 (fun r9 u9 H locs hp9 hP hD hS hz => ?_)
              obtain rfl := show r9 = nI (pt (LG mk tr le bo jf dz t Pq (wl fw (nI t) nj)) 7 (insL (LG mk tr le bo jf dz t Pq (wl fw (nI t) nj)) (wl fw (nI t) nj).length)) from hp9
              have hP : va_P D vwCl ((lb, zInts cA 20 (colF Lf (wl fw (nI t) nj))) :: (oa, zInts cA 8 ub9) :: (g 0, zInts cA 4 cf) :: (g 1, zInts cA 24 tf) :: (g 2, zInts cA 24 ff) :: (g 3, zInts cA 10 vf) :: (g 4, zInts cA 40 jj) :: (g 5, zInts cA 20 lt) :: (g 6, zInts cA 20 dd) :: w1) H := hP
              have hD : va_D A ((lb, zInts cA 20 (colF Lf (wl fw (nI t) nj))) :: (oa, zInts cA 8 ub9) :: (g 0, zInts cA 4 cf) :: (g 1, zInts cA 24 tf) :: (g 2, zInts cA 24 ff) :: (g 3, zInts cA 10 vf) :: (g 4, zInts cA 40 jj) :: (g 5, zInts cA 20 lt) :: (g 6, zInts cA 20 dd) :: w1) := hD
              refine lv_goto (tgt := 187) hx hb dL_orders_182 (by decide) ?_
              refine lv_icmp_eq (tgt := 192) hx hb dL_orders_187 (by decide) (fun c_27 => ?_) (fun c_27 => absurd rfl c_27)
              refine lv_iconst (v := pI 0) hx hb dL_orders_192 (by decide) ?_
              refine lv_istore (lv' := [(15, .int (pI 0)), (14, .int (nI ((wl fw (nI t) nj).length))), (13, .int (nI (BT (LG mk tr le bo jf dz t Pq (wl fw (nI t) nj)) (wl fw (nI t) nj).length (np 0) 7))), (12, .int ((-102))), (11, .int (bI (true))), (10, .int (bI (true))), (8, .ref lb), (7, .ref oa), (0, .ref (ad 0)), (1, .ref (g 0)), (2, .ref (g 1)), (3, .ref (g 2)), (4, .ref (g 3)), (5, .ref (g 4)), (6, .ref (g 6)), (9, .int (nI (dz)))]) hx hb dL_orders_193 hl (by decide) rfl (fun ls hl => ?_)
              refine z_loopF (α := Nat × va_W) (fun v => (wl fw (nI t) nj).length + 2 - v.1) (fun v => 2 + 45 * dz + 13 + 3 * v.1) (fun v => 28 + 330 * dz + 90 + 18 * v.1) (fun v H locs ls => lv_has ls 16 [(14, .int (nI ((wl fw (nI t) nj).length))), (13, .int (nI (BT (LG mk tr le bo jf dz t Pq (wl fw (nI t) nj)) (wl fw (nI t) nj).length (np 0) 7))), (12, .int ((-102))), (11, .int (bI (true))), (10, .int (bI (true))), (8, .ref lb), (7, .ref oa), (0, .ref (ad 0)), (1, .ref (g 0)), (2, .ref (g 1)), (3, .ref (g 2)), (4, .ref (g 3)), (5, .ref (g 4)), (6, .ref (g 6)), (9, .int (nI (dz))), (15, .int (pI v.1))] ∧ va_P D vwCl ((lb, zInts cA 20 (colF Lf (wl fw (nI t) nj))) :: (oa, zInts cA 8 ub9) :: (g 0, zInts cA 4 cf) :: (g 1, zInts cA 24 tf) :: (g 2, zInts cA 24 ff) :: (g 3, zInts cA 10 vf) :: (g 4, zInts cA 40 jj) :: (g 5, zInts cA 20 lt) :: (g 6, zInts cA 20 dd) :: v.2) H ∧ va_D A ((lb, zInts cA 20 (colF Lf (wl fw (nI t) nj))) :: (oa, zInts cA 8 ub9) :: (g 0, zInts cA 4 cf) :: (g 1, zInts cA 24 tf) :: (g 2, zInts cA 24 ff) :: (g 3, zInts cA 10 vf) :: (g 4, zInts cA 40 jj) :: (g 5, zInts cA 20 lt) :: (g 6, zInts cA 20 dd) :: v.2) ∧ va_S A s.heap H locs ∧ v.1 ≤ (wl fw (nI t) nj).length + 2 ∧ (∃ oc s8 s9 s10 s11 s12, zL cA v.2 ad T Bd E PT PB PE n tr le sl mo la fc bo nd mk ck ct hd pq nj fw jf dl dn oc s8 s9 s10 s11 s12)) (fun _ => []) (0, w1) (show _ ≤ 2 + 45 * dz + 13 + 3 * 0 by omega) (show _ ≤ 28 + 330 * dz + 90 + 18 * 0 by omega) ⟨lv_sub hl [1, 2, 3, 4, 5, 6, 7, 8, 9, 10, 11, 12, 13, 14, 15, 0] rfl, hP, hD, hS, ⟨Nat.zero_le _, _, _, _, _, _, _, hL1⟩⟩ ?_
              intro v ih195 H locs ls hv
              obtain ⟨kk, cw8⟩ := v
              obtain ⟨hl, hP, hD, hS, hIv⟩ := hv
              have hP : va_P D vwCl ((lb, zInts cA 20 (colF Lf (wl fw (nI t) nj))) :: (oa, zInts cA 8 ub9) :: (g 0, zInts cA 4 cf) :: (g 1, zInts cA 24 tf) :: (g 2, zInts cA 24 ff) :: (g 3, zInts cA 10 vf) :: (g 4, zInts cA 40 jj) :: (g 5, zInts cA 20 lt) :: (g 6, zInts cA 20 dd) :: cw8) H := hP
              have hD : va_D A ((lb, zInts cA 20 (colF Lf (wl fw (nI t) nj))) :: (oa, zInts cA 8 ub9) :: (g 0, zInts cA 4 cf) :: (g 1, zInts cA 24 tf) :: (g 2, zInts cA 24 ff) :: (g 3, zInts cA 10 vf) :: (g 4, zInts cA 40 jj) :: (g 5, zInts cA 20 lt) :: (g 6, zInts cA 20 dd) :: cw8) := hD
              have hl : lv_has ls 16 [(14, .int (nI ((wl fw (nI t) nj).length))), (13, .int (nI (BT (LG mk tr le bo jf dz t Pq (wl fw (nI t) nj)) (wl fw (nI t) nj).length (np 0) 7))), (12, .int ((-102))), (11, .int (bI (true))), (10, .int (bI (true))), (8, .ref lb), (7, .ref oa), (0, .ref (ad 0)), (1, .ref (g 0)), (2, .ref (g 1)), (3, .ref (g 2)), (4, .ref (g 3)), (5, .ref (g 4)), (6, .ref (g 6)), (9, .int (nI (dz))), (15, .int (pI kk))] := hl
              have hIv : kk ≤ (wl fw (nI t) nj).length + 2 ∧ (∃ oc s8 s9 s10 s11 s12, zL cA cw8 ad T Bd E PT PB PE n tr le sl mo la fc bo nd mk ck ct hd pq nj fw jf dl dn oc s8 s9 s10 s11 s12) := hIv
              refine W.widen (k := 2 + 45 * dz + 13 + 3 * kk) (n := 28 + 330 * dz + 90 + 18 * kk) (Nat.le_refl _) (Nat.le_refl _) ?_
              obtain ⟨hkk, oc, s8, s9, s10, s11, s12, hL1⟩ := hIv
              refine lv_iload hx hb dL_orders_195 (lv_at hl 15 rfl) ?_
              rcases kk with _ | kk
              · have e0 : pI 0 = -1 := by decide
                rw [e0] at hl
                refine zx_val (y := -1) e0 ?_
                refine lv_iload hx hb dL_orders_197 (lv_at hl 0 rfl) ?_
                refine lv_icmp_gt (tgt := 254) hx hb dL_orders_199 (by decide) (fun c_28 => absurd c_28 (Int32.not_lt.mpr (zneg_le (by omega) (by decide)))) (fun c_28 => ?_)
                refine lv_aload_n hx hb dL_orders_202 rfl (lv_at hl 7 rfl) ?_
                refine lv_iconst (v := nI (3)) hx hb dL_orders_203 (by decide) ?_
                refine lv_iload hx hb dL_orders_204 (lv_at hl 14 rfl) ?_
                refine lv_iload hx hb dL_orders_206 (lv_at hl 15 rfl) ?_
                refine ze_H_i (n := 4) (mc := 3) (ms := 18) (ws := cw8) (es := [(lb, zInts cA 20 (colF Lf (wl fw (nI t) nj))), (oa, zInts cA 8 ub9), (g 0, zInts cA 4 cf), (g 1, zInts cA 24 tf), (g 2, zInts cA 24 ff), (g 3, zInts cA 10 vf), (g 4, zInts cA 40 jj), (g 5, zInts cA 20 lt), (g 6, zInts cA 20 dd)]) (As := [.ref (ad 0), .int (nI (3)), .int (nI (dz)), .int ((-1))]) (rest := []) hx hb hml hts hown hZ hX hN [0, 1, 2, 3, 4, 5, 6, 7, 8] rfl rfl hP hD hS hA (c_L_two_3 l D cA _ cw8 (ad 0) _ (hL1.1.1) _ _ _ _ (kR (ix (nI (dz)) nd) hd (fun t => ix ((-1)) (wl fw (nI t) nj).length) (fun _ => true)) (nI (dz)) ((-1)) (fun sz9 => c_X4_bestJob l hlt D cA sz9 cw8 _ _ _ _ _ _ _ _ _ _ _ _ _ _ _ _ _ _ _ _ _ _ _ _ _ _ _ _ _ _ _ _ hL1 hI (nI (dz)) ((-1))) (fun _ _ h => h.1)) gL_orders_L_two rfl ⟨rfl, rfl⟩ ⟨by decide +kernel, (Nat.le_of_ble_eq_true rfl), (Nat.le_of_ble_eq_true rfl)⟩ hl.1 rfl (Nat.le_of_ble_eq_true rfl) ⟨by show _ ≤ 140; omega, by show _ ≤ 1020; omega⟩ rfl dL_orders_208 (fun r9 u9 H locs hp9 hP hD hS hz => ?_)
                rcases u9 with ⟨j9, t9, P9, q9, w1⟩ | u9
                · dsimp only [zwP] at hp9
                  obtain ⟨hjn, hv0, hht9, hpq9, hP16, hq9, hv1, hr9, hkp, oc9, x8, x9, x10, x11, x12, hL1⟩ := hp9
                  have hwb9 := wl_le (f := fw) (x := nI t9) nj
                  exact absurd hv1.symm (nI_nm1 (by omega))
                · dsimp only [zwP] at hp9
                  obtain ⟨hr9, hK9, E9, hE9⟩ := hp9
                  have hr9 : r9 = (-101) := by rw [hr9, show (kR (ix (nI (dz)) nd) hd (fun t => ix ((-1)) (wl fw (nI t) nj).length) (fun _ => true)) = 1 from kR_3 (ix_in (by omega) hdt) hhd (ix_neg (by decide))]; rfl
                  subst hr9
                  obtain ⟨-, hkp, oc9, x8, x9, x10, x11, x12, hL1⟩ := hE9
                  have hP : va_P D vwCl ((lb, zInts cA 20 (colF Lf (wl fw (nI t) nj))) :: (oa, zInts cA 8 ub9) :: (g 0, zInts cA 4 cf) :: (g 1, zInts cA 24 tf) :: (g 2, zInts cA 24 ff) :: (g 3, zInts cA 10 vf) :: (g 4, zInts cA 40 jj) :: (g 5, zInts cA 20 lt) :: (g 6, zInts cA 20 dd) :: u9) H := hP
                  have hD : va_D A ((lb, zInts cA 20 (colF Lf (wl fw (nI t) nj))) :: (oa, zInts cA 8 ub9) :: (g 0, zInts cA 4 cf) :: (g 1, zInts cA 24 tf) :: (g 2, zInts cA 24 ff) :: (g 3, zInts cA 10 vf) :: (g 4, zInts cA 40 jj) :: (g 5, zInts cA 20 lt) :: (g 6, zInts cA 20 dd) :: u9) := hD
                  refine lv_iload hx hb dL_orders_211 (lv_at hl 3 rfl) ?_
                  refine zb_ne (tgt := 221) hx hb dL_orders_213 (by decide) (fun c_29 => ?_) (fun c_29 => Bool.noConfusion c_29)
                  refine lv_iload hx hb dL_orders_221 (lv_at hl 15 rfl) ?_
                  refine lv_if_lt (tgt := 241) hx hb dL_orders_223 (by decide) (fun c_30 => ?_) (fun c_30 => absurd (by decide) c_30)
                  refine lv_bipush (v := (-101)) hx hb dL_orders_241 (by decide) ?_
                  refine lv_icmp_eq (tgt := 248) hx hb dL_orders_243 (by decide) (fun c_31 => ?_) (fun c_31 => absurd rfl c_31)
                  refine lv_iinc (v := pI 1) (lv' := [(15, .int (pI 1)), (14, .int (nI ((wl fw (nI t) nj).length))), (13, .int (nI (BT (LG mk tr le bo jf dz t Pq (wl fw (nI t) nj)) (wl fw (nI t) nj).length (np 0) 7))), (12, .int ((-102))), (11, .int (bI (true))), (10, .int (bI (true))), (8, .ref lb), (7, .ref oa), (0, .ref (ad 0)), (1, .ref (g 0)), (2, .ref (g 1)), (3, .ref (g 2)), (4, .ref (g 3)), (5, .ref (g 4)), (6, .ref (g 6)), (9, .int (nI (dz)))]) hx hb dL_orders_248 hl (k := 15) rfl (by decide) (by decide) rfl (fun ls hl => ?_)
                  refine lv_goto (tgt := 195) hx hb dL_orders_251 (by decide) ?_
                  refine W.widen (k := 2 + 45 * dz + 13 + 3 * 1) (n := 28 + 330 * dz + 90 + 18 * 1) (by omega) (by omega) ?_
                  exact ih195 (1, u9) H locs ls (by first | omega | (dsimp only; omega)) ⟨lv_sub hl [1, 2, 3, 4, 5, 6, 7, 8, 9, 10, 11, 12, 13, 14, 15, 0] rfl, hP, hD, hS, ⟨by dsimp only; omega, _, _, _, _, _, _, hL1⟩⟩
              · rw [pI_s] at hl
                refine zx_val (y := nI kk) (pI_s kk) ?_
                refine lv_iload hx hb dL_orders_197 (lv_at hl 0 rfl) ?_
                refine zc_gt (tgt := 254) hx hb (by omega) (by omega) dL_orders_199 (by decide) (fun c_32 => ?_) (fun c_32 => ?_)
                · refine lv_iinc (v := nI (dz + 1)) (lv' := [(9, .int (nI (dz + 1))), (14, .int (nI ((wl fw (nI t) nj).length))), (13, .int (nI (BT (LG mk tr le bo jf dz t Pq (wl fw (nI t) nj)) (wl fw (nI t) nj).length (np 0) 7))), (12, .int ((-102))), (11, .int (bI (true))), (10, .int (bI (true))), (8, .ref lb), (7, .ref oa), (0, .ref (ad 0)), (1, .ref (g 0)), (2, .ref (g 1)), (3, .ref (g 2)), (4, .ref (g 3)), (5, .ref (g 4)), (6, .ref (g 6)), (15, .int (nI (kk)))]) hx hb dL_orders_254 hl (k := 14) rfl (zinc 1 _) (by decide) rfl (fun ls hl => ?_)
                  refine lv_goto (tgt := 15) hx hb dL_orders_257 (by decide) ?_
                  refine W.widen (k := 2 + 45 * ((dz + 1))) (n := 28 + 330 * ((dz + 1))) (by omega) (by omega) ?_
                  exact ih15 ((dz + 1), ub9, (colF Lf (wl fw (nI t) nj)), cw8) H locs ls (by first | omega | (dsimp only; omega)) ⟨lv_sub hl [6, 7, 8, 9, 10, 11, 12, 13, 14, 0] rfl, hP, hD, hS, ⟨by dsimp only; omega, _, _, _, _, _, _, hL1⟩⟩
                · rcases Nat.lt_or_ge kk (wl fw (nI t) nj).length with hkM | hkM
                  · have hum := hub9 kk hkM
                    refine lv_aload_n hx hb dL_orders_202 rfl (lv_at hl 7 rfl) ?_
                    refine lv_iconst (v := nI (3)) hx hb dL_orders_203 (by decide) ?_
                    refine lv_iload hx hb dL_orders_204 (lv_at hl 14 rfl) ?_
                    refine lv_iload hx hb dL_orders_206 (lv_at hl 15 rfl) ?_
                    refine ze_H_i (n := 4) (mc := 3) (ms := 18) (ws := cw8) (es := [(lb, zInts cA 20 (colF Lf (wl fw (nI t) nj))), (oa, zInts cA 8 ub9), (g 0, zInts cA 4 cf), (g 1, zInts cA 24 tf), (g 2, zInts cA 24 ff), (g 3, zInts cA 10 vf), (g 4, zInts cA 40 jj), (g 5, zInts cA 20 lt), (g 6, zInts cA 20 dd)]) (As := [.ref (ad 0), .int (nI (3)), .int (nI (dz)), .int (nI (kk))]) (rest := []) hx hb hml hts hown hZ hX hN [0, 1, 2, 3, 4, 5, 6, 7, 8] rfl rfl hP hD hS hA (c_L_two_3 l D cA _ cw8 (ad 0) _ (hL1.1.1) _ _ _ _ (kR (ix (nI (dz)) nd) hd (fun t => ix (nI (kk)) (wl fw (nI t) nj).length) (fun _ => true)) (nI (dz)) (nI (kk)) (fun sz9 => c_X4_bestJob l hlt D cA sz9 cw8 _ _ _ _ _ _ _ _ _ _ _ _ _ _ _ _ _ _ _ _ _ _ _ _ _ _ _ _ _ _ _ _ hL1 hI (nI (dz)) (nI (kk))) (fun _ _ h => h.1)) gL_orders_L_two rfl ⟨rfl, rfl⟩ ⟨by decide +kernel, (Nat.le_of_ble_eq_true rfl), (Nat.le_of_ble_eq_true rfl)⟩ hl.1 rfl (Nat.le_of_ble_eq_true rfl) ⟨by show _ ≤ 140; omega, by show _ ≤ 1020; omega⟩ rfl dL_orders_208 (fun r9 u9 H locs hp9 hP hD hS hz => ?_)
                    rcases u9 with ⟨j9, t9, P9, q9, w1⟩ | u9
                    · dsimp only [zwP] at hp9
                      obtain ⟨hjn, hv0, hht9, hpq9, hP16, hq9, hv1, hr9, hkp, oc9, x8, x9, x10, x11, x12, hL1⟩ := hp9
                      have e9 := (nI_eq (by omega) (by omega)).mp hv0
                      subst e9
                      have e7 : t = t9 := Option.some.inj (hhd.symm.trans hht9)
                      subst e7
                      have e6 : Pq = P9 := (nI_eq (by omega) (by omega)).mp (hPq1.symm.trans hpq9)
                      subst e6
                      have e8 := (nI_eq (by omega) (by omega)).mp hv1
                      subst e8
                      subst hr9
                      have hP : va_P D vwCl ((lb, zInts cA 20 (colF Lf (wl fw (nI t) nj))) :: (oa, zInts cA 8 ub9) :: (g 0, zInts cA 4 cf) :: (g 1, zInts cA 24 tf) :: (g 2, zInts cA 24 ff) :: (g 3, zInts cA 10 vf) :: (g 4, zInts cA 40 jj) :: (g 5, zInts cA 20 lt) :: (g 6, zInts cA 20 dd) :: w1) H := hP
                      have hD : va_D A ((lb, zInts cA 20 (colF Lf (wl fw (nI t) nj))) :: (oa, zInts cA 8 ub9) :: (g 0, zInts cA 4 cf) :: (g 1, zInts cA 24 tf) :: (g 2, zInts cA 24 ff) :: (g 3, zInts cA 10 vf) :: (g 4, zInts cA 40 jj) :: (g 5, zInts cA 20 lt) :: (g 6, zInts cA 20 dd) :: w1) := hD
                      refine lv_iload hx hb dL_orders_211 (lv_at hl 3 rfl) ?_
                      refine zb_ne (tgt := 221) hx hb dL_orders_213 (by decide) (fun c_33 => ?_) (fun c_33 => Bool.noConfusion c_33)
                      refine lv_iload hx hb dL_orders_221 (lv_at hl 15 rfl) ?_
                      refine zf_lt (tgt := 241) hx hb (by omega) dL_orders_223 (by decide) ?_
                      refine lv_iload hx hb dL_orders_226 (lv_at hl 15 rfl) ?_
                      refine lv_iload hx hb dL_orders_228 (lv_at hl 0 rfl) ?_
                      refine zc_ge (tgt := 241) hx hb (by omega) (by omega) dL_orders_230 (by decide) (fun c_35 => False.elim (by omega)) (fun c_35 => ?_)
                      refine lv_aload hx hb dL_orders_233 (lv_at hl 6 rfl) ?_
                      refine lv_iload hx hb dL_orders_235 (lv_at hl 15 rfl) ?_
                      refine va_iald hx hb hZ.1 hP 1 0 rfl rfl (vp_in_nI (show kk < 8 by omega) (by omega)) dL_orders_237 ?_
                      rw [nI_clamp (show kk < 2 ^ 31 by omega)]
                      refine zx_val (y := nI ((wl fw (nI t) nj).getD ((BO (LG mk tr le bo jf dz t Pq (wl fw (nI t) nj)) (wl fw (nI t) nj).length (np 0) 7).getD kk 0) 0)) (hum) ?_
                      refine lv_goto (tgt := 243) hx hb dL_orders_238 (by decide) ?_
                      refine lv_icmp_eq (tgt := 248) hx hb dL_orders_243 (by decide) (fun c_36 => ?_) (fun c_36 => absurd rfl c_36)
                      refine lv_iinc (v := pI (kk + 2)) (lv' := [(15, .int (pI (kk + 2))), (14, .int (nI ((wl fw (nI t) nj).length))), (13, .int (nI (BT (LG mk tr le bo jf dz t Pq (wl fw (nI t) nj)) (wl fw (nI t) nj).length (np 0) 7))), (12, .int ((-102))), (11, .int (bI (true))), (10, .int (bI (true))), (8, .ref lb), (7, .ref oa), (0, .ref (ad 0)), (1, .ref (g 0)), (2, .ref (g 1)), (3, .ref (g 2)), (4, .ref (g 3)), (5, .ref (g 4)), (6, .ref (g 6)), (9, .int (nI (dz)))]) hx hb dL_orders_248 hl (k := 15) rfl (by rw [pI_s (kk + 1)]; exact zinc 1 _) (by decide) rfl (fun ls hl => ?_)
                      refine lv_goto (tgt := 195) hx hb dL_orders_251 (by decide) ?_
                      refine W.widen (k := 2 + 45 * dz + 13 + 3 * ((kk + 2))) (n := 28 + 330 * dz + 90 + 18 * ((kk + 2))) (by omega) (by omega) ?_
                      exact ih195 ((kk + 2), w1) H locs ls (by first | omega | (dsimp only; omega)) ⟨lv_sub hl [1, 2, 3, 4, 5, 6, 7, 8, 9, 10, 11, 12, 13, 14, 15, 0] rfl, hP, hD, hS, ⟨by dsimp only; omega, _, _, _, _, _, _, hL1⟩⟩
                    · exact absurd (show (kR (ix (nI (dz)) nd) hd (fun t => ix (nI (kk)) (wl fw (nI t) nj).length) (fun _ => true)) = 0 from kR_0 (ix_in (by omega) hdt) hhd (ix_in (by omega) hkM) rfl) hp9.2.1
                  · refine lv_aload_n hx hb dL_orders_202 rfl (lv_at hl 7 rfl) ?_
                    refine lv_iconst (v := nI (3)) hx hb dL_orders_203 (by decide) ?_
                    refine lv_iload hx hb dL_orders_204 (lv_at hl 14 rfl) ?_
                    refine lv_iload hx hb dL_orders_206 (lv_at hl 15 rfl) ?_
                    refine ze_H_i (n := 4) (mc := 3) (ms := 18) (ws := cw8) (es := [(lb, zInts cA 20 (colF Lf (wl fw (nI t) nj))), (oa, zInts cA 8 ub9), (g 0, zInts cA 4 cf), (g 1, zInts cA 24 tf), (g 2, zInts cA 24 ff), (g 3, zInts cA 10 vf), (g 4, zInts cA 40 jj), (g 5, zInts cA 20 lt), (g 6, zInts cA 20 dd)]) (As := [.ref (ad 0), .int (nI (3)), .int (nI (dz)), .int (nI (kk))]) (rest := []) hx hb hml hts hown hZ hX hN [0, 1, 2, 3, 4, 5, 6, 7, 8] rfl rfl hP hD hS hA (c_L_two_3 l D cA _ cw8 (ad 0) _ (hL1.1.1) _ _ _ _ (kR (ix (nI (dz)) nd) hd (fun t => ix (nI (kk)) (wl fw (nI t) nj).length) (fun _ => true)) (nI (dz)) (nI (kk)) (fun sz9 => c_X4_bestJob l hlt D cA sz9 cw8 _ _ _ _ _ _ _ _ _ _ _ _ _ _ _ _ _ _ _ _ _ _ _ _ _ _ _ _ _ _ _ _ hL1 hI (nI (dz)) (nI (kk))) (fun _ _ h => h.1)) gL_orders_L_two rfl ⟨rfl, rfl⟩ ⟨by decide +kernel, (Nat.le_of_ble_eq_true rfl), (Nat.le_of_ble_eq_true rfl)⟩ hl.1 rfl (Nat.le_of_ble_eq_true rfl) ⟨by show _ ≤ 140; omega, by show _ ≤ 1020; omega⟩ rfl dL_orders_208 (fun r9 u9 H locs hp9 hP hD hS hz => ?_)
                    rcases u9 with ⟨j9, t9, P9, q9, w1⟩ | u9
                    · dsimp only [zwP] at hp9
                      obtain ⟨hjn, hv0, hht9, hpq9, hP16, hq9, hv1, hr9, hkp, oc9, x8, x9, x10, x11, x12, hL1⟩ := hp9
                      have e9 := (nI_eq (by omega) (by omega)).mp hv0
                      subst e9
                      have e7 : t = t9 := Option.some.inj (hhd.symm.trans hht9)
                      subst e7
                      have e8 := (nI_eq (by omega) (by omega)).mp hv1
                      omega
                    · dsimp only [zwP] at hp9
                      obtain ⟨hr9, hK9, E9, hE9⟩ := hp9
                      have hr9 : r9 = (-101) := by rw [hr9, show (kR (ix (nI (dz)) nd) hd (fun t => ix (nI (kk)) (wl fw (nI t) nj).length) (fun _ => true)) = 1 from kR_3 (ix_in (by omega) hdt) hhd (by rw [ix_nI (by omega), if_neg (by omega)])]; rfl
                      subst hr9
                      obtain ⟨-, hkp, oc9, x8, x9, x10, x11, x12, hL1⟩ := hE9
                      have hP : va_P D vwCl ((lb, zInts cA 20 (colF Lf (wl fw (nI t) nj))) :: (oa, zInts cA 8 ub9) :: (g 0, zInts cA 4 cf) :: (g 1, zInts cA 24 tf) :: (g 2, zInts cA 24 ff) :: (g 3, zInts cA 10 vf) :: (g 4, zInts cA 40 jj) :: (g 5, zInts cA 20 lt) :: (g 6, zInts cA 20 dd) :: u9) H := hP
                      have hD : va_D A ((lb, zInts cA 20 (colF Lf (wl fw (nI t) nj))) :: (oa, zInts cA 8 ub9) :: (g 0, zInts cA 4 cf) :: (g 1, zInts cA 24 tf) :: (g 2, zInts cA 24 ff) :: (g 3, zInts cA 10 vf) :: (g 4, zInts cA 40 jj) :: (g 5, zInts cA 20 lt) :: (g 6, zInts cA 20 dd) :: u9) := hD
                      refine lv_iload hx hb dL_orders_211 (lv_at hl 3 rfl) ?_
                      refine zb_ne (tgt := 221) hx hb dL_orders_213 (by decide) (fun c_37 => ?_) (fun c_37 => Bool.noConfusion c_37)
                      refine lv_iload hx hb dL_orders_221 (lv_at hl 15 rfl) ?_
                      refine zf_lt (tgt := 241) hx hb (by omega) dL_orders_223 (by decide) ?_
                      refine lv_iload hx hb dL_orders_226 (lv_at hl 15 rfl) ?_
                      refine lv_iload hx hb dL_orders_228 (lv_at hl 0 rfl) ?_
                      refine zc_ge (tgt := 241) hx hb (by omega) (by omega) dL_orders_230 (by decide) (fun c_39 => ?_) (fun c_39 => False.elim (by omega))
                      refine lv_bipush (v := (-101)) hx hb dL_orders_241 (by decide) ?_
                      refine lv_icmp_eq (tgt := 248) hx hb dL_orders_243 (by decide) (fun c_40 => ?_) (fun c_40 => absurd rfl c_40)
                      refine lv_iinc (v := pI (kk + 2)) (lv' := [(15, .int (pI (kk + 2))), (14, .int (nI ((wl fw (nI t) nj).length))), (13, .int (nI (BT (LG mk tr le bo jf dz t Pq (wl fw (nI t) nj)) (wl fw (nI t) nj).length (np 0) 7))), (12, .int ((-102))), (11, .int (bI (true))), (10, .int (bI (true))), (8, .ref lb), (7, .ref oa), (0, .ref (ad 0)), (1, .ref (g 0)), (2, .ref (g 1)), (3, .ref (g 2)), (4, .ref (g 3)), (5, .ref (g 4)), (6, .ref (g 6)), (9, .int (nI (dz)))]) hx hb dL_orders_248 hl (k := 15) rfl (by rw [pI_s (kk + 1)]; exact zinc 1 _) (by decide) rfl (fun ls hl => ?_)
                      refine lv_goto (tgt := 195) hx hb dL_orders_251 (by decide) ?_
                      refine W.widen (k := 2 + 45 * dz + 13 + 3 * ((kk + 2))) (n := 28 + 330 * dz + 90 + 18 * ((kk + 2))) (by omega) (by omega) ?_
                      exact ih195 ((kk + 2), u9) H locs ls (by first | omega | (dsimp only; omega)) ⟨lv_sub hl [1, 2, 3, 4, 5, 6, 7, 8, 9, 10, 11, 12, 13, 14, 15, 0] rfl, hP, hD, hS, ⟨by dsimp only; omega, _, _, _, _, _, _, hL1⟩⟩
            · exact absurd (show (kR (ix (nI (dz)) nd) hd (fun _ => some 0) (fun _ => true)) = 0 from kR_0 (ix_in (by omega) hdt) hhd rfl rfl) hp9.2.1
          · exact absurd (show (kR (ix (nI (dz)) nd) hd (fun _ => some 0) (fun _ => true)) = 0 from kR_0 (ix_in (by omega) hdt) hhd rfl rfl) hp9.2.1
        · exact absurd (show (kR (ix (nI (dz)) nd) hd (fun _ => some 0) (fun _ => true)) = 0 from kR_0 (ix_in (by omega) hdt) hhd rfl rfl) hp9.2.1
    · refine lv_iload hx hb dL_orders_23 (lv_at hl 9 rfl) ?_
      refine lv_aload_n hx hb dL_orders_25 rfl (lv_at hl 3 rfl) ?_
      refine lv_iconst (v := nI (1)) hx hb dL_orders_26 (by decide) ?_
      refine va_iald hx hb hZ.1 hP 2 0 rfl rfl (vp_in_nI (show 1 < 4 by omega) (by omega)) dL_orders_27 ?_
      rw [nI_clamp (show 1 < 2 ^ 31 by omega)]
      refine zx_val (y := nI (nd)) (c1) ?_
      refine zc_ge (tgt := 35) hx hb (by omega) (by omega) dL_orders_28 (by decide) (fun c_41 => ?_) (fun c_41 => False.elim (by omega))
      refine lv_iconst (v := bI (false)) hx hb dL_orders_35 (by decide) ?_
      refine lv_istore (lv' := [(10, .int (bI (false))), (8, .ref lb), (7, .ref oa), (0, .ref (ad 0)), (1, .ref (g 0)), (2, .ref (g 1)), (3, .ref (g 2)), (4, .ref (g 3)), (5, .ref (g 4)), (6, .ref (g 6)), (9, .int (nI (dz)))]) hx hb dL_orders_36 hl (by decide) rfl (fun ls hl => ?_)
      refine lv_iload hx hb dL_orders_38 (lv_at hl 0 rfl) ?_
      refine zb_eq (tgt := 58) hx hb dL_orders_40 (by decide) (fun c_42 => ?_) (fun c_42 => Bool.noConfusion c_42)
      refine lv_iconst (v := bI (false)) hx hb dL_orders_58 (by decide) ?_
      refine lv_istore (lv' := [(11, .int (bI (false))), (10, .int (bI (false))), (8, .ref lb), (7, .ref oa), (0, .ref (ad 0)), (1, .ref (g 0)), (2, .ref (g 1)), (3, .ref (g 2)), (4, .ref (g 3)), (5, .ref (g 4)), (6, .ref (g 6)), (9, .int (nI (dz)))]) hx hb dL_orders_59 hl (by decide) rfl (fun ls hl => ?_)
      refine lv_iload hx hb dL_orders_61 (lv_at hl 1 rfl) ?_
      refine zb_eq (tgt := 71) hx hb dL_orders_63 (by decide) (fun c_43 => ?_) (fun c_43 => Bool.noConfusion c_43)
      refine lv_bipush (v := (-101)) hx hb dL_orders_71 (by decide) ?_
      refine lv_istore (lv' := [(12, .int ((-101))), (11, .int (bI (false))), (10, .int (bI (false))), (8, .ref lb), (7, .ref oa), (0, .ref (ad 0)), (1, .ref (g 0)), (2, .ref (g 1)), (3, .ref (g 2)), (4, .ref (g 3)), (5, .ref (g 4)), (6, .ref (g 6)), (9, .int (nI (dz)))]) hx hb dL_orders_73 hl (by decide) rfl (fun ls hl => ?_)
      refine lv_iload hx hb dL_orders_75 (lv_at hl 1 rfl) ?_
      refine zb_eq (tgt := 99) hx hb dL_orders_77 (by decide) (fun c_44 => ?_) (fun c_44 => Bool.noConfusion c_44)
      refine lv_iload hx hb dL_orders_99 (lv_at hl 0 rfl) ?_
      refine lv_istore (lv' := [(13, .int ((-101))), (12, .int ((-101))), (11, .int (bI (false))), (10, .int (bI (false))), (8, .ref lb), (7, .ref oa), (0, .ref (ad 0)), (1, .ref (g 0)), (2, .ref (g 1)), (3, .ref (g 2)), (4, .ref (g 3)), (5, .ref (g 4)), (6, .ref (g 6)), (9, .int (nI (dz)))]) hx hb dL_orders_101 hl (by decide) rfl (fun ls hl => ?_)
      refine lv_iload hx hb dL_orders_103 (lv_at hl 2 rfl) ?_
      refine zb_eq (tgt := 129) hx hb dL_orders_105 (by decide) (fun c_45 => ?_) (fun c_45 => Bool.noConfusion c_45)
      refine lv_iconst (v := nI (0)) hx hb dL_orders_129 (by decide) ?_
      refine lv_istore (lv' := [(14, .int (nI (0))), (13, .int ((-101))), (12, .int ((-101))), (11, .int (bI (false))), (10, .int (bI (false))), (8, .ref lb), (7, .ref oa), (0, .ref (ad 0)), (1, .ref (g 0)), (2, .ref (g 1)), (3, .ref (g 2)), (4, .ref (g 3)), (5, .ref (g 4)), (6, .ref (g 6)), (9, .int (nI (dz)))]) hx hb dL_orders_130 hl (by decide) rfl (fun ls hl => ?_)
      refine lv_aload_n hx hb dL_orders_132 rfl (lv_at hl 7 rfl) ?_
      refine lv_iconst (v := nI (3)) hx hb dL_orders_133 (by decide) ?_
      refine lv_iload hx hb dL_orders_134 (lv_at hl 14 rfl) ?_
      refine ze_H_i (n := 3) (mc := 2) (ms := 12) (ws := cw9) (es := [(lb, zInts cA 20 Lf), (oa, zInts cA 8 Of), (g 0, zInts cA 4 cf), (g 1, zInts cA 24 tf), (g 2, zInts cA 24 ff), (g 3, zInts cA 10 vf), (g 4, zInts cA 40 jj), (g 5, zInts cA 20 lt), (g 6, zInts cA 20 dd)]) (As := [.ref (ad 0), .int (nI (3)), .int (nI (dz))]) (rest := []) hx hb hml hts hown hZ hX hN [0, 1, 2, 3, 4, 5, 6, 7, 8] rfl rfl hP hD hS hA (c_L_one_3 l D cA _ cw9 (ad 0) _ (hL1.1.1) _ _ _ _ (kR (ix (nI (dz)) nd) hd (fun _ => some 0) (fun _ => true)) (nI (dz)) (fun sz9 => c_X4_bestTime l hlt D cA sz9 cw9 _ _ _ _ _ _ _ _ _ _ _ _ _ _ _ _ _ _ _ _ _ _ _ _ _ _ _ _ _ _ _ _ hL1 hI (nI (dz))) (fun _ _ h => h.1)) gL_orders_L_one rfl ⟨rfl, rfl⟩ ⟨by decide +kernel, (Nat.le_of_ble_eq_true rfl), (Nat.le_of_ble_eq_true rfl)⟩ hl.1 rfl (Nat.le_of_ble_eq_true rfl) ⟨by show _ ≤ 140; omega, by show _ ≤ 1020; omega⟩ rfl dL_orders_136 (fun r9 u9 H locs hp9 hP hD hS hz => ?_)
      rcases u9 with ⟨j9, t9, P9, w1⟩ | u9
      · dsimp only [zwP] at hp9
        obtain ⟨hjn, hv0, hht9, hpq9, hP16, hr9, hkp, oc9, x8, x9, x10, x11, x12, hL1⟩ := hp9
        have e9 := (nI_eq (by omega) (by omega)).mp hv0
        omega
      · dsimp only [zwP] at hp9
        obtain ⟨hr9, hK9, E9, hE9⟩ := hp9
        have hr9 : r9 = (-101) := by rw [hr9, show (kR (ix (nI (dz)) nd) hd (fun _ => some 0) (fun _ => true)) = 1 from kR_1 (by rw [ix_nI (by omega), if_neg (by omega)])]; rfl
        subst hr9
        obtain ⟨-, hkp, oc9, x8, x9, x10, x11, x12, hL1⟩ := hE9
        have hP : va_P D vwCl ((lb, zInts cA 20 Lf) :: (oa, zInts cA 8 Of) :: (g 0, zInts cA 4 cf) :: (g 1, zInts cA 24 tf) :: (g 2, zInts cA 24 ff) :: (g 3, zInts cA 10 vf) :: (g 4, zInts cA 40 jj) :: (g 5, zInts cA 20 lt) :: (g 6, zInts cA 20 dd) :: u9) H := hP
        have hD : va_D A ((lb, zInts cA 20 Lf) :: (oa, zInts cA 8 Of) :: (g 0, zInts cA 4 cf) :: (g 1, zInts cA 24 tf) :: (g 2, zInts cA 24 ff) :: (g 3, zInts cA 10 vf) :: (g 4, zInts cA 40 jj) :: (g 5, zInts cA 20 lt) :: (g 6, zInts cA 20 dd) :: u9) := hD
        refine lv_iload hx hb dL_orders_139 (lv_at hl 1 rfl) ?_
        refine lv_icmp_ne (tgt := 190) hx hb dL_orders_141 (by decide) (fun c_46 => absurd rfl c_46) (fun c_46 => ?_)
        refine lv_aload_n hx hb dL_orders_144 rfl (lv_at hl 7 rfl) ?_
        refine lv_iconst (v := nI (5)) hx hb dL_orders_145 (by decide) ?_
        refine lv_iload hx hb dL_orders_146 (lv_at hl 14 rfl) ?_
        refine ze_H_i (n := 3) (mc := 2) (ms := 12) (ws := u9) (es := [(lb, zInts cA 20 Lf), (oa, zInts cA 8 Of), (g 0, zInts cA 4 cf), (g 1, zInts cA 24 tf), (g 2, zInts cA 24 ff), (g 3, zInts cA 10 vf), (g 4, zInts cA 40 jj), (g 5, zInts cA 20 lt), (g 6, zInts cA 20 dd)]) (As := [.ref (ad 0), .int (nI (5)), .int (nI (dz))]) (rest := []) hx hb hml hts hown hZ hX hN [0, 1, 2, 3, 4, 5, 6, 7, 8] rfl rfl hP hD hS hA (c_L_one_5 l D cA _ u9 (ad 0) _ (hL1.1.1) _ _ _ _ (kR (ix (nI (dz)) nd) hd (fun _ => some 0) (fun _ => true)) (nI (dz)) (fun sz9 => c_X4_triedTime l hlt D cA sz9 u9 _ _ _ _ _ _ _ _ _ _ _ _ _ _ _ _ _ _ _ _ _ _ _ _ _ _ _ _ _ _ _ _ hL1 hI (nI (dz))) (fun _ _ h => h.1)) gL_orders_L_one rfl ⟨rfl, rfl⟩ ⟨by decide +kernel, (Nat.le_of_ble_eq_true rfl), (Nat.le_of_ble_eq_true rfl)⟩ hl.1 rfl (Nat.le_of_ble_eq_true rfl) ⟨by show _ ≤ 140; omega, by show _ ≤ 1020; omega⟩ rfl dL_orders_148 (fun r9 u9 H locs hp9 hP hD hS hz => ?_)
        rcases u9 with ⟨j9, t9, P9, w1⟩ | u9
        · dsimp only [zwP] at hp9
          obtain ⟨hjn, hv0, hht9, hpq9, hP16, hr9, hkp, oc9, x8, x9, x10, x11, x12, hL1⟩ := hp9
          have e9 := (nI_eq (by omega) (by omega)).mp hv0
          omega
        · dsimp only [zwP] at hp9
          obtain ⟨hr9, hK9, E9, hE9⟩ := hp9
          have hr9 : r9 = (-101) := by rw [hr9, show (kR (ix (nI (dz)) nd) hd (fun _ => some 0) (fun _ => true)) = 1 from kR_1 (by rw [ix_nI (by omega), if_neg (by omega)])]; rfl
          subst hr9
          obtain ⟨-, hkp, oc9, x8, x9, x10, x11, x12, hL1⟩ := hE9
          have hP : va_P D vwCl ((lb, zInts cA 20 Lf) :: (oa, zInts cA 8 Of) :: (g 0, zInts cA 4 cf) :: (g 1, zInts cA 24 tf) :: (g 2, zInts cA 24 ff) :: (g 3, zInts cA 10 vf) :: (g 4, zInts cA 40 jj) :: (g 5, zInts cA 20 lt) :: (g 6, zInts cA 20 dd) :: u9) H := hP
          have hD : va_D A ((lb, zInts cA 20 Lf) :: (oa, zInts cA 8 Of) :: (g 0, zInts cA 4 cf) :: (g 1, zInts cA 24 tf) :: (g 2, zInts cA 24 ff) :: (g 3, zInts cA 10 vf) :: (g 4, zInts cA 40 jj) :: (g 5, zInts cA 20 lt) :: (g 6, zInts cA 20 dd) :: u9) := hD
          refine lv_iload hx hb dL_orders_151 (lv_at hl 1 rfl) ?_
          refine lv_icmp_ne (tgt := 190) hx hb dL_orders_153 (by decide) (fun c_47 => absurd rfl c_47) (fun c_47 => ?_)
          refine lv_aload_n hx hb dL_orders_156 rfl (lv_at hl 7 rfl) ?_
          refine lv_iconst (v := nI (4)) hx hb dL_orders_157 (by decide) ?_
          refine lv_iload hx hb dL_orders_158 (lv_at hl 14 rfl) ?_
          refine ze_H_i (n := 3) (mc := 2) (ms := 12) (ws := u9) (es := [(lb, zInts cA 20 Lf), (oa, zInts cA 8 Of), (g 0, zInts cA 4 cf), (g 1, zInts cA 24 tf), (g 2, zInts cA 24 ff), (g 3, zInts cA 10 vf), (g 4, zInts cA 40 jj), (g 5, zInts cA 20 lt), (g 6, zInts cA 20 dd)]) (As := [.ref (ad 0), .int (nI (4)), .int (nI (dz))]) (rest := []) hx hb hml hts hown hZ hX hN [0, 1, 2, 3, 4, 5, 6, 7, 8] rfl rfl hP hD hS hA (c_L_one_4 l D cA _ u9 (ad 0) _ (hL1.1.1) _ _ _ _ (kR (ix (nI (dz)) nd) hd (fun _ => some 0) (fun _ => true)) (nI (dz)) (fun sz9 => c_X4_insertedTime l hlt D cA sz9 u9 _ _ _ _ _ _ _ _ _ _ _ _ _ _ _ _ _ _ _ _ _ _ _ _ _ _ _ _ _ _ _ _ hL1 hI (nI (dz))) (fun _ _ h => h.1)) gL_orders_L_one rfl ⟨rfl, rfl⟩ ⟨by decide +kernel, (Nat.le_of_ble_eq_true rfl), (Nat.le_of_ble_eq_true rfl)⟩ hl.1 rfl (Nat.le_of_ble_eq_true rfl) ⟨by show _ ≤ 140; omega, by show _ ≤ 1020; omega⟩ rfl dL_orders_160 (fun r9 u9 H locs hp9 hP hD hS hz => ?_)
          rcases u9 with ⟨j9, t9, P9, w1⟩ | u9
          · dsimp only [zwP] at hp9
            obtain ⟨hjn, hv0, hht9, hpq9, hP16, hr9, hkp, oc9, x8, x9, x10, x11, x12, hL1⟩ := hp9
            have e9 := (nI_eq (by omega) (by omega)).mp hv0
            omega
          · dsimp only [zwP] at hp9
            obtain ⟨hr9, hK9, E9, hE9⟩ := hp9
            have hr9 : r9 = (-101) := by rw [hr9, show (kR (ix (nI (dz)) nd) hd (fun _ => some 0) (fun _ => true)) = 1 from kR_1 (by rw [ix_nI (by omega), if_neg (by omega)])]; rfl
            subst hr9
            obtain ⟨-, hkp, oc9, x8, x9, x10, x11, x12, hL1⟩ := hE9
            have hP : va_P D vwCl ((lb, zInts cA 20 Lf) :: (oa, zInts cA 8 Of) :: (g 0, zInts cA 4 cf) :: (g 1, zInts cA 24 tf) :: (g 2, zInts cA 24 ff) :: (g 3, zInts cA 10 vf) :: (g 4, zInts cA 40 jj) :: (g 5, zInts cA 20 lt) :: (g 6, zInts cA 20 dd) :: u9) H := hP
            have hD : va_D A ((lb, zInts cA 20 Lf) :: (oa, zInts cA 8 Of) :: (g 0, zInts cA 4 cf) :: (g 1, zInts cA 24 tf) :: (g 2, zInts cA 24 ff) :: (g 3, zInts cA 10 vf) :: (g 4, zInts cA 40 jj) :: (g 5, zInts cA 20 lt) :: (g 6, zInts cA 20 dd) :: u9) := hD
            refine lv_iload hx hb dL_orders_163 (lv_at hl 3 rfl) ?_
            refine zb_eq (tgt := 185) hx hb dL_orders_165 (by decide) (fun c_48 => ?_) (fun c_48 => Bool.noConfusion c_48)
            refine lv_iload hx hb dL_orders_185 (lv_at hl 2 rfl) ?_
            refine lv_icmp_eq (tgt := 192) hx hb dL_orders_187 (by decide) (fun c_49 => ?_) (fun c_49 => absurd rfl c_49)
            refine lv_iconst (v := pI 0) hx hb dL_orders_192 (by decide) ?_
            refine lv_istore (lv' := [(15, .int (pI 0)), (14, .int (nI (0))), (13, .int ((-101))), (12, .int ((-101))), (11, .int (bI (false))), (10, .int (bI (false))), (8, .ref lb), (7, .ref oa), (0, .ref (ad 0)), (1, .ref (g 0)), (2, .ref (g 1)), (3, .ref (g 2)), (4, .ref (g 3)), (5, .ref (g 4)), (6, .ref (g 6)), (9, .int (nI (dz)))]) hx hb dL_orders_193 hl (by decide) rfl (fun ls hl => ?_)
            refine z_loopF (α := Nat × va_W) (fun v => 0 + 2 - v.1) (fun v => 2 + 45 * dz + 13 + 3 * v.1) (fun v => 28 + 330 * dz + 90 + 18 * v.1) (fun v H locs ls => lv_has ls 16 [(14, .int (nI (0))), (13, .int ((-101))), (12, .int ((-101))), (11, .int (bI (false))), (10, .int (bI (false))), (8, .ref lb), (7, .ref oa), (0, .ref (ad 0)), (1, .ref (g 0)), (2, .ref (g 1)), (3, .ref (g 2)), (4, .ref (g 3)), (5, .ref (g 4)), (6, .ref (g 6)), (9, .int (nI (dz))), (15, .int (pI v.1))] ∧ va_P D vwCl ((lb, zInts cA 20 Lf) :: (oa, zInts cA 8 Of) :: (g 0, zInts cA 4 cf) :: (g 1, zInts cA 24 tf) :: (g 2, zInts cA 24 ff) :: (g 3, zInts cA 10 vf) :: (g 4, zInts cA 40 jj) :: (g 5, zInts cA 20 lt) :: (g 6, zInts cA 20 dd) :: v.2) H ∧ va_D A ((lb, zInts cA 20 Lf) :: (oa, zInts cA 8 Of) :: (g 0, zInts cA 4 cf) :: (g 1, zInts cA 24 tf) :: (g 2, zInts cA 24 ff) :: (g 3, zInts cA 10 vf) :: (g 4, zInts cA 40 jj) :: (g 5, zInts cA 20 lt) :: (g 6, zInts cA 20 dd) :: v.2) ∧ va_S A s.heap H locs ∧ v.1 ≤ 0 + 2 ∧ (∃ oc s8 s9 s10 s11 s12, zL cA v.2 ad T Bd E PT PB PE n tr le sl mo la fc bo nd mk ck ct hd pq nj fw jf dl dn oc s8 s9 s10 s11 s12)) (fun _ => []) (0, u9) (show _ ≤ 2 + 45 * dz + 13 + 3 * 0 by omega) (show _ ≤ 28 + 330 * dz + 90 + 18 * 0 by omega) ⟨lv_sub hl [1, 2, 3, 4, 5, 6, 7, 8, 9, 10, 11, 12, 13, 14, 15, 0] rfl, hP, hD, hS, ⟨Nat.zero_le _, _, _, _, _, _, _, hL1⟩⟩ ?_
            intro v ih195 H locs ls hv
            obtain ⟨kk, cw8⟩ := v
            obtain ⟨hl, hP, hD, hS, hIv⟩ := hv
            have hP : va_P D vwCl ((lb, zInts cA 20 Lf) :: (oa, zInts cA 8 Of) :: (g 0, zInts cA 4 cf) :: (g 1, zInts cA 24 tf) :: (g 2, zInts cA 24 ff) :: (g 3, zInts cA 10 vf) :: (g 4, zInts cA 40 jj) :: (g 5, zInts cA 20 lt) :: (g 6, zInts cA 20 dd) :: cw8) H := hP
            have hD : va_D A ((lb, zInts cA 20 Lf) :: (oa, zInts cA 8 Of) :: (g 0, zInts cA 4 cf) :: (g 1, zInts cA 24 tf) :: (g 2, zInts cA 24 ff) :: (g 3, zInts cA 10 vf) :: (g 4, zInts cA 40 jj) :: (g 5, zInts cA 20 lt) :: (g 6, zInts cA 20 dd) :: cw8) := hD
            have hl : lv_has ls 16 [(14, .int (nI (0))), (13, .int ((-101))), (12, .int ((-101))), (11, .int (bI (false))), (10, .int (bI (false))), (8, .ref lb), (7, .ref oa), (0, .ref (ad 0)), (1, .ref (g 0)), (2, .ref (g 1)), (3, .ref (g 2)), (4, .ref (g 3)), (5, .ref (g 4)), (6, .ref (g 6)), (9, .int (nI (dz))), (15, .int (pI kk))] := hl
            have hIv : kk ≤ 0 + 2 ∧ (∃ oc s8 s9 s10 s11 s12, zL cA cw8 ad T Bd E PT PB PE n tr le sl mo la fc bo nd mk ck ct hd pq nj fw jf dl dn oc s8 s9 s10 s11 s12) := hIv
            refine W.widen (k := 2 + 45 * dz + 13 + 3 * kk) (n := 28 + 330 * dz + 90 + 18 * kk) (Nat.le_refl _) (Nat.le_refl _) ?_
            obtain ⟨hkk, oc, s8, s9, s10, s11, s12, hL1⟩ := hIv
            refine lv_iload hx hb dL_orders_195 (lv_at hl 15 rfl) ?_
            rcases kk with _ | kk
            · have e0 : pI 0 = -1 := by decide
              rw [e0] at hl
              refine zx_val (y := -1) e0 ?_
              refine lv_iload hx hb dL_orders_197 (lv_at hl 0 rfl) ?_
              refine lv_icmp_gt (tgt := 254) hx hb dL_orders_199 (by decide) (fun c_50 => absurd c_50 (Int32.not_lt.mpr (zneg_le (by omega) (by decide)))) (fun c_50 => ?_)
              refine lv_aload_n hx hb dL_orders_202 rfl (lv_at hl 7 rfl) ?_
              refine lv_iconst (v := nI (3)) hx hb dL_orders_203 (by decide) ?_
              refine lv_iload hx hb dL_orders_204 (lv_at hl 14 rfl) ?_
              refine lv_iload hx hb dL_orders_206 (lv_at hl 15 rfl) ?_
              refine ze_H_i (n := 4) (mc := 3) (ms := 18) (ws := cw8) (es := [(lb, zInts cA 20 Lf), (oa, zInts cA 8 Of), (g 0, zInts cA 4 cf), (g 1, zInts cA 24 tf), (g 2, zInts cA 24 ff), (g 3, zInts cA 10 vf), (g 4, zInts cA 40 jj), (g 5, zInts cA 20 lt), (g 6, zInts cA 20 dd)]) (As := [.ref (ad 0), .int (nI (3)), .int (nI (dz)), .int ((-1))]) (rest := []) hx hb hml hts hown hZ hX hN [0, 1, 2, 3, 4, 5, 6, 7, 8] rfl rfl hP hD hS hA (c_L_two_3 l D cA _ cw8 (ad 0) _ (hL1.1.1) _ _ _ _ (kR (ix (nI (dz)) nd) hd (fun t => ix ((-1)) (wl fw (nI t) nj).length) (fun _ => true)) (nI (dz)) ((-1)) (fun sz9 => c_X4_bestJob l hlt D cA sz9 cw8 _ _ _ _ _ _ _ _ _ _ _ _ _ _ _ _ _ _ _ _ _ _ _ _ _ _ _ _ _ _ _ _ hL1 hI (nI (dz)) ((-1))) (fun _ _ h => h.1)) gL_orders_L_two rfl ⟨rfl, rfl⟩ ⟨by decide +kernel, (Nat.le_of_ble_eq_true rfl), (Nat.le_of_ble_eq_true rfl)⟩ hl.1 rfl (Nat.le_of_ble_eq_true rfl) ⟨by show _ ≤ 140; omega, by show _ ≤ 1020; omega⟩ rfl dL_orders_208 (fun r9 u9 H locs hp9 hP hD hS hz => ?_)
              rcases u9 with ⟨j9, t9, P9, q9, w1⟩ | u9
              · dsimp only [zwP] at hp9
                obtain ⟨hjn, hv0, hht9, hpq9, hP16, hq9, hv1, hr9, hkp, oc9, x8, x9, x10, x11, x12, hL1⟩ := hp9
                have e9 := (nI_eq (by omega) (by omega)).mp hv0
                omega
              · dsimp only [zwP] at hp9
                obtain ⟨hr9, hK9, E9, hE9⟩ := hp9
                have hr9 : r9 = (-101) := by rw [hr9, show (kR (ix (nI (dz)) nd) hd (fun t => ix ((-1)) (wl fw (nI t) nj).length) (fun _ => true)) = 1 from kR_1 (by rw [ix_nI (by omega), if_neg (by omega)])]; rfl
                subst hr9
                obtain ⟨-, hkp, oc9, x8, x9, x10, x11, x12, hL1⟩ := hE9
                have hP : va_P D vwCl ((lb, zInts cA 20 Lf) :: (oa, zInts cA 8 Of) :: (g 0, zInts cA 4 cf) :: (g 1, zInts cA 24 tf) :: (g 2, zInts cA 24 ff) :: (g 3, zInts cA 10 vf) :: (g 4, zInts cA 40 jj) :: (g 5, zInts cA 20 lt) :: (g 6, zInts cA 20 dd) :: u9) H := hP
                have hD : va_D A ((lb, zInts cA 20 Lf) :: (oa, zInts cA 8 Of) :: (g 0, zInts cA 4 cf) :: (g 1, zInts cA 24 tf) :: (g 2, zInts cA 24 ff) :: (g 3, zInts cA 10 vf) :: (g 4, zInts cA 40 jj) :: (g 5, zInts cA 20 lt) :: (g 6, zInts cA 20 dd) :: u9) := hD
                refine lv_iload hx hb dL_orders_211 (lv_at hl 3 rfl) ?_
                refine zb_ne (tgt := 221) hx hb dL_orders_213 (by decide) (fun c_51 => Bool.noConfusion c_51) (fun c_51 => ?_)
                refine lv_iload hx hb dL_orders_216 (lv_at hl 2 rfl) ?_
                refine lv_goto (tgt := 243) hx hb dL_orders_218 (by decide) ?_
                refine lv_icmp_eq (tgt := 248) hx hb dL_orders_243 (by decide) (fun c_52 => ?_) (fun c_52 => absurd rfl c_52)
                refine lv_iinc (v := pI 1) (lv' := [(15, .int (pI 1)), (14, .int (nI (0))), (13, .int ((-101))), (12, .int ((-101))), (11, .int (bI (false))), (10, .int (bI (false))), (8, .ref lb), (7, .ref oa), (0, .ref (ad 0)), (1, .ref (g 0)), (2, .ref (g 1)), (3, .ref (g 2)), (4, .ref (g 3)), (5, .ref (g 4)), (6, .ref (g 6)), (9, .int (nI (dz)))]) hx hb dL_orders_248 hl (k := 15) rfl (by decide) (by decide) rfl (fun ls hl => ?_)
                refine lv_goto (tgt := 195) hx hb dL_orders_251 (by decide) ?_
                refine W.widen (k := 2 + 45 * dz + 13 + 3 * 1) (n := 28 + 330 * dz + 90 + 18 * 1) (by omega) (by omega) ?_
                exact ih195 (1, u9) H locs ls (by first | omega | (dsimp only; omega)) ⟨lv_sub hl [1, 2, 3, 4, 5, 6, 7, 8, 9, 10, 11, 12, 13, 14, 15, 0] rfl, hP, hD, hS, ⟨by dsimp only; omega, _, _, _, _, _, _, hL1⟩⟩
            · rw [pI_s] at hl
              refine zx_val (y := nI kk) (pI_s kk) ?_
              refine lv_iload hx hb dL_orders_197 (lv_at hl 0 rfl) ?_
              refine zc_gt (tgt := 254) hx hb (by omega) (by omega) dL_orders_199 (by decide) (fun c_53 => ?_) (fun c_53 => ?_)
              · refine lv_iinc (v := nI (dz + 1)) (lv' := [(9, .int (nI (dz + 1))), (14, .int (nI (0))), (13, .int ((-101))), (12, .int ((-101))), (11, .int (bI (false))), (10, .int (bI (false))), (8, .ref lb), (7, .ref oa), (0, .ref (ad 0)), (1, .ref (g 0)), (2, .ref (g 1)), (3, .ref (g 2)), (4, .ref (g 3)), (5, .ref (g 4)), (6, .ref (g 6)), (15, .int (nI (kk)))]) hx hb dL_orders_254 hl (k := 14) rfl (zinc 1 _) (by decide) rfl (fun ls hl => ?_)
                refine lv_goto (tgt := 15) hx hb dL_orders_257 (by decide) ?_
                refine W.widen (k := 2 + 45 * ((dz + 1))) (n := 28 + 330 * ((dz + 1))) (by omega) (by omega) ?_
                exact ih15 ((dz + 1), Of, Lf, cw8) H locs ls (by first | omega | (dsimp only; omega)) ⟨lv_sub hl [6, 7, 8, 9, 10, 11, 12, 13, 14, 0] rfl, hP, hD, hS, ⟨by dsimp only; omega, _, _, _, _, _, _, hL1⟩⟩
              · refine lv_aload_n hx hb dL_orders_202 rfl (lv_at hl 7 rfl) ?_
                refine lv_iconst (v := nI (3)) hx hb dL_orders_203 (by decide) ?_
                refine lv_iload hx hb dL_orders_204 (lv_at hl 14 rfl) ?_
                refine lv_iload hx hb dL_orders_206 (lv_at hl 15 rfl) ?_
                refine ze_H_i (n := 4) (mc := 3) (ms := 18) (ws := cw8) (es := [(lb, zInts cA 20 Lf), (oa, zInts cA 8 Of), (g 0, zInts cA 4 cf), (g 1, zInts cA 24 tf), (g 2, zInts cA 24 ff), (g 3, zInts cA 10 vf), (g 4, zInts cA 40 jj), (g 5, zInts cA 20 lt), (g 6, zInts cA 20 dd)]) (As := [.ref (ad 0), .int (nI (3)), .int (nI (dz)), .int (nI (kk))]) (rest := []) hx hb hml hts hown hZ hX hN [0, 1, 2, 3, 4, 5, 6, 7, 8] rfl rfl hP hD hS hA (c_L_two_3 l D cA _ cw8 (ad 0) _ (hL1.1.1) _ _ _ _ (kR (ix (nI (dz)) nd) hd (fun t => ix (nI (kk)) (wl fw (nI t) nj).length) (fun _ => true)) (nI (dz)) (nI (kk)) (fun sz9 => c_X4_bestJob l hlt D cA sz9 cw8 _ _ _ _ _ _ _ _ _ _ _ _ _ _ _ _ _ _ _ _ _ _ _ _ _ _ _ _ _ _ _ _ hL1 hI (nI (dz)) (nI (kk))) (fun _ _ h => h.1)) gL_orders_L_two rfl ⟨rfl, rfl⟩ ⟨by decide +kernel, (Nat.le_of_ble_eq_true rfl), (Nat.le_of_ble_eq_true rfl)⟩ hl.1 rfl (Nat.le_of_ble_eq_true rfl) ⟨by show _ ≤ 140; omega, by show _ ≤ 1020; omega⟩ rfl dL_orders_208 (fun r9 u9 H locs hp9 hP hD hS hz => ?_)
                rcases u9 with ⟨j9, t9, P9, q9, w1⟩ | u9
                · dsimp only [zwP] at hp9
                  obtain ⟨hjn, hv0, hht9, hpq9, hP16, hq9, hv1, hr9, hkp, oc9, x8, x9, x10, x11, x12, hL1⟩ := hp9
                  have e9 := (nI_eq (by omega) (by omega)).mp hv0
                  omega
                · dsimp only [zwP] at hp9
                  obtain ⟨hr9, hK9, E9, hE9⟩ := hp9
                  have hr9 : r9 = (-101) := by rw [hr9, show (kR (ix (nI (dz)) nd) hd (fun t => ix (nI (kk)) (wl fw (nI t) nj).length) (fun _ => true)) = 1 from kR_1 (by rw [ix_nI (by omega), if_neg (by omega)])]; rfl
                  subst hr9
                  obtain ⟨-, hkp, oc9, x8, x9, x10, x11, x12, hL1⟩ := hE9
                  have hP : va_P D vwCl ((lb, zInts cA 20 Lf) :: (oa, zInts cA 8 Of) :: (g 0, zInts cA 4 cf) :: (g 1, zInts cA 24 tf) :: (g 2, zInts cA 24 ff) :: (g 3, zInts cA 10 vf) :: (g 4, zInts cA 40 jj) :: (g 5, zInts cA 20 lt) :: (g 6, zInts cA 20 dd) :: u9) H := hP
                  have hD : va_D A ((lb, zInts cA 20 Lf) :: (oa, zInts cA 8 Of) :: (g 0, zInts cA 4 cf) :: (g 1, zInts cA 24 tf) :: (g 2, zInts cA 24 ff) :: (g 3, zInts cA 10 vf) :: (g 4, zInts cA 40 jj) :: (g 5, zInts cA 20 lt) :: (g 6, zInts cA 20 dd) :: u9) := hD
                  refine lv_iload hx hb dL_orders_211 (lv_at hl 3 rfl) ?_
                  refine zb_ne (tgt := 221) hx hb dL_orders_213 (by decide) (fun c_54 => Bool.noConfusion c_54) (fun c_54 => ?_)
                  refine lv_iload hx hb dL_orders_216 (lv_at hl 2 rfl) ?_
                  refine lv_goto (tgt := 243) hx hb dL_orders_218 (by decide) ?_
                  refine lv_icmp_eq (tgt := 248) hx hb dL_orders_243 (by decide) (fun c_55 => ?_) (fun c_55 => absurd rfl c_55)
                  refine lv_iinc (v := pI (kk + 2)) (lv' := [(15, .int (pI (kk + 2))), (14, .int (nI (0))), (13, .int ((-101))), (12, .int ((-101))), (11, .int (bI (false))), (10, .int (bI (false))), (8, .ref lb), (7, .ref oa), (0, .ref (ad 0)), (1, .ref (g 0)), (2, .ref (g 1)), (3, .ref (g 2)), (4, .ref (g 3)), (5, .ref (g 4)), (6, .ref (g 6)), (9, .int (nI (dz)))]) hx hb dL_orders_248 hl (k := 15) rfl (by rw [pI_s (kk + 1)]; exact zinc 1 _) (by decide) rfl (fun ls hl => ?_)
                  refine lv_goto (tgt := 195) hx hb dL_orders_251 (by decide) ?_
                  refine W.widen (k := 2 + 45 * dz + 13 + 3 * ((kk + 2))) (n := 28 + 330 * dz + 90 + 18 * ((kk + 2))) (by omega) (by omega) ?_
                  exact ih195 ((kk + 2), u9) H locs ls (by first | omega | (dsimp only; omega)) ⟨lv_sub hl [1, 2, 3, 4, 5, 6, 7, 8, 9, 10, 11, 12, 13, 14, 15, 0] rfl, hP, hD, hS, ⟨by dsimp only; omega, _, _, _, _, _, _, hL1⟩⟩
