set_option maxHeartbeats 4000000 in
set_option maxRecDepth 100000 in
theorem c_L_works_w (l : Launch) (hlt : l.stackTraces = false) (D : va_G) (cA : Nat → ClassId) (sz : Nat) (ad : Nat → Nat) (T : Nat → Nat) (Bd : Nat → Nat) (E : Nat → Nat) (PT : Nat → Nat) (PB : Nat → Nat) (PE : Nat → Nat) (n : Nat) (tr : Nat → Nat) (le : Nat → Nat) (sl : Nat → Nat) (mo : Nat → Option Nat) (la : Nat → Bool) (fc : Nat → Nat) (bo : Nat → Nat → Nat) (nd : Nat) (mk : Nat → Nat) (ck : Nat → Int32) (ct : Nat → Nat) (hd : Nat → Option Nat) (pq : Nat → Int32) (nj : Nat) (fw : Nat → Int32) (jf : Nat → Nat) (dl : Nat → Nat) (dn : Nat) (oc : Nat) (s8 : Nat → Int32) (s9 : Nat → Int32) (s10 : Nat → Int32) (s11 : Nat → Int32) (s12 : Nat → Int32) (cf : Nat → Int32) (tf : Nat → Int32) (ff : Nat → Int32) (vf : Nat → Int32) (jj : Nat → Int32) (lt : Nat → Int32) (dd : Nat → Int32) (jt : Nat → Nat) (fin : Nat → Bool) (g : Nat → Nat) (cw : va_W) (hL : zL cA cw ad T Bd E PT PB PE n tr le sl mo la fc bo nd mk ck ct hd pq nj fw jf dl dn oc s8 s9 s10 s11 s12) (hI : zI n tr le sl mo fc bo nd mk ct hd pq nj fw jf dl) (hp : pL n tr le sl mo la fc bo nd mk ck ct hd pq nj fw jf dl dn cf tf ff vf jj lt dd jt fin) (y : Int32) (kd : Nat) (hkd : kd < 3) : Met l yL_works wsL_works ({ frames := 10, cells := 12, slots := 128, locals := 194 }) (va_Pc [.ref (ad 0), .int (nI (kd)), .int (y), .ref (g 0), .ref (g 1), .ref (g 2), .ref (g 3), .ref (g 4), .ref (g 5), .ref (g 6)] (zMW D cA ((g 0, zInts cA 4 cf) :: (g 1, zInts cA 24 tf) :: (g 2, zInts cA 24 ff) :: (g 3, zInts cA 10 vf) :: (g 4, zInts cA 40 jj) :: (g 5, zInts cA 20 lt) :: (g 6, zInts cA 20 dd) :: cw) sz)) (va_Qi (fun (r : Int32) (u : va_W) => r = bI true ∧ LV cA ad g u) (fun u => zB D (va_A ((g 0, zInts cA 4 cf) :: (g 1, zInts cA 24 tf) :: (g 2, zInts cA 24 ff) :: (g 3, zInts cA 10 vf) :: (g 4, zInts cA 40 jj) :: (g 5, zInts cA 20 lt) :: (g 6, zInts cA 20 dd) :: cw) sz) u) (va_A ((g 0, zInts cA 4 cf) :: (g 1, zInts cA 24 tf) :: (g 2, zInts cA 24 ff) :: (g 3, zInts cA 10 vf) :: (g 4, zInts cA 40 jj) :: (g 5, zInts cA 20 lt) :: (g 6, zInts cA 20 dd) :: cw) sz)) 12 128 (va_A ((g 0, zInts cA 4 cf) :: (g 1, zInts cA 24 tf) :: (g 2, zInts cA 24 ff) :: (g 3, zInts cA 10 vf) :: (g 4, zInts cA 40 jj) :: (g 5, zInts cA 20 lt) :: (g 6, zInts cA 20 dd) :: cw) sz) := by
  refine zOpen (cc := cL_works) (maxL := 21) (ret := (some .boolean)) (own := RL) (by decide) rfl rfl (Nat.le_of_ble_eq_true rfl) ?_
  intro p e s m below meth c ls hx hb hr hml hts hown hlocks hnm ⟨⟨⟨hZ, hP, hD0, hsz⟩, hX⟩, hN⟩ hl
  subst hsz
  have hD := hD0.self (sz := s.heap.size)
  generalize hAe : va_A ((g 0, zInts cA 4 cf) :: (g 1, zInts cA 24 tf) :: (g 2, zInts cA 24 ff) :: (g 3, zInts cA 10 vf) :: (g 4, zInts cA 40 jj) :: (g 5, zInts cA 20 lt) :: (g 6, zInts cA 20 dd) :: cw) s.heap.size = A at hD hX ⊢
  have hA : ∀ q : Nat, s.heap.size ≤ q → A q := fun q h => by rw [← hAe]; exact Or.inr h
  have hS : va_S A s.heap s.heap [] := va_S.rf
  have hl : lv_has ls 21 [(0, .ref (ad 0)), (1, .int (nI (kd))), (2, .int (y)), (3, .ref (g 0)), (4, .ref (g 1)), (5, .ref (g 2)), (6, .ref (g 3)), (7, .ref (g 4)), (8, .ref (g 5)), (9, .ref (g 6))] := hl
  have hL0 := hL
  have l0 := hL.1.1
  obtain ⟨hn8, hd3, hj60, hIT, hID, hIJ, hIdl, hIw⟩ := id hI
  obtain ⟨⟨hn4, hd2, hj20⟩, ⟨c0, c1, c2, c3⟩, qT, qT0, qF, qV, qV0, qJ, qJ0, qW⟩ := id hp
  refine lv_iload_n hx hb dL_works_0 rfl (lv_at hl 2 rfl) ?_
  refine lv_iconst (v := nI (3)) hx hb dL_works_1 (by decide) ?_
  refine lv_ishr hx hb dL_works_2 ?_
  refine lv_aload_n hx hb dL_works_3 rfl (lv_at hl 3 rfl) ?_
  refine lv_iconst (v := nI (1)) hx hb dL_works_4 (by decide) ?_
  refine va_iald hx hb hZ.1 hP 0 0 rfl rfl (vp_in_nI (show 1 < 4 by omega) (by omega)) dL_works_5 ?_
  rw [nI_clamp (show 1 < 2 ^ 31 by omega)]
  refine zx_val (y := nI (nd)) (c1) ?_
  refine lv_iload_n hx hb dL_works_6 rfl (lv_at hl 2 rfl) ?_
  refine lv_bipush (v := nI (7)) hx hb dL_works_7 (by decide) ?_
  refine lv_ishr hx hb dL_works_9 ?_
  refine lv_bipush (v := nI (9)) hx hb dL_works_10 (by decide) ?_
  refine zk_S_i (n := 2) (As := [.int ((y) >>> ((nI (7)) &&& 31)), .int (nI (9))]) (rest := [.int (nI (nd)), .int ((y) >>> ((nI (3)) &&& 31))]) hx hb hml hts hown hZ hP (c_L_some l D cA _ ((y) >>> ((nI (7)) &&& 31)) 9 (by omega) (by omega)) gL_works_L_some rfl ⟨rfl, rfl⟩ ⟨by decide +kernel, (Nat.le_of_ble_eq_true rfl), (Nat.le_of_ble_eq_true rfl)⟩ hl.1 rfl (Nat.le_of_ble_eq_true rfl) ⟨(Nat.le_of_ble_eq_true rfl), (Nat.le_of_ble_eq_true rfl)⟩ rfl dL_works_12 (fun r1 hr1 => ?_)
  obtain ⟨q1, hq1, hb1⟩ : ∃ z, r1 = nI z ∧ z < 9 := ⟨_, hr1, sm_lt (by omega)⟩
  subst hq1
  refine z_join (α := Nat) (pc' := 29) (fun v ls => lv_has ls 21 [(0, .ref (ad 0)), (1, .int (nI (kd))), (2, .int (y)), (3, .ref (g 0)), (4, .ref (g 1)), (5, .ref (g 2)), (6, .ref (g 3)), (7, .ref (g 4)), (8, .ref (g 5)), (9, .ref (g 6))] ∧ v ≤ 1 ∧ (nd = 0 → v = 1)) (fun v => [.int (nI (v)), .int (nI (nd)), .int ((y) >>> ((nI (3)) &&& 31))]) ?_ (fun J29 => ?_)
  · intro x2 ls hv
    obtain ⟨hl, hI29⟩ := hv
    have hl : lv_has ls 21 [(0, .ref (ad 0)), (1, .int (nI (kd))), (2, .int (y)), (3, .ref (g 0)), (4, .ref (g 1)), (5, .ref (g 2)), (6, .ref (g 3)), (7, .ref (g 4)), (8, .ref (g 5)), (9, .ref (g 6))] := hl
    have hI29 : x2 ≤ 1 ∧ (nd = 0 → x2 = 1) := hI29
    refine zo_add hx hb dL_works_29 ?_
    obtain ⟨hx2, hx20⟩ := hI29
    refine zk_S_i (n := 2) (As := [.int ((y) >>> ((nI (3)) &&& 31)), .int (nI (nd + x2))]) (rest := []) hx hb hml hts hown hZ hP (c_L_some l D cA _ ((y) >>> ((nI (3)) &&& 31)) (nd + x2) (by omega) (by omega)) gL_works_L_some rfl ⟨rfl, rfl⟩ ⟨by decide +kernel, (Nat.le_of_ble_eq_true rfl), (Nat.le_of_ble_eq_true rfl)⟩ hl.1 rfl (Nat.le_of_ble_eq_true rfl) ⟨(Nat.le_of_ble_eq_true rfl), (Nat.le_of_ble_eq_true rfl)⟩ rfl dL_works_30 (fun r2 hr2 => ?_)
    obtain ⟨q2, hq2, hb2⟩ : ∃ z, r2 = nI z ∧ z < (nd + x2) := ⟨_, hr2, sm_lt (by omega)⟩
    subst hq2
    refine lv_istore (lv' := [(10, .int (nI (q2))), (0, .ref (ad 0)), (1, .int (nI (kd))), (2, .int (y)), (3, .ref (g 0)), (4, .ref (g 1)), (5, .ref (g 2)), (6, .ref (g 3)), (7, .ref (g 4)), (8, .ref (g 5)), (9, .ref (g 6))]) hx hb dL_works_33 hl (by decide) rfl (fun ls hl => ?_)
    refine z_join (α := Bool) (pc' := 48) (fun v ls => lv_has ls 21 [(0, .ref (ad 0)), (1, .int (nI (kd))), (2, .int (y)), (3, .ref (g 0)), (4, .ref (g 1)), (5, .ref (g 2)), (6, .ref (g 3)), (7, .ref (g 4)), (8, .ref (g 5)), (9, .ref (g 6)), (10, .int (nI (q2)))] ∧ v = decide (q2 < nd)) (fun v => [.int (bI (v))]) ?_ (fun J48 => ?_)
    · intro bD ls hv
      obtain ⟨hl, hI48⟩ := hv
      have hl : lv_has ls 21 [(0, .ref (ad 0)), (1, .int (nI (kd))), (2, .int (y)), (3, .ref (g 0)), (4, .ref (g 1)), (5, .ref (g 2)), (6, .ref (g 3)), (7, .ref (g 4)), (8, .ref (g 5)), (9, .ref (g 6)), (10, .int (nI (q2)))] := hl
      have hI48 : bD = decide (q2 < nd) := hI48
      have hDd : q2 ≤ nd := by omega
      refine lv_istore (lv' := [(11, .int (bI (bD))), (0, .ref (ad 0)), (1, .int (nI (kd))), (2, .int (y)), (3, .ref (g 0)), (4, .ref (g 1)), (5, .ref (g 2)), (6, .ref (g 3)), (7, .ref (g 4)), (8, .ref (g 5)), (9, .ref (g 6)), (10, .int (nI (q2)))]) hx hb dL_works_48 hl (by decide) rfl (fun ls hl => ?_)
      rcases Nat.lt_or_ge q2 nd with hdn | hdn
      · obtain rfl : bD = true := by rw [hI48]; exact decide_eq_true hdn
        obtain ⟨qv1, qv2, qv3, qv4, qv5⟩ := qV q2 hdn
        obtain ⟨hmk1, hct1, hpn1, hps1⟩ := hID q2 hdn
        rcases hhd : hd q2 with _ | t
        · have qv6 : vf (6 + q2) = -1 := by rw [qv4, hhd]; rfl
          refine lv_iload hx hb dL_works_50 (lv_at hl 0 rfl) ?_
          refine zb_eq (tgt := 70) hx hb dL_works_52 (by decide) (fun c_1 => Bool.noConfusion c_1) (fun c_1 => ?_)
          refine lv_aload hx hb dL_works_55 (lv_at hl 7 rfl) ?_
          refine lv_bipush (v := nI (6)) hx hb dL_works_57 (by decide) ?_
          refine lv_iload hx hb dL_works_59 (lv_at hl 11 rfl) ?_
          refine zo_add hx hb dL_works_61 ?_
          refine va_iald hx hb hZ.1 hP 3 0 rfl rfl (vp_in_nI (show 6 + q2 < 10 by omega) (by omega)) dL_works_62 ?_
          rw [nI_clamp (show 6 + q2 < 2 ^ 31 by omega)]
          refine zx_val (y := (-1)) (qv6) ?_
          refine lv_if_lt (tgt := 70) hx hb dL_works_63 (by decide) (fun c_2 => ?_) (fun c_2 => absurd (by decide) c_2)
          refine lv_iconst (v := bI (false)) hx hb dL_works_70 (by decide) ?_
          refine lv_istore (lv' := [(12, .int (bI (false))), (11, .int (bI (true))), (0, .ref (ad 0)), (1, .int (nI (kd))), (2, .int (y)), (3, .ref (g 0)), (4, .ref (g 1)), (5, .ref (g 2)), (6, .ref (g 3)), (7, .ref (g 4)), (8, .ref (g 5)), (9, .ref (g 6)), (10, .int (nI (q2)))]) hx hb dL_works_71 hl (by decide) rfl (fun ls hl => ?_)
          refine lv_iload hx hb dL_works_73 (lv_at hl 0 rfl) ?_
          refine zb_eq (tgt := 89) hx hb dL_works_75 (by decide) (fun c_3 => ?_) (fun c_3 => Bool.noConfusion c_3)
          refine lv_iconst (v := nI (0)) hx hb dL_works_89 (by decide) ?_
          refine lv_istore (lv' := [(13, .int (nI (0))), (12, .int (bI (false))), (11, .int (bI (true))), (0, .ref (ad 0)), (1, .int (nI (kd))), (2, .int (y)), (3, .ref (g 0)), (4, .ref (g 1)), (5, .ref (g 2)), (6, .ref (g 3)), (7, .ref (g 4)), (8, .ref (g 5)), (9, .ref (g 6)), (10, .int (nI (q2)))]) hx hb dL_works_90 hl (by decide) rfl (fun ls hl => ?_)
          refine lv_iload_n hx hb dL_works_92 rfl (lv_at hl 4 rfl) ?_
          refine lv_iconst (v := nI (3)) hx hb dL_works_93 (by decide) ?_
          refine zc_ge (tgt := 317) hx hb (by omega) (by omega) dL_works_94 (by decide) (fun c_4 => False.elim (by omega)) (fun c_4 => ?_)
          refine lv_iload_n hx hb dL_works_97 rfl (lv_at hl 5 rfl) ?_
          refine lv_bipush (v := nI (40)) hx hb dL_works_98 (by decide) ?_
          refine zk_S_i (n := 2) (As := [.int (y), .int (nI (40))]) (rest := []) hx hb hml hts hown hZ hP (c_L_some l D cA _ y 40 (by omega) (by omega)) gL_works_L_some rfl ⟨rfl, rfl⟩ ⟨by decide +kernel, (Nat.le_of_ble_eq_true rfl), (Nat.le_of_ble_eq_true rfl)⟩ hl.1 rfl (Nat.le_of_ble_eq_true rfl) ⟨(Nat.le_of_ble_eq_true rfl), (Nat.le_of_ble_eq_true rfl)⟩ rfl dL_works_100 (fun r3 hr3 => ?_)
          obtain ⟨q3, hq3, hb3⟩ : ∃ z, r3 = nI z ∧ z < 40 := ⟨_, hr3, sm_lt (by omega)⟩
          subst hq3
          refine z_join (α := Nat) (pc' := 119) (fun v ls => lv_has ls 21 [(0, .ref (ad 0)), (1, .int (nI (kd))), (2, .int (y)), (3, .ref (g 0)), (4, .ref (g 1)), (5, .ref (g 2)), (6, .ref (g 3)), (7, .ref (g 4)), (8, .ref (g 5)), (9, .ref (g 6)), (10, .int (nI (q2))), (11, .int (bI (true))), (12, .int (bI (false))), (13, .int (nI (0)))] ∧ 1 ≤ v ∧ v ≤ 101) (fun v => [.int (nI (v))]) ?_ (fun J119 => ?_)
          · intro bl ls hv
            obtain ⟨hl, hI119⟩ := hv
            have hl : lv_has ls 21 [(0, .ref (ad 0)), (1, .int (nI (kd))), (2, .int (y)), (3, .ref (g 0)), (4, .ref (g 1)), (5, .ref (g 2)), (6, .ref (g 3)), (7, .ref (g 4)), (8, .ref (g 5)), (9, .ref (g 6)), (10, .int (nI (q2))), (11, .int (bI (true))), (12, .int (bI (false))), (13, .int (nI (0)))] := hl
            have hI119 : 1 ≤ bl ∧ bl ≤ 101 := hI119
            refine lv_istore (lv' := [(14, .int (nI (bl))), (0, .ref (ad 0)), (1, .int (nI (kd))), (2, .int (y)), (3, .ref (g 0)), (4, .ref (g 1)), (5, .ref (g 2)), (6, .ref (g 3)), (7, .ref (g 4)), (8, .ref (g 5)), (9, .ref (g 6)), (10, .int (nI (q2))), (11, .int (bI (true))), (12, .int (bI (false))), (13, .int (nI (0)))]) hx hb dL_works_119 hl (by decide) rfl (fun ls hl => ?_)
            rcases Nat.lt_or_ge 100 bl with hbl | hbl
            · refine lv_iload hx hb dL_works_121 (lv_at hl 13 rfl) ?_
              refine zb_eq (tgt := 164) hx hb dL_works_123 (by decide) (fun c_5 => ?_) (fun c_5 => Bool.noConfusion c_5)
              refine lv_iconst (v := bI (false)) hx hb dL_works_164 (by decide) ?_
              refine lv_istore (lv' := [(15, .int (bI (false))), (14, .int (nI (bl))), (0, .ref (ad 0)), (1, .int (nI (kd))), (2, .int (y)), (3, .ref (g 0)), (4, .ref (g 1)), (5, .ref (g 2)), (6, .ref (g 3)), (7, .ref (g 4)), (8, .ref (g 5)), (9, .ref (g 6)), (10, .int (nI (q2))), (11, .int (bI (true))), (12, .int (bI (false))), (13, .int (nI (0)))]) hx hb dL_works_165 hl (by decide) rfl (fun ls hl => ?_)
              refine lv_iload hx hb dL_works_167 (lv_at hl 14 rfl) ?_
              refine zb_eq (tgt := 187) hx hb dL_works_169 (by decide) (fun c_6 => ?_) (fun c_6 => Bool.noConfusion c_6)
              refine lv_iload hx hb dL_works_187 (lv_at hl 13 rfl) ?_
              refine zb_ne (tgt := 197) hx hb dL_works_189 (by decide) (fun c_7 => ?_) (fun c_7 => Bool.noConfusion c_7)
              refine lv_iload hx hb dL_works_197 (lv_at hl 1 rfl) ?_
              refine lv_bipush (v := nI (100)) hx hb dL_works_199 (by decide) ?_
              refine zc_le (tgt := 209) hx hb (by omega) (by omega) dL_works_201 (by decide) (fun c_8 => False.elim (by omega)) (fun c_8 => ?_)
              refine lv_bipush (v := (-102)) hx hb dL_works_204 (by decide) ?_
              refine lv_goto (tgt := 237) hx hb dL_works_206 (by decide) ?_
              refine lv_istore (lv' := [(16, .int ((-102))), (15, .int (bI (false))), (14, .int (nI (bl))), (0, .ref (ad 0)), (1, .int (nI (kd))), (2, .int (y)), (3, .ref (g 0)), (4, .ref (g 1)), (5, .ref (g 2)), (6, .ref (g 3)), (7, .ref (g 4)), (8, .ref (g 5)), (9, .ref (g 6)), (10, .int (nI (q2))), (11, .int (bI (true))), (12, .int (bI (false))), (13, .int (nI (0)))]) hx hb dL_works_237 hl (by decide) rfl (fun ls hl => ?_)
              refine lv_iload hx hb dL_works_239 (lv_at hl 0 rfl) ?_
              refine lv_if_ne (tgt := 298) hx hb dL_works_241 (by decide) (fun c_9 => ?_) (fun c_9 => absurd c_9 (by decide))
              refine lv_aload_n hx hb dL_works_298 rfl (lv_at hl 3 rfl) ?_
              refine lv_iload hx hb dL_works_299 (lv_at hl 13 rfl) ?_
              refine lv_iload hx hb dL_works_301 (lv_at hl 2 rfl) ?_
              refine ze_H_i (n := 3) (mc := 4) (ms := 24) (ws := cw) (es := [(g 0, zInts cA 4 cf), (g 1, zInts cA 24 tf), (g 2, zInts cA 24 ff), (g 3, zInts cA 10 vf), (g 4, zInts cA 40 jj), (g 5, zInts cA 20 lt), (g 6, zInts cA 20 dd)]) (As := [.ref (ad 0), .int (nI (q2)), .int (nI (bl))]) (rest := []) hx hb hml hts hown hZ hX hN [0, 1, 2, 3, 4, 5, 6] rfl rfl hP hD hS hA (c_L_written l D cA _ cw (ad 0) _ l0 _ _ _ _ (k3 (ix (nI (q2)) nd) (rg (nI (bl)) 1 100) (fun j b => match hd j with | none => false | some t => decide (ct j < 12) && decide (fc t < 10 ∧ bo t (fc t) + b ≤ tr t * le t))) (nI (q2)) (nI (bl)) (fun sz9 => c_X4_write l hlt D cA sz9 cw ad T Bd E PT PB PE n tr le sl mo la fc bo nd mk ck ct hd pq nj fw jf dl dn oc s8 s9 s10 s11 s12 hL hI (nI (q2)) (nI (bl))) (fun _ _ h => h)) gL_works_L_written rfl ⟨rfl, rfl⟩ ⟨by decide +kernel, (Nat.le_of_ble_eq_true rfl), (Nat.le_of_ble_eq_true rfl)⟩ hl.1 rfl (Nat.le_of_ble_eq_true rfl) ⟨(Nat.le_of_ble_eq_true rfl), (Nat.le_of_ble_eq_true rfl)⟩ rfl dL_works_303 (fun r9 u9 H locs hp9 hP hD hS hz => ?_)
              rcases u9 with ⟨j9, t9, P9, b9, w1⟩ | u9
              · dsimp only [zwP] at hp9
                obtain ⟨hjn, hv0, hb1, hb2, hv1, hht9, hpq9, hP16, hct9, hfc9, hfit9, hr9, hkp, hL1⟩ := hp9
                have e8 := (nI_eq (by omega) (by omega)).mp hv1
                omega
              · dsimp only [zwP] at hp9
                obtain ⟨hr9, hK9, E9, hE9⟩ := hp9
                have hr9 : r9 = (-102) := by rw [hr9, show (k3 (ix (nI (q2)) nd) (rg (nI (bl)) 1 100) (fun j b => match hd j with | none => false | some t => decide (ct j < 12) && decide (fc t < 10 ∧ bo t (fc t) + b ≤ tr t * le t))) = 2 from k3_2 (ix_in (by omega) hdn) (rg_out (by omega) (Or.inr (by omega)))]; rfl
                subst hr9
                have hP : va_P D vwCl ((g 0, zInts cA 4 cf) :: (g 1, zInts cA 24 tf) :: (g 2, zInts cA 24 ff) :: (g 3, zInts cA 10 vf) :: (g 4, zInts cA 40 jj) :: (g 5, zInts cA 20 lt) :: (g 6, zInts cA 20 dd) :: cw) H := hP
                have hD : va_D A ((g 0, zInts cA 4 cf) :: (g 1, zInts cA 24 tf) :: (g 2, zInts cA 24 ff) :: (g 3, zInts cA 10 vf) :: (g 4, zInts cA 40 jj) :: (g 5, zInts cA 20 lt) :: (g 6, zInts cA 20 dd) :: cw) := hD
                refine lv_iload hx hb dL_works_306 (lv_at hl 0 rfl) ?_
                refine lv_icmp_ne (tgt := 315) hx hb dL_works_308 (by decide) (fun c_10 => absurd rfl c_10) (fun c_10 => ?_)
                refine lv_iconst (v := bI (true)) hx hb dL_works_311 (by decide) ?_
                refine lv_goto (tgt := 316) hx hb dL_works_312 (by decide) ?_
                exact W.widen (k := 12) (n := 128) (by omega) (by omega) (zr_qz (S := va_W) (post := (fun (r : Int32) (u : va_W) => r = bI true ∧ LV cA ad g u)) (w1 := fun u => u) ((g 0, zInts cA 4 cf) :: (g 1, zInts cA 24 tf) :: (g 2, zInts cA 24 ff) :: (g 3, zInts cA 10 vf) :: (g 4, zInts cA 40 jj) :: (g 5, zInts cA 20 lt) :: (g 6, zInts cA 20 dd) :: cw) hx hb hr hlocks ⟨rfl, ⟨_, _, _, _, _, _, _, _, _, _, _, _, _, _, _, _, _, _, _, _, _, _, _, _, _, _, _, _, _, _, _, _, _, _, _, _, _, _, _, _, cw, rfl, hL, hI, hp⟩⟩ hP hD hS rfl dL_works_316)
            · refine lv_iload hx hb dL_works_121 (lv_at hl 13 rfl) ?_
              refine zb_eq (tgt := 164) hx hb dL_works_123 (by decide) (fun c_11 => ?_) (fun c_11 => Bool.noConfusion c_11)
              refine lv_iconst (v := bI (false)) hx hb dL_works_164 (by decide) ?_
              refine lv_istore (lv' := [(15, .int (bI (false))), (14, .int (nI (bl))), (0, .ref (ad 0)), (1, .int (nI (kd))), (2, .int (y)), (3, .ref (g 0)), (4, .ref (g 1)), (5, .ref (g 2)), (6, .ref (g 3)), (7, .ref (g 4)), (8, .ref (g 5)), (9, .ref (g 6)), (10, .int (nI (q2))), (11, .int (bI (true))), (12, .int (bI (false))), (13, .int (nI (0)))]) hx hb dL_works_165 hl (by decide) rfl (fun ls hl => ?_)
              refine lv_iload hx hb dL_works_167 (lv_at hl 14 rfl) ?_
              refine zb_eq (tgt := 187) hx hb dL_works_169 (by decide) (fun c_12 => ?_) (fun c_12 => Bool.noConfusion c_12)
              refine lv_iload hx hb dL_works_187 (lv_at hl 13 rfl) ?_
              refine zb_ne (tgt := 197) hx hb dL_works_189 (by decide) (fun c_13 => ?_) (fun c_13 => Bool.noConfusion c_13)
              refine lv_iload hx hb dL_works_197 (lv_at hl 1 rfl) ?_
              refine lv_bipush (v := nI (100)) hx hb dL_works_199 (by decide) ?_
              refine zc_le (tgt := 209) hx hb (by omega) (by omega) dL_works_201 (by decide) (fun c_14 => ?_) (fun c_14 => False.elim (by omega))
              refine lv_iload hx hb dL_works_209 (lv_at hl 14 rfl) ?_
              refine zb_eq (tgt := 235) hx hb dL_works_211 (by decide) (fun c_15 => ?_) (fun c_15 => Bool.noConfusion c_15)
              refine lv_bipush (v := (-103)) hx hb dL_works_235 (by decide) ?_
              refine lv_istore (lv' := [(16, .int ((-103))), (15, .int (bI (false))), (14, .int (nI (bl))), (0, .ref (ad 0)), (1, .int (nI (kd))), (2, .int (y)), (3, .ref (g 0)), (4, .ref (g 1)), (5, .ref (g 2)), (6, .ref (g 3)), (7, .ref (g 4)), (8, .ref (g 5)), (9, .ref (g 6)), (10, .int (nI (q2))), (11, .int (bI (true))), (12, .int (bI (false))), (13, .int (nI (0)))]) hx hb dL_works_237 hl (by decide) rfl (fun ls hl => ?_)
              refine lv_iload hx hb dL_works_239 (lv_at hl 0 rfl) ?_
              refine lv_if_ne (tgt := 298) hx hb dL_works_241 (by decide) (fun c_16 => ?_) (fun c_16 => absurd c_16 (by decide))
              refine lv_aload_n hx hb dL_works_298 rfl (lv_at hl 3 rfl) ?_
              refine lv_iload hx hb dL_works_299 (lv_at hl 13 rfl) ?_
              refine lv_iload hx hb dL_works_301 (lv_at hl 2 rfl) ?_
              refine ze_H_i (n := 3) (mc := 4) (ms := 24) (ws := cw) (es := [(g 0, zInts cA 4 cf), (g 1, zInts cA 24 tf), (g 2, zInts cA 24 ff), (g 3, zInts cA 10 vf), (g 4, zInts cA 40 jj), (g 5, zInts cA 20 lt), (g 6, zInts cA 20 dd)]) (As := [.ref (ad 0), .int (nI (q2)), .int (nI (bl))]) (rest := []) hx hb hml hts hown hZ hX hN [0, 1, 2, 3, 4, 5, 6] rfl rfl hP hD hS hA (c_L_written l D cA _ cw (ad 0) _ l0 _ _ _ _ (k3 (ix (nI (q2)) nd) (rg (nI (bl)) 1 100) (fun j b => match hd j with | none => false | some t => decide (ct j < 12) && decide (fc t < 10 ∧ bo t (fc t) + b ≤ tr t * le t))) (nI (q2)) (nI (bl)) (fun sz9 => c_X4_write l hlt D cA sz9 cw ad T Bd E PT PB PE n tr le sl mo la fc bo nd mk ck ct hd pq nj fw jf dl dn oc s8 s9 s10 s11 s12 hL hI (nI (q2)) (nI (bl))) (fun _ _ h => h)) gL_works_L_written rfl ⟨rfl, rfl⟩ ⟨by decide +kernel, (Nat.le_of_ble_eq_true rfl), (Nat.le_of_ble_eq_true rfl)⟩ hl.1 rfl (Nat.le_of_ble_eq_true rfl) ⟨(Nat.le_of_ble_eq_true rfl), (Nat.le_of_ble_eq_true rfl)⟩ rfl dL_works_303 (fun r9 u9 H locs hp9 hP hD hS hz => ?_)
              rcases u9 with ⟨j9, t9, P9, b9, w1⟩ | u9
              · dsimp only [zwP] at hp9
                obtain ⟨hjn, hv0, hb1, hb2, hv1, hht9, hpq9, hP16, hct9, hfc9, hfit9, hr9, hkp, hL1⟩ := hp9
                have e9 := (nI_eq (by omega) (by omega)).mp hv0
                rw [← e9, hhd] at hht9; cases hht9
              · dsimp only [zwP] at hp9
                obtain ⟨hr9, hK9, E9, hE9⟩ := hp9
                have hr9 : r9 = (-103) := by rw [hr9, show (k3 (ix (nI (q2)) nd) (rg (nI (bl)) 1 100) (fun j b => match hd j with | none => false | some t => decide (ct j < 12) && decide (fc t < 10 ∧ bo t (fc t) + b ≤ tr t * le t))) = 3 from k3_3 (ix_in (by omega) hdn) (rg_in (by omega) (by omega) (by omega)) (by rw [hhd])]; rfl
                subst hr9
                have hP : va_P D vwCl ((g 0, zInts cA 4 cf) :: (g 1, zInts cA 24 tf) :: (g 2, zInts cA 24 ff) :: (g 3, zInts cA 10 vf) :: (g 4, zInts cA 40 jj) :: (g 5, zInts cA 20 lt) :: (g 6, zInts cA 20 dd) :: cw) H := hP
                have hD : va_D A ((g 0, zInts cA 4 cf) :: (g 1, zInts cA 24 tf) :: (g 2, zInts cA 24 ff) :: (g 3, zInts cA 10 vf) :: (g 4, zInts cA 40 jj) :: (g 5, zInts cA 20 lt) :: (g 6, zInts cA 20 dd) :: cw) := hD
                refine lv_iload hx hb dL_works_306 (lv_at hl 0 rfl) ?_
                refine lv_icmp_ne (tgt := 315) hx hb dL_works_308 (by decide) (fun c_17 => absurd rfl c_17) (fun c_17 => ?_)
                refine lv_iconst (v := bI (true)) hx hb dL_works_311 (by decide) ?_
                refine lv_goto (tgt := 316) hx hb dL_works_312 (by decide) ?_
                exact W.widen (k := 12) (n := 128) (by omega) (by omega) (zr_qz (S := va_W) (post := (fun (r : Int32) (u : va_W) => r = bI true ∧ LV cA ad g u)) (w1 := fun u => u) ((g 0, zInts cA 4 cf) :: (g 1, zInts cA 24 tf) :: (g 2, zInts cA 24 ff) :: (g 3, zInts cA 10 vf) :: (g 4, zInts cA 40 jj) :: (g 5, zInts cA 20 lt) :: (g 6, zInts cA 20 dd) :: cw) hx hb hr hlocks ⟨rfl, ⟨_, _, _, _, _, _, _, _, _, _, _, _, _, _, _, _, _, _, _, _, _, _, _, _, _, _, _, _, _, _, _, _, _, _, _, _, _, _, _, _, cw, rfl, hL, hI, hp⟩⟩ hP hD hS rfl dL_works_316)
          · skip
            refine zf_ne (tgt := 111) hx hb (by omega) dL_works_103 (by decide) (fun c_18 => ?_) (fun c_18 => ?_)
            · refine lv_iconst (v := nI (1)) hx hb dL_works_111 (by decide) ?_
              refine lv_iload_n hx hb dL_works_112 rfl (lv_at hl 5 rfl) ?_
              refine lv_bipush (v := nI (7)) hx hb dL_works_113 (by decide) ?_
              refine zk_S_i (n := 2) (As := [.int (y), .int (nI (7))]) (rest := [.int (nI (1))]) hx hb hml hts hown hZ hP (c_L_some l D cA _ y 7 (by omega) (by omega)) gL_works_L_some rfl ⟨rfl, rfl⟩ ⟨by decide +kernel, (Nat.le_of_ble_eq_true rfl), (Nat.le_of_ble_eq_true rfl)⟩ hl.1 rfl (Nat.le_of_ble_eq_true rfl) ⟨(Nat.le_of_ble_eq_true rfl), (Nat.le_of_ble_eq_true rfl)⟩ rfl dL_works_115 (fun r4 hr4 => ?_)
              obtain ⟨q4, hq4, hb4⟩ : ∃ z, r4 = nI z ∧ z < 7 := ⟨_, hr4, sm_lt (by omega)⟩
              subst hq4
              refine zo_add hx hb dL_works_118 ?_
              exact J119 (1 + q4) ls ⟨lv_sub hl [3, 4, 5, 6, 7, 8, 9, 10, 11, 12, 13, 2, 1, 0] rfl, by omega⟩
            · refine lv_bipush (v := nI (101)) hx hb dL_works_106 (by decide) ?_
              refine lv_goto (tgt := 119) hx hb dL_works_108 (by decide) ?_
              exact J119 (101) ls ⟨lv_sub hl [3, 4, 5, 6, 7, 8, 9, 10, 11, 12, 13, 2, 1, 0] rfl, by omega⟩
        · have qv6 : vf (6 + q2) = nI t := by rw [qv4, hhd]; rfl
          obtain ⟨htn, hmt1, Pq, hPq1, hPq2⟩ := hps1 t hhd
          obtain ⟨qa1, qa2, qa3, qa4, qa5, qa6, qa7⟩ := qT t htn
          obtain ⟨t1, t2, t3, t4, t5, t6, t7, t8, t9x, t10⟩ := hIT t htn
          have hm8 : tr t * le t ≤ 8 * 200 := Nat.mul_le_mul t2 t4
          have qv7 : vf (8 + q2) = nI Pq := by rw [qv5 t hhd, hPq1]
          obtain ⟨y1, y2, y3, y4, y5, y6, y7, y8, y9, y10, y11, y12, y13, y14, y15, y16, y17⟩ := fb_of hI hp hdn hhd hPq1 hPq2
          have hw5 := qW t htn
          refine lv_iload hx hb dL_works_50 (lv_at hl 0 rfl) ?_
          refine zb_eq (tgt := 70) hx hb dL_works_52 (by decide) (fun c_19 => Bool.noConfusion c_19) (fun c_19 => ?_)
          refine lv_aload hx hb dL_works_55 (lv_at hl 7 rfl) ?_
          refine lv_bipush (v := nI (6)) hx hb dL_works_57 (by decide) ?_
          refine lv_iload hx hb dL_works_59 (lv_at hl 11 rfl) ?_
          refine zo_add hx hb dL_works_61 ?_
          refine va_iald hx hb hZ.1 hP 3 0 rfl rfl (vp_in_nI (show 6 + q2 < 10 by omega) (by omega)) dL_works_62 ?_
          rw [nI_clamp (show 6 + q2 < 2 ^ 31 by omega)]
          refine zx_val (y := nI (t)) (qv6) ?_
          refine zf_lt (tgt := 70) hx hb (by omega) dL_works_63 (by decide) ?_
          refine lv_iconst (v := bI (true)) hx hb dL_works_66 (by decide) ?_
          refine lv_goto (tgt := 71) hx hb dL_works_67 (by decide) ?_
          refine lv_istore (lv' := [(12, .int (bI (true))), (11, .int (bI (true))), (0, .ref (ad 0)), (1, .int (nI (kd))), (2, .int (y)), (3, .ref (g 0)), (4, .ref (g 1)), (5, .ref (g 2)), (6, .ref (g 3)), (7, .ref (g 4)), (8, .ref (g 5)), (9, .ref (g 6)), (10, .int (nI (q2)))]) hx hb dL_works_71 hl (by decide) rfl (fun ls hl => ?_)
          refine lv_iload hx hb dL_works_73 (lv_at hl 0 rfl) ?_
          refine zb_eq (tgt := 89) hx hb dL_works_75 (by decide) (fun c_21 => Bool.noConfusion c_21) (fun c_21 => ?_)
          refine lv_aload hx hb dL_works_78 (lv_at hl 8 rfl) ?_
          refine lv_bipush (v := nI (6)) hx hb dL_works_80 (by decide) ?_
          refine lv_iload hx hb dL_works_82 (lv_at hl 12 rfl) ?_
          refine zo_add hx hb dL_works_84 ?_
          refine va_iald hx hb hZ.1 hP 3 0 rfl rfl (vp_in_nI (show 6 + q2 < 10 by omega) (by omega)) dL_works_85 ?_
          rw [nI_clamp (show 6 + q2 < 2 ^ 31 by omega)]
          refine zx_val (y := nI (t)) (qv6) ?_
          refine lv_goto (tgt := 90) hx hb dL_works_86 (by decide) ?_
          refine lv_istore (lv' := [(13, .int (nI (t))), (12, .int (bI (true))), (11, .int (bI (true))), (0, .ref (ad 0)), (1, .int (nI (kd))), (2, .int (y)), (3, .ref (g 0)), (4, .ref (g 1)), (5, .ref (g 2)), (6, .ref (g 3)), (7, .ref (g 4)), (8, .ref (g 5)), (9, .ref (g 6)), (10, .int (nI (q2)))]) hx hb dL_works_90 hl (by decide) rfl (fun ls hl => ?_)
          refine lv_iload_n hx hb dL_works_92 rfl (lv_at hl 4 rfl) ?_
          refine lv_iconst (v := nI (3)) hx hb dL_works_93 (by decide) ?_
          refine zc_ge (tgt := 317) hx hb (by omega) (by omega) dL_works_94 (by decide) (fun c_22 => False.elim (by omega)) (fun c_22 => ?_)
          refine lv_iload_n hx hb dL_works_97 rfl (lv_at hl 5 rfl) ?_
          refine lv_bipush (v := nI (40)) hx hb dL_works_98 (by decide) ?_
          refine zk_S_i (n := 2) (As := [.int (y), .int (nI (40))]) (rest := []) hx hb hml hts hown hZ hP (c_L_some l D cA _ y 40 (by omega) (by omega)) gL_works_L_some rfl ⟨rfl, rfl⟩ ⟨by decide +kernel, (Nat.le_of_ble_eq_true rfl), (Nat.le_of_ble_eq_true rfl)⟩ hl.1 rfl (Nat.le_of_ble_eq_true rfl) ⟨(Nat.le_of_ble_eq_true rfl), (Nat.le_of_ble_eq_true rfl)⟩ rfl dL_works_100 (fun r5 hr5 => ?_)
          obtain ⟨q5, hq5, hb5⟩ : ∃ z, r5 = nI z ∧ z < 40 := ⟨_, hr5, sm_lt (by omega)⟩
          subst hq5
          refine z_join (α := Nat) (pc' := 119) (fun v ls => lv_has ls 21 [(0, .ref (ad 0)), (1, .int (nI (kd))), (2, .int (y)), (3, .ref (g 0)), (4, .ref (g 1)), (5, .ref (g 2)), (6, .ref (g 3)), (7, .ref (g 4)), (8, .ref (g 5)), (9, .ref (g 6)), (10, .int (nI (q2))), (11, .int (bI (true))), (12, .int (bI (true))), (13, .int (nI (t)))] ∧ 1 ≤ v ∧ v ≤ 101) (fun v => [.int (nI (v))]) ?_ (fun J119 => ?_)
          · intro bl ls hv
            obtain ⟨hl, hI119⟩ := hv
            have hl : lv_has ls 21 [(0, .ref (ad 0)), (1, .int (nI (kd))), (2, .int (y)), (3, .ref (g 0)), (4, .ref (g 1)), (5, .ref (g 2)), (6, .ref (g 3)), (7, .ref (g 4)), (8, .ref (g 5)), (9, .ref (g 6)), (10, .int (nI (q2))), (11, .int (bI (true))), (12, .int (bI (true))), (13, .int (nI (t)))] := hl
            have hI119 : 1 ≤ bl ∧ bl ≤ 101 := hI119
            refine lv_istore (lv' := [(14, .int (nI (bl))), (0, .ref (ad 0)), (1, .int (nI (kd))), (2, .int (y)), (3, .ref (g 0)), (4, .ref (g 1)), (5, .ref (g 2)), (6, .ref (g 3)), (7, .ref (g 4)), (8, .ref (g 5)), (9, .ref (g 6)), (10, .int (nI (q2))), (11, .int (bI (true))), (12, .int (bI (true))), (13, .int (nI (t)))]) hx hb dL_works_119 hl (by decide) rfl (fun ls hl => ?_)
            rcases Nat.lt_or_ge (tr t * le t) (bo t (fc t) + bl) with hrm | hrm
            · rcases (by omega : fc t = 6 ∨ (fc t < 6 ∧ 100 < bl) ∨ (fc t < 6 ∧ bl ≤ 100 ∧ 12 ≤ ct q2) ∨ (fc t < 6 ∧ bl ≤ 100 ∧ ct q2 < 12)) with hk1 | ⟨hk1, hk2⟩ | ⟨hk1, hk2, hk3⟩ | ⟨hk1, hk2, hk3⟩
              · refine lv_iload hx hb dL_works_121 (lv_at hl 13 rfl) ?_
                refine zb_eq (tgt := 164) hx hb dL_works_123 (by decide) (fun c_23 => Bool.noConfusion c_23) (fun c_23 => ?_)
                refine lv_aload hx hb dL_works_126 (lv_at hl 6 rfl) ?_
                refine lv_iload hx hb dL_works_128 (lv_at hl 14 rfl) ?_
                refine lv_aload hx hb dL_works_130 (lv_at hl 5 rfl) ?_
                refine lv_bipush (v := nI (20)) hx hb dL_works_132 (by decide) ?_
                refine lv_iload hx hb dL_works_134 (lv_at hl 14 rfl) ?_
                refine zo_add hx hb dL_works_136 ?_
                refine va_iald hx hb hZ.1 hP 1 0 rfl rfl (vp_in_nI (show 20 + t < 24 by omega) (by omega)) dL_works_137 ?_
                rw [nI_clamp (show 20 + t < 2 ^ 31 by omega)]
                refine zx_val (y := nI (fc t)) (qa6) ?_
                refine zk_S_i (n := 3) (As := [.ref (g 2), .int (nI (t)), .int (nI (fc t))]) (rest := []) hx hb hml hts hown hZ hP (c_L_start l D cA ((g 0, zInts cA 4 cf) :: (g 1, zInts cA 24 tf) :: (g 2, zInts cA 24 ff) :: (g 3, zInts cA 10 vf) :: (g 4, zInts cA 40 jj) :: (g 5, zInts cA 20 lt) :: (g 6, zInts cA 20 dd) :: cw) 2 (g 2) ff rfl t (fc t) (bo t) y15 y16 (by omega)) gL_works_L_start rfl ⟨rfl, rfl⟩ ⟨by decide +kernel, (Nat.le_of_ble_eq_true rfl), (Nat.le_of_ble_eq_true rfl)⟩ hl.1 rfl (Nat.le_of_ble_eq_true rfl) ⟨(Nat.le_of_ble_eq_true rfl), (Nat.le_of_ble_eq_true rfl)⟩ rfl dL_works_138 (fun r6 hr6 => ?_)
                obtain rfl := show r6 = nI (bo t (fc t)) from hr6
                refine lv_iload hx hb dL_works_141 (lv_at hl 0 rfl) ?_
                refine zo_add hx hb dL_works_143 ?_
                refine lv_aload hx hb dL_works_144 (lv_at hl 5 rfl) ?_
                refine lv_iload hx hb dL_works_146 (lv_at hl 14 rfl) ?_
                refine va_iald hx hb hZ.1 hP 1 0 rfl rfl (vp_in_nI (show t < 24 by omega) (by omega)) dL_works_148 ?_
                rw [nI_clamp (show t < 2 ^ 31 by omega)]
                refine zx_val (y := nI (tr t)) (qa1) ?_
                refine lv_aload hx hb dL_works_149 (lv_at hl 5 rfl) ?_
                refine lv_iconst (v := nI (4)) hx hb dL_works_151 (by decide) ?_
                refine lv_iload hx hb dL_works_152 (lv_at hl 14 rfl) ?_
                refine zo_add hx hb dL_works_154 ?_
                refine va_iald hx hb hZ.1 hP 1 0 rfl rfl (vp_in_nI (show 4 + t < 24 by omega) (by omega)) dL_works_155 ?_
                rw [nI_clamp (show 4 + t < 2 ^ 31 by omega)]
                refine zx_val (y := nI (le t)) (qa2) ?_
                refine zo_mul hx hb dL_works_156 ?_
                refine zc_gt (tgt := 164) hx hb (by omega) (by omega) dL_works_157 (by decide) (fun c_24 => ?_) (fun c_24 => False.elim (by omega))
                refine lv_iconst (v := bI (false)) hx hb dL_works_164 (by decide) ?_
                refine lv_istore (lv' := [(15, .int (bI (false))), (14, .int (nI (bl))), (0, .ref (ad 0)), (1, .int (nI (kd))), (2, .int (y)), (3, .ref (g 0)), (4, .ref (g 1)), (5, .ref (g 2)), (6, .ref (g 3)), (7, .ref (g 4)), (8, .ref (g 5)), (9, .ref (g 6)), (10, .int (nI (q2))), (11, .int (bI (true))), (12, .int (bI (true))), (13, .int (nI (t)))]) hx hb dL_works_165 hl (by decide) rfl (fun ls hl => ?_)
                refine lv_iload hx hb dL_works_167 (lv_at hl 14 rfl) ?_
                refine zb_eq (tgt := 187) hx hb dL_works_169 (by decide) (fun c_25 => Bool.noConfusion c_25) (fun c_25 => ?_)
                refine lv_aload hx hb dL_works_172 (lv_at hl 6 rfl) ?_
                refine lv_bipush (v := nI (20)) hx hb dL_works_174 (by decide) ?_
                refine lv_iload hx hb dL_works_176 (lv_at hl 15 rfl) ?_
                refine zo_add hx hb dL_works_178 ?_
                refine va_iald hx hb hZ.1 hP 1 0 rfl rfl (vp_in_nI (show 20 + t < 24 by omega) (by omega)) dL_works_179 ?_
                rw [nI_clamp (show 20 + t < 2 ^ 31 by omega)]
                refine zx_val (y := nI (fc t)) (qa6) ?_
                refine lv_bipush (v := nI (6)) hx hb dL_works_180 (by decide) ?_
                refine zc_ne (tgt := 187) hx hb (by omega) (by omega) dL_works_182 (by decide) (fun c_26 => False.elim (by omega)) (fun c_26 => ?_)
                refine lv_iconst (v := bI (true)) hx hb dL_works_185 (by decide) ?_
                exact W.widen (k := 12) (n := 128) (by omega) (by omega) (zr_qz (S := va_W) (post := (fun (r : Int32) (u : va_W) => r = bI true ∧ LV cA ad g u)) (w1 := fun u => u) ((g 0, zInts cA 4 cf) :: (g 1, zInts cA 24 tf) :: (g 2, zInts cA 24 ff) :: (g 3, zInts cA 10 vf) :: (g 4, zInts cA 40 jj) :: (g 5, zInts cA 20 lt) :: (g 6, zInts cA 20 dd) :: cw) hx hb hr hlocks ⟨rfl, ⟨_, _, _, _, _, _, _, _, _, _, _, _, _, _, _, _, _, _, _, _, _, _, _, _, _, _, _, _, _, _, _, _, _, _, _, _, _, _, _, _, cw, rfl, hL, hI, hp⟩⟩ hP hD hS rfl dL_works_186)
              · refine lv_iload hx hb dL_works_121 (lv_at hl 13 rfl) ?_
                refine zb_eq (tgt := 164) hx hb dL_works_123 (by decide) (fun c_27 => Bool.noConfusion c_27) (fun c_27 => ?_)
                refine lv_aload hx hb dL_works_126 (lv_at hl 6 rfl) ?_
                refine lv_iload hx hb dL_works_128 (lv_at hl 14 rfl) ?_
                refine lv_aload hx hb dL_works_130 (lv_at hl 5 rfl) ?_
                refine lv_bipush (v := nI (20)) hx hb dL_works_132 (by decide) ?_
                refine lv_iload hx hb dL_works_134 (lv_at hl 14 rfl) ?_
                refine zo_add hx hb dL_works_136 ?_
                refine va_iald hx hb hZ.1 hP 1 0 rfl rfl (vp_in_nI (show 20 + t < 24 by omega) (by omega)) dL_works_137 ?_
                rw [nI_clamp (show 20 + t < 2 ^ 31 by omega)]
                refine zx_val (y := nI (fc t)) (qa6) ?_
                refine zk_S_i (n := 3) (As := [.ref (g 2), .int (nI (t)), .int (nI (fc t))]) (rest := []) hx hb hml hts hown hZ hP (c_L_start l D cA ((g 0, zInts cA 4 cf) :: (g 1, zInts cA 24 tf) :: (g 2, zInts cA 24 ff) :: (g 3, zInts cA 10 vf) :: (g 4, zInts cA 40 jj) :: (g 5, zInts cA 20 lt) :: (g 6, zInts cA 20 dd) :: cw) 2 (g 2) ff rfl t (fc t) (bo t) y15 y16 (by omega)) gL_works_L_start rfl ⟨rfl, rfl⟩ ⟨by decide +kernel, (Nat.le_of_ble_eq_true rfl), (Nat.le_of_ble_eq_true rfl)⟩ hl.1 rfl (Nat.le_of_ble_eq_true rfl) ⟨(Nat.le_of_ble_eq_true rfl), (Nat.le_of_ble_eq_true rfl)⟩ rfl dL_works_138 (fun r7 hr7 => ?_)
                obtain rfl := show r7 = nI (bo t (fc t)) from hr7
                refine lv_iload hx hb dL_works_141 (lv_at hl 0 rfl) ?_
                refine zo_add hx hb dL_works_143 ?_
                refine lv_aload hx hb dL_works_144 (lv_at hl 5 rfl) ?_
                refine lv_iload hx hb dL_works_146 (lv_at hl 14 rfl) ?_
                refine va_iald hx hb hZ.1 hP 1 0 rfl rfl (vp_in_nI (show t < 24 by omega) (by omega)) dL_works_148 ?_
                rw [nI_clamp (show t < 2 ^ 31 by omega)]
                refine zx_val (y := nI (tr t)) (qa1) ?_
                refine lv_aload hx hb dL_works_149 (lv_at hl 5 rfl) ?_
                refine lv_iconst (v := nI (4)) hx hb dL_works_151 (by decide) ?_
                refine lv_iload hx hb dL_works_152 (lv_at hl 14 rfl) ?_
                refine zo_add hx hb dL_works_154 ?_
                refine va_iald hx hb hZ.1 hP 1 0 rfl rfl (vp_in_nI (show 4 + t < 24 by omega) (by omega)) dL_works_155 ?_
                rw [nI_clamp (show 4 + t < 2 ^ 31 by omega)]
                refine zx_val (y := nI (le t)) (qa2) ?_
                refine zo_mul hx hb dL_works_156 ?_
                refine zc_gt (tgt := 164) hx hb (by omega) (by omega) dL_works_157 (by decide) (fun c_28 => ?_) (fun c_28 => False.elim (by omega))
                refine lv_iconst (v := bI (false)) hx hb dL_works_164 (by decide) ?_
                refine lv_istore (lv' := [(15, .int (bI (false))), (14, .int (nI (bl))), (0, .ref (ad 0)), (1, .int (nI (kd))), (2, .int (y)), (3, .ref (g 0)), (4, .ref (g 1)), (5, .ref (g 2)), (6, .ref (g 3)), (7, .ref (g 4)), (8, .ref (g 5)), (9, .ref (g 6)), (10, .int (nI (q2))), (11, .int (bI (true))), (12, .int (bI (true))), (13, .int (nI (t)))]) hx hb dL_works_165 hl (by decide) rfl (fun ls hl => ?_)
                refine lv_iload hx hb dL_works_167 (lv_at hl 14 rfl) ?_
                refine zb_eq (tgt := 187) hx hb dL_works_169 (by decide) (fun c_29 => Bool.noConfusion c_29) (fun c_29 => ?_)
                refine lv_aload hx hb dL_works_172 (lv_at hl 6 rfl) ?_
                refine lv_bipush (v := nI (20)) hx hb dL_works_174 (by decide) ?_
                refine lv_iload hx hb dL_works_176 (lv_at hl 15 rfl) ?_
                refine zo_add hx hb dL_works_178 ?_
                refine va_iald hx hb hZ.1 hP 1 0 rfl rfl (vp_in_nI (show 20 + t < 24 by omega) (by omega)) dL_works_179 ?_
                rw [nI_clamp (show 20 + t < 2 ^ 31 by omega)]
                refine zx_val (y := nI (fc t)) (qa6) ?_
                refine lv_bipush (v := nI (6)) hx hb dL_works_180 (by decide) ?_
                refine zc_ne (tgt := 187) hx hb (by omega) (by omega) dL_works_182 (by decide) (fun c_30 => ?_) (fun c_30 => False.elim (by omega))
                refine lv_iload hx hb dL_works_187 (lv_at hl 13 rfl) ?_
                refine zb_ne (tgt := 197) hx hb dL_works_189 (by decide) (fun c_31 => ?_) (fun c_31 => Bool.noConfusion c_31)
                refine lv_iload hx hb dL_works_197 (lv_at hl 1 rfl) ?_
                refine lv_bipush (v := nI (100)) hx hb dL_works_199 (by decide) ?_
                refine zc_le (tgt := 209) hx hb (by omega) (by omega) dL_works_201 (by decide) (fun c_32 => False.elim (by omega)) (fun c_32 => ?_)
                refine lv_bipush (v := (-102)) hx hb dL_works_204 (by decide) ?_
                refine lv_goto (tgt := 237) hx hb dL_works_206 (by decide) ?_
                refine lv_istore (lv' := [(16, .int ((-102))), (15, .int (bI (false))), (14, .int (nI (bl))), (0, .ref (ad 0)), (1, .int (nI (kd))), (2, .int (y)), (3, .ref (g 0)), (4, .ref (g 1)), (5, .ref (g 2)), (6, .ref (g 3)), (7, .ref (g 4)), (8, .ref (g 5)), (9, .ref (g 6)), (10, .int (nI (q2))), (11, .int (bI (true))), (12, .int (bI (true))), (13, .int (nI (t)))]) hx hb dL_works_237 hl (by decide) rfl (fun ls hl => ?_)
                refine lv_iload hx hb dL_works_239 (lv_at hl 0 rfl) ?_
                refine lv_if_ne (tgt := 298) hx hb dL_works_241 (by decide) (fun c_33 => ?_) (fun c_33 => absurd c_33 (by decide))
                refine lv_aload_n hx hb dL_works_298 rfl (lv_at hl 3 rfl) ?_
                refine lv_iload hx hb dL_works_299 (lv_at hl 13 rfl) ?_
                refine lv_iload hx hb dL_works_301 (lv_at hl 2 rfl) ?_
                refine ze_H_i (n := 3) (mc := 4) (ms := 24) (ws := cw) (es := [(g 0, zInts cA 4 cf), (g 1, zInts cA 24 tf), (g 2, zInts cA 24 ff), (g 3, zInts cA 10 vf), (g 4, zInts cA 40 jj), (g 5, zInts cA 20 lt), (g 6, zInts cA 20 dd)]) (As := [.ref (ad 0), .int (nI (q2)), .int (nI (bl))]) (rest := []) hx hb hml hts hown hZ hX hN [0, 1, 2, 3, 4, 5, 6] rfl rfl hP hD hS hA (c_L_written l D cA _ cw (ad 0) _ l0 _ _ _ _ (k3 (ix (nI (q2)) nd) (rg (nI (bl)) 1 100) (fun j b => match hd j with | none => false | some t => decide (ct j < 12) && decide (fc t < 10 ∧ bo t (fc t) + b ≤ tr t * le t))) (nI (q2)) (nI (bl)) (fun sz9 => c_X4_write l hlt D cA sz9 cw ad T Bd E PT PB PE n tr le sl mo la fc bo nd mk ck ct hd pq nj fw jf dl dn oc s8 s9 s10 s11 s12 hL hI (nI (q2)) (nI (bl))) (fun _ _ h => h)) gL_works_L_written rfl ⟨rfl, rfl⟩ ⟨by decide +kernel, (Nat.le_of_ble_eq_true rfl), (Nat.le_of_ble_eq_true rfl)⟩ hl.1 rfl (Nat.le_of_ble_eq_true rfl) ⟨(Nat.le_of_ble_eq_true rfl), (Nat.le_of_ble_eq_true rfl)⟩ rfl dL_works_303 (fun r9 u9 H locs hp9 hP hD hS hz => ?_)
                rcases u9 with ⟨j9, t9, P9, b9, w1⟩ | u9
                · dsimp only [zwP] at hp9
                  obtain ⟨hjn, hv0, hb1, hb2, hv1, hht9, hpq9, hP16, hct9, hfc9, hfit9, hr9, hkp, hL1⟩ := hp9
                  have e8 := (nI_eq (by omega) (by omega)).mp hv1
                  omega
                · dsimp only [zwP] at hp9
                  obtain ⟨hr9, hK9, E9, hE9⟩ := hp9
                  have hr9 : r9 = (-102) := by rw [hr9, show (k3 (ix (nI (q2)) nd) (rg (nI (bl)) 1 100) (fun j b => match hd j with | none => false | some t => decide (ct j < 12) && decide (fc t < 10 ∧ bo t (fc t) + b ≤ tr t * le t))) = 2 from k3_2 (ix_in (by omega) hdn) (rg_out (by omega) (Or.inr (by omega)))]; rfl
                  subst hr9
                  have hP : va_P D vwCl ((g 0, zInts cA 4 cf) :: (g 1, zInts cA 24 tf) :: (g 2, zInts cA 24 ff) :: (g 3, zInts cA 10 vf) :: (g 4, zInts cA 40 jj) :: (g 5, zInts cA 20 lt) :: (g 6, zInts cA 20 dd) :: cw) H := hP
                  have hD : va_D A ((g 0, zInts cA 4 cf) :: (g 1, zInts cA 24 tf) :: (g 2, zInts cA 24 ff) :: (g 3, zInts cA 10 vf) :: (g 4, zInts cA 40 jj) :: (g 5, zInts cA 20 lt) :: (g 6, zInts cA 20 dd) :: cw) := hD
                  refine lv_iload hx hb dL_works_306 (lv_at hl 0 rfl) ?_
                  refine lv_icmp_ne (tgt := 315) hx hb dL_works_308 (by decide) (fun c_34 => absurd rfl c_34) (fun c_34 => ?_)
                  refine lv_iconst (v := bI (true)) hx hb dL_works_311 (by decide) ?_
                  refine lv_goto (tgt := 316) hx hb dL_works_312 (by decide) ?_
                  exact W.widen (k := 12) (n := 128) (by omega) (by omega) (zr_qz (S := va_W) (post := (fun (r : Int32) (u : va_W) => r = bI true ∧ LV cA ad g u)) (w1 := fun u => u) ((g 0, zInts cA 4 cf) :: (g 1, zInts cA 24 tf) :: (g 2, zInts cA 24 ff) :: (g 3, zInts cA 10 vf) :: (g 4, zInts cA 40 jj) :: (g 5, zInts cA 20 lt) :: (g 6, zInts cA 20 dd) :: cw) hx hb hr hlocks ⟨rfl, ⟨_, _, _, _, _, _, _, _, _, _, _, _, _, _, _, _, _, _, _, _, _, _, _, _, _, _, _, _, _, _, _, _, _, _, _, _, _, _, _, _, cw, rfl, hL, hI, hp⟩⟩ hP hD hS rfl dL_works_316)
              · refine lv_iload hx hb dL_works_121 (lv_at hl 13 rfl) ?_
                refine zb_eq (tgt := 164) hx hb dL_works_123 (by decide) (fun c_35 => Bool.noConfusion c_35) (fun c_35 => ?_)
                refine lv_aload hx hb dL_works_126 (lv_at hl 6 rfl) ?_
                refine lv_iload hx hb dL_works_128 (lv_at hl 14 rfl) ?_
                refine lv_aload hx hb dL_works_130 (lv_at hl 5 rfl) ?_
                refine lv_bipush (v := nI (20)) hx hb dL_works_132 (by decide) ?_
                refine lv_iload hx hb dL_works_134 (lv_at hl 14 rfl) ?_
                refine zo_add hx hb dL_works_136 ?_
                refine va_iald hx hb hZ.1 hP 1 0 rfl rfl (vp_in_nI (show 20 + t < 24 by omega) (by omega)) dL_works_137 ?_
                rw [nI_clamp (show 20 + t < 2 ^ 31 by omega)]
                refine zx_val (y := nI (fc t)) (qa6) ?_
                refine zk_S_i (n := 3) (As := [.ref (g 2), .int (nI (t)), .int (nI (fc t))]) (rest := []) hx hb hml hts hown hZ hP (c_L_start l D cA ((g 0, zInts cA 4 cf) :: (g 1, zInts cA 24 tf) :: (g 2, zInts cA 24 ff) :: (g 3, zInts cA 10 vf) :: (g 4, zInts cA 40 jj) :: (g 5, zInts cA 20 lt) :: (g 6, zInts cA 20 dd) :: cw) 2 (g 2) ff rfl t (fc t) (bo t) y15 y16 (by omega)) gL_works_L_start rfl ⟨rfl, rfl⟩ ⟨by decide +kernel, (Nat.le_of_ble_eq_true rfl), (Nat.le_of_ble_eq_true rfl)⟩ hl.1 rfl (Nat.le_of_ble_eq_true rfl) ⟨(Nat.le_of_ble_eq_true rfl), (Nat.le_of_ble_eq_true rfl)⟩ rfl dL_works_138 (fun r8 hr8 => ?_)
                obtain rfl := show r8 = nI (bo t (fc t)) from hr8
                refine lv_iload hx hb dL_works_141 (lv_at hl 0 rfl) ?_
                refine zo_add hx hb dL_works_143 ?_
                refine lv_aload hx hb dL_works_144 (lv_at hl 5 rfl) ?_
                refine lv_iload hx hb dL_works_146 (lv_at hl 14 rfl) ?_
                refine va_iald hx hb hZ.1 hP 1 0 rfl rfl (vp_in_nI (show t < 24 by omega) (by omega)) dL_works_148 ?_
                rw [nI_clamp (show t < 2 ^ 31 by omega)]
                refine zx_val (y := nI (tr t)) (qa1) ?_
                refine lv_aload hx hb dL_works_149 (lv_at hl 5 rfl) ?_
                refine lv_iconst (v := nI (4)) hx hb dL_works_151 (by decide) ?_
                refine lv_iload hx hb dL_works_152 (lv_at hl 14 rfl) ?_
                refine zo_add hx hb dL_works_154 ?_
                refine va_iald hx hb hZ.1 hP 1 0 rfl rfl (vp_in_nI (show 4 + t < 24 by omega) (by omega)) dL_works_155 ?_
                rw [nI_clamp (show 4 + t < 2 ^ 31 by omega)]
                refine zx_val (y := nI (le t)) (qa2) ?_
                refine zo_mul hx hb dL_works_156 ?_
                refine zc_gt (tgt := 164) hx hb (by omega) (by omega) dL_works_157 (by decide) (fun c_36 => ?_) (fun c_36 => False.elim (by omega))
                refine lv_iconst (v := bI (false)) hx hb dL_works_164 (by decide) ?_
                refine lv_istore (lv' := [(15, .int (bI (false))), (14, .int (nI (bl))), (0, .ref (ad 0)), (1, .int (nI (kd))), (2, .int (y)), (3, .ref (g 0)), (4, .ref (g 1)), (5, .ref (g 2)), (6, .ref (g 3)), (7, .ref (g 4)), (8, .ref (g 5)), (9, .ref (g 6)), (10, .int (nI (q2))), (11, .int (bI (true))), (12, .int (bI (true))), (13, .int (nI (t)))]) hx hb dL_works_165 hl (by decide) rfl (fun ls hl => ?_)
                refine lv_iload hx hb dL_works_167 (lv_at hl 14 rfl) ?_
                refine zb_eq (tgt := 187) hx hb dL_works_169 (by decide) (fun c_37 => Bool.noConfusion c_37) (fun c_37 => ?_)
                refine lv_aload hx hb dL_works_172 (lv_at hl 6 rfl) ?_
                refine lv_bipush (v := nI (20)) hx hb dL_works_174 (by decide) ?_
                refine lv_iload hx hb dL_works_176 (lv_at hl 15 rfl) ?_
                refine zo_add hx hb dL_works_178 ?_
                refine va_iald hx hb hZ.1 hP 1 0 rfl rfl (vp_in_nI (show 20 + t < 24 by omega) (by omega)) dL_works_179 ?_
                rw [nI_clamp (show 20 + t < 2 ^ 31 by omega)]
                refine zx_val (y := nI (fc t)) (qa6) ?_
                refine lv_bipush (v := nI (6)) hx hb dL_works_180 (by decide) ?_
                refine zc_ne (tgt := 187) hx hb (by omega) (by omega) dL_works_182 (by decide) (fun c_38 => ?_) (fun c_38 => False.elim (by omega))
                refine lv_iload hx hb dL_works_187 (lv_at hl 13 rfl) ?_
                refine zb_ne (tgt := 197) hx hb dL_works_189 (by decide) (fun c_39 => ?_) (fun c_39 => Bool.noConfusion c_39)
                refine lv_iload hx hb dL_works_197 (lv_at hl 1 rfl) ?_
                refine lv_bipush (v := nI (100)) hx hb dL_works_199 (by decide) ?_
                refine zc_le (tgt := 209) hx hb (by omega) (by omega) dL_works_201 (by decide) (fun c_40 => ?_) (fun c_40 => False.elim (by omega))
                refine lv_iload hx hb dL_works_209 (lv_at hl 14 rfl) ?_
                refine zb_eq (tgt := 235) hx hb dL_works_211 (by decide) (fun c_41 => Bool.noConfusion c_41) (fun c_41 => ?_)
                refine lv_aload hx hb dL_works_214 (lv_at hl 8 rfl) ?_
                refine lv_iconst (v := nI (4)) hx hb dL_works_216 (by decide) ?_
                refine lv_iload hx hb dL_works_217 (lv_at hl 12 rfl) ?_
                refine zo_add hx hb dL_works_219 ?_
                refine va_iald hx hb hZ.1 hP 3 0 rfl rfl (vp_in_nI (show 4 + q2 < 10 by omega) (by omega)) dL_works_220 ?_
                rw [nI_clamp (show 4 + q2 < 2 ^ 31 by omega)]
                refine zx_val (y := nI (ct q2)) (qv3) ?_
                refine lv_bipush (v := nI (12)) hx hb dL_works_221 (by decide) ?_
                refine zc_ge (tgt := 235) hx hb (by omega) (by omega) dL_works_223 (by decide) (fun c_42 => ?_) (fun c_42 => False.elim (by omega))
                refine lv_bipush (v := (-103)) hx hb dL_works_235 (by decide) ?_
                refine lv_istore (lv' := [(16, .int ((-103))), (15, .int (bI (false))), (14, .int (nI (bl))), (0, .ref (ad 0)), (1, .int (nI (kd))), (2, .int (y)), (3, .ref (g 0)), (4, .ref (g 1)), (5, .ref (g 2)), (6, .ref (g 3)), (7, .ref (g 4)), (8, .ref (g 5)), (9, .ref (g 6)), (10, .int (nI (q2))), (11, .int (bI (true))), (12, .int (bI (true))), (13, .int (nI (t)))]) hx hb dL_works_237 hl (by decide) rfl (fun ls hl => ?_)
                refine lv_iload hx hb dL_works_239 (lv_at hl 0 rfl) ?_
                refine lv_if_ne (tgt := 298) hx hb dL_works_241 (by decide) (fun c_43 => ?_) (fun c_43 => absurd c_43 (by decide))
                refine lv_aload_n hx hb dL_works_298 rfl (lv_at hl 3 rfl) ?_
                refine lv_iload hx hb dL_works_299 (lv_at hl 13 rfl) ?_
                refine lv_iload hx hb dL_works_301 (lv_at hl 2 rfl) ?_
                refine ze_H_i (n := 3) (mc := 4) (ms := 24) (ws := cw) (es := [(g 0, zInts cA 4 cf), (g 1, zInts cA 24 tf), (g 2, zInts cA 24 ff), (g 3, zInts cA 10 vf), (g 4, zInts cA 40 jj), (g 5, zInts cA 20 lt), (g 6, zInts cA 20 dd)]) (As := [.ref (ad 0), .int (nI (q2)), .int (nI (bl))]) (rest := []) hx hb hml hts hown hZ hX hN [0, 1, 2, 3, 4, 5, 6] rfl rfl hP hD hS hA (c_L_written l D cA _ cw (ad 0) _ l0 _ _ _ _ (k3 (ix (nI (q2)) nd) (rg (nI (bl)) 1 100) (fun j b => match hd j with | none => false | some t => decide (ct j < 12) && decide (fc t < 10 ∧ bo t (fc t) + b ≤ tr t * le t))) (nI (q2)) (nI (bl)) (fun sz9 => c_X4_write l hlt D cA sz9 cw ad T Bd E PT PB PE n tr le sl mo la fc bo nd mk ck ct hd pq nj fw jf dl dn oc s8 s9 s10 s11 s12 hL hI (nI (q2)) (nI (bl))) (fun _ _ h => h)) gL_works_L_written rfl ⟨rfl, rfl⟩ ⟨by decide +kernel, (Nat.le_of_ble_eq_true rfl), (Nat.le_of_ble_eq_true rfl)⟩ hl.1 rfl (Nat.le_of_ble_eq_true rfl) ⟨(Nat.le_of_ble_eq_true rfl), (Nat.le_of_ble_eq_true rfl)⟩ rfl dL_works_303 (fun r9 u9 H locs hp9 hP hD hS hz => ?_)
                rcases u9 with ⟨j9, t9, P9, b9, w1⟩ | u9
                · dsimp only [zwP] at hp9
                  obtain ⟨hjn, hv0, hb1, hb2, hv1, hht9, hpq9, hP16, hct9, hfc9, hfit9, hr9, hkp, hL1⟩ := hp9
                  have e9 := (nI_eq (by omega) (by omega)).mp hv0
                  rw [← e9] at hct9; omega
                · dsimp only [zwP] at hp9
                  obtain ⟨hr9, hK9, E9, hE9⟩ := hp9
                  have hr9 : r9 = (-103) := by rw [hr9, show (k3 (ix (nI (q2)) nd) (rg (nI (bl)) 1 100) (fun j b => match hd j with | none => false | some t => decide (ct j < 12) && decide (fc t < 10 ∧ bo t (fc t) + b ≤ tr t * le t))) = 3 from k3_3 (ix_in (by omega) hdn) (rg_in (by omega) (by omega) (by omega)) (by rw [hhd]; show (decide (ct q2 < 12) && decide (fc t < 10 ∧ bo t (fc t) + bl ≤ tr t * le t)) = false; rw [decide_eq_false (p := ct q2 < 12) (by omega)]; rfl)]; rfl
                  subst hr9
                  have hP : va_P D vwCl ((g 0, zInts cA 4 cf) :: (g 1, zInts cA 24 tf) :: (g 2, zInts cA 24 ff) :: (g 3, zInts cA 10 vf) :: (g 4, zInts cA 40 jj) :: (g 5, zInts cA 20 lt) :: (g 6, zInts cA 20 dd) :: cw) H := hP
                  have hD : va_D A ((g 0, zInts cA 4 cf) :: (g 1, zInts cA 24 tf) :: (g 2, zInts cA 24 ff) :: (g 3, zInts cA 10 vf) :: (g 4, zInts cA 40 jj) :: (g 5, zInts cA 20 lt) :: (g 6, zInts cA 20 dd) :: cw) := hD
                  refine lv_iload hx hb dL_works_306 (lv_at hl 0 rfl) ?_
                  refine lv_icmp_ne (tgt := 315) hx hb dL_works_308 (by decide) (fun c_44 => absurd rfl c_44) (fun c_44 => ?_)
                  refine lv_iconst (v := bI (true)) hx hb dL_works_311 (by decide) ?_
                  refine lv_goto (tgt := 316) hx hb dL_works_312 (by decide) ?_
                  exact W.widen (k := 12) (n := 128) (by omega) (by omega) (zr_qz (S := va_W) (post := (fun (r : Int32) (u : va_W) => r = bI true ∧ LV cA ad g u)) (w1 := fun u => u) ((g 0, zInts cA 4 cf) :: (g 1, zInts cA 24 tf) :: (g 2, zInts cA 24 ff) :: (g 3, zInts cA 10 vf) :: (g 4, zInts cA 40 jj) :: (g 5, zInts cA 20 lt) :: (g 6, zInts cA 20 dd) :: cw) hx hb hr hlocks ⟨rfl, ⟨_, _, _, _, _, _, _, _, _, _, _, _, _, _, _, _, _, _, _, _, _, _, _, _, _, _, _, _, _, _, _, _, _, _, _, _, _, _, _, _, cw, rfl, hL, hI, hp⟩⟩ hP hD hS rfl dL_works_316)
              · refine lv_iload hx hb dL_works_121 (lv_at hl 13 rfl) ?_
                refine zb_eq (tgt := 164) hx hb dL_works_123 (by decide) (fun c_45 => Bool.noConfusion c_45) (fun c_45 => ?_)
                refine lv_aload hx hb dL_works_126 (lv_at hl 6 rfl) ?_
                refine lv_iload hx hb dL_works_128 (lv_at hl 14 rfl) ?_
                refine lv_aload hx hb dL_works_130 (lv_at hl 5 rfl) ?_
                refine lv_bipush (v := nI (20)) hx hb dL_works_132 (by decide) ?_
                refine lv_iload hx hb dL_works_134 (lv_at hl 14 rfl) ?_
                refine zo_add hx hb dL_works_136 ?_
                refine va_iald hx hb hZ.1 hP 1 0 rfl rfl (vp_in_nI (show 20 + t < 24 by omega) (by omega)) dL_works_137 ?_
                rw [nI_clamp (show 20 + t < 2 ^ 31 by omega)]
                refine zx_val (y := nI (fc t)) (qa6) ?_
                refine zk_S_i (n := 3) (As := [.ref (g 2), .int (nI (t)), .int (nI (fc t))]) (rest := []) hx hb hml hts hown hZ hP (c_L_start l D cA ((g 0, zInts cA 4 cf) :: (g 1, zInts cA 24 tf) :: (g 2, zInts cA 24 ff) :: (g 3, zInts cA 10 vf) :: (g 4, zInts cA 40 jj) :: (g 5, zInts cA 20 lt) :: (g 6, zInts cA 20 dd) :: cw) 2 (g 2) ff rfl t (fc t) (bo t) y15 y16 (by omega)) gL_works_L_start rfl ⟨rfl, rfl⟩ ⟨by decide +kernel, (Nat.le_of_ble_eq_true rfl), (Nat.le_of_ble_eq_true rfl)⟩ hl.1 rfl (Nat.le_of_ble_eq_true rfl) ⟨(Nat.le_of_ble_eq_true rfl), (Nat.le_of_ble_eq_true rfl)⟩ rfl dL_works_138 (fun r9 hr9 => ?_)
                obtain rfl := show r9 = nI (bo t (fc t)) from hr9
                refine lv_iload hx hb dL_works_141 (lv_at hl 0 rfl) ?_
                refine zo_add hx hb dL_works_143 ?_
                refine lv_aload hx hb dL_works_144 (lv_at hl 5 rfl) ?_
                refine lv_iload hx hb dL_works_146 (lv_at hl 14 rfl) ?_
                refine va_iald hx hb hZ.1 hP 1 0 rfl rfl (vp_in_nI (show t < 24 by omega) (by omega)) dL_works_148 ?_
                rw [nI_clamp (show t < 2 ^ 31 by omega)]
                refine zx_val (y := nI (tr t)) (qa1) ?_
                refine lv_aload hx hb dL_works_149 (lv_at hl 5 rfl) ?_
                refine lv_iconst (v := nI (4)) hx hb dL_works_151 (by decide) ?_
                refine lv_iload hx hb dL_works_152 (lv_at hl 14 rfl) ?_
                refine zo_add hx hb dL_works_154 ?_
                refine va_iald hx hb hZ.1 hP 1 0 rfl rfl (vp_in_nI (show 4 + t < 24 by omega) (by omega)) dL_works_155 ?_
                rw [nI_clamp (show 4 + t < 2 ^ 31 by omega)]
                refine zx_val (y := nI (le t)) (qa2) ?_
                refine zo_mul hx hb dL_works_156 ?_
                refine zc_gt (tgt := 164) hx hb (by omega) (by omega) dL_works_157 (by decide) (fun c_46 => ?_) (fun c_46 => False.elim (by omega))
                refine lv_iconst (v := bI (false)) hx hb dL_works_164 (by decide) ?_
                refine lv_istore (lv' := [(15, .int (bI (false))), (14, .int (nI (bl))), (0, .ref (ad 0)), (1, .int (nI (kd))), (2, .int (y)), (3, .ref (g 0)), (4, .ref (g 1)), (5, .ref (g 2)), (6, .ref (g 3)), (7, .ref (g 4)), (8, .ref (g 5)), (9, .ref (g 6)), (10, .int (nI (q2))), (11, .int (bI (true))), (12, .int (bI (true))), (13, .int (nI (t)))]) hx hb dL_works_165 hl (by decide) rfl (fun ls hl => ?_)
                refine lv_iload hx hb dL_works_167 (lv_at hl 14 rfl) ?_
                refine zb_eq (tgt := 187) hx hb dL_works_169 (by decide) (fun c_47 => Bool.noConfusion c_47) (fun c_47 => ?_)
                refine lv_aload hx hb dL_works_172 (lv_at hl 6 rfl) ?_
                refine lv_bipush (v := nI (20)) hx hb dL_works_174 (by decide) ?_
                refine lv_iload hx hb dL_works_176 (lv_at hl 15 rfl) ?_
                refine zo_add hx hb dL_works_178 ?_
                refine va_iald hx hb hZ.1 hP 1 0 rfl rfl (vp_in_nI (show 20 + t < 24 by omega) (by omega)) dL_works_179 ?_
                rw [nI_clamp (show 20 + t < 2 ^ 31 by omega)]
                refine zx_val (y := nI (fc t)) (qa6) ?_
                refine lv_bipush (v := nI (6)) hx hb dL_works_180 (by decide) ?_
                refine zc_ne (tgt := 187) hx hb (by omega) (by omega) dL_works_182 (by decide) (fun c_48 => ?_) (fun c_48 => False.elim (by omega))
                refine lv_iload hx hb dL_works_187 (lv_at hl 13 rfl) ?_
                refine zb_ne (tgt := 197) hx hb dL_works_189 (by decide) (fun c_49 => ?_) (fun c_49 => Bool.noConfusion c_49)
                refine lv_iload hx hb dL_works_197 (lv_at hl 1 rfl) ?_
                refine lv_bipush (v := nI (100)) hx hb dL_works_199 (by decide) ?_
                refine zc_le (tgt := 209) hx hb (by omega) (by omega) dL_works_201 (by decide) (fun c_50 => ?_) (fun c_50 => False.elim (by omega))
                refine lv_iload hx hb dL_works_209 (lv_at hl 14 rfl) ?_
                refine zb_eq (tgt := 235) hx hb dL_works_211 (by decide) (fun c_51 => Bool.noConfusion c_51) (fun c_51 => ?_)
                refine lv_aload hx hb dL_works_214 (lv_at hl 8 rfl) ?_
                refine lv_iconst (v := nI (4)) hx hb dL_works_216 (by decide) ?_
                refine lv_iload hx hb dL_works_217 (lv_at hl 12 rfl) ?_
                refine zo_add hx hb dL_works_219 ?_
                refine va_iald hx hb hZ.1 hP 3 0 rfl rfl (vp_in_nI (show 4 + q2 < 10 by omega) (by omega)) dL_works_220 ?_
                rw [nI_clamp (show 4 + q2 < 2 ^ 31 by omega)]
                refine zx_val (y := nI (ct q2)) (qv3) ?_
                refine lv_bipush (v := nI (12)) hx hb dL_works_221 (by decide) ?_
                refine zc_ge (tgt := 235) hx hb (by omega) (by omega) dL_works_223 (by decide) (fun c_52 => False.elim (by omega)) (fun c_52 => ?_)
                refine lv_iload hx hb dL_works_226 (lv_at hl 0 rfl) ?_
                refine zb_eq (tgt := 235) hx hb dL_works_228 (by decide) (fun c_53 => ?_) (fun c_53 => Bool.noConfusion c_53)
                refine lv_bipush (v := (-103)) hx hb dL_works_235 (by decide) ?_
                refine lv_istore (lv' := [(16, .int ((-103))), (15, .int (bI (false))), (14, .int (nI (bl))), (0, .ref (ad 0)), (1, .int (nI (kd))), (2, .int (y)), (3, .ref (g 0)), (4, .ref (g 1)), (5, .ref (g 2)), (6, .ref (g 3)), (7, .ref (g 4)), (8, .ref (g 5)), (9, .ref (g 6)), (10, .int (nI (q2))), (11, .int (bI (true))), (12, .int (bI (true))), (13, .int (nI (t)))]) hx hb dL_works_237 hl (by decide) rfl (fun ls hl => ?_)
                refine lv_iload hx hb dL_works_239 (lv_at hl 0 rfl) ?_
                refine lv_if_ne (tgt := 298) hx hb dL_works_241 (by decide) (fun c_54 => ?_) (fun c_54 => absurd c_54 (by decide))
                refine lv_aload_n hx hb dL_works_298 rfl (lv_at hl 3 rfl) ?_
                refine lv_iload hx hb dL_works_299 (lv_at hl 13 rfl) ?_
                refine lv_iload hx hb dL_works_301 (lv_at hl 2 rfl) ?_
                refine ze_H_i (n := 3) (mc := 4) (ms := 24) (ws := cw) (es := [(g 0, zInts cA 4 cf), (g 1, zInts cA 24 tf), (g 2, zInts cA 24 ff), (g 3, zInts cA 10 vf), (g 4, zInts cA 40 jj), (g 5, zInts cA 20 lt), (g 6, zInts cA 20 dd)]) (As := [.ref (ad 0), .int (nI (q2)), .int (nI (bl))]) (rest := []) hx hb hml hts hown hZ hX hN [0, 1, 2, 3, 4, 5, 6] rfl rfl hP hD hS hA (c_L_written l D cA _ cw (ad 0) _ l0 _ _ _ _ (k3 (ix (nI (q2)) nd) (rg (nI (bl)) 1 100) (fun j b => match hd j with | none => false | some t => decide (ct j < 12) && decide (fc t < 10 ∧ bo t (fc t) + b ≤ tr t * le t))) (nI (q2)) (nI (bl)) (fun sz9 => c_X4_write l hlt D cA sz9 cw ad T Bd E PT PB PE n tr le sl mo la fc bo nd mk ck ct hd pq nj fw jf dl dn oc s8 s9 s10 s11 s12 hL hI (nI (q2)) (nI (bl))) (fun _ _ h => h)) gL_works_L_written rfl ⟨rfl, rfl⟩ ⟨by decide +kernel, (Nat.le_of_ble_eq_true rfl), (Nat.le_of_ble_eq_true rfl)⟩ hl.1 rfl (Nat.le_of_ble_eq_true rfl) ⟨(Nat.le_of_ble_eq_true rfl), (Nat.le_of_ble_eq_true rfl)⟩ rfl dL_works_303 (fun r9 u9 H locs hp9 hP hD hS hz => ?_)
                rcases u9 with ⟨j9, t9, P9, b9, w1⟩ | u9
                · dsimp only [zwP] at hp9
                  obtain ⟨hjn, hv0, hb1, hb2, hv1, hht9, hpq9, hP16, hct9, hfc9, hfit9, hr9, hkp, hL1⟩ := hp9
                  have e9 := (nI_eq (by omega) (by omega)).mp hv0
                  have e8 := (nI_eq (by omega) (by omega)).mp hv1
                  rw [← e9] at hht9
                  have e7 : t = t9 := Option.some.inj (hhd.symm.trans hht9)
                  rw [← e7] at hfit9; omega
                · dsimp only [zwP] at hp9
                  obtain ⟨hr9, hK9, E9, hE9⟩ := hp9
                  have hr9 : r9 = (-103) := by rw [hr9, show (k3 (ix (nI (q2)) nd) (rg (nI (bl)) 1 100) (fun j b => match hd j with | none => false | some t => decide (ct j < 12) && decide (fc t < 10 ∧ bo t (fc t) + b ≤ tr t * le t))) = 3 from k3_3 (ix_in (by omega) hdn) (rg_in (by omega) (by omega) (by omega)) (by rw [hhd]; show (decide (ct q2 < 12) && decide (fc t < 10 ∧ bo t (fc t) + bl ≤ tr t * le t)) = false; rw [decide_eq_false (p := fc t < 10 ∧ bo t (fc t) + bl ≤ tr t * le t) (by omega), Bool.and_false])]; rfl
                  subst hr9
                  have hP : va_P D vwCl ((g 0, zInts cA 4 cf) :: (g 1, zInts cA 24 tf) :: (g 2, zInts cA 24 ff) :: (g 3, zInts cA 10 vf) :: (g 4, zInts cA 40 jj) :: (g 5, zInts cA 20 lt) :: (g 6, zInts cA 20 dd) :: cw) H := hP
                  have hD : va_D A ((g 0, zInts cA 4 cf) :: (g 1, zInts cA 24 tf) :: (g 2, zInts cA 24 ff) :: (g 3, zInts cA 10 vf) :: (g 4, zInts cA 40 jj) :: (g 5, zInts cA 20 lt) :: (g 6, zInts cA 20 dd) :: cw) := hD
                  refine lv_iload hx hb dL_works_306 (lv_at hl 0 rfl) ?_
                  refine lv_icmp_ne (tgt := 315) hx hb dL_works_308 (by decide) (fun c_55 => absurd rfl c_55) (fun c_55 => ?_)
                  refine lv_iconst (v := bI (true)) hx hb dL_works_311 (by decide) ?_
                  refine lv_goto (tgt := 316) hx hb dL_works_312 (by decide) ?_
                  exact W.widen (k := 12) (n := 128) (by omega) (by omega) (zr_qz (S := va_W) (post := (fun (r : Int32) (u : va_W) => r = bI true ∧ LV cA ad g u)) (w1 := fun u => u) ((g 0, zInts cA 4 cf) :: (g 1, zInts cA 24 tf) :: (g 2, zInts cA 24 ff) :: (g 3, zInts cA 10 vf) :: (g 4, zInts cA 40 jj) :: (g 5, zInts cA 20 lt) :: (g 6, zInts cA 20 dd) :: cw) hx hb hr hlocks ⟨rfl, ⟨_, _, _, _, _, _, _, _, _, _, _, _, _, _, _, _, _, _, _, _, _, _, _, _, _, _, _, _, _, _, _, _, _, _, _, _, _, _, _, _, cw, rfl, hL, hI, hp⟩⟩ hP hD hS rfl dL_works_316)
            · rcases (by omega : fc t = 6 ∨ (fc t < 6 ∧ 100 < bl) ∨ (fc t < 6 ∧ bl ≤ 100 ∧ 12 ≤ ct q2) ∨ (fc t < 6 ∧ bl ≤ 100 ∧ ct q2 < 12)) with hk1 | ⟨hk1, hk2⟩ | ⟨hk1, hk2, hk3⟩ | ⟨hk1, hk2, hk3⟩
              · refine lv_iload hx hb dL_works_121 (lv_at hl 13 rfl) ?_
                refine zb_eq (tgt := 164) hx hb dL_works_123 (by decide) (fun c_56 => Bool.noConfusion c_56) (fun c_56 => ?_)
                refine lv_aload hx hb dL_works_126 (lv_at hl 6 rfl) ?_
                refine lv_iload hx hb dL_works_128 (lv_at hl 14 rfl) ?_
                refine lv_aload hx hb dL_works_130 (lv_at hl 5 rfl) ?_
                refine lv_bipush (v := nI (20)) hx hb dL_works_132 (by decide) ?_
                refine lv_iload hx hb dL_works_134 (lv_at hl 14 rfl) ?_
                refine zo_add hx hb dL_works_136 ?_
                refine va_iald hx hb hZ.1 hP 1 0 rfl rfl (vp_in_nI (show 20 + t < 24 by omega) (by omega)) dL_works_137 ?_
                rw [nI_clamp (show 20 + t < 2 ^ 31 by omega)]
                refine zx_val (y := nI (fc t)) (qa6) ?_
                refine zk_S_i (n := 3) (As := [.ref (g 2), .int (nI (t)), .int (nI (fc t))]) (rest := []) hx hb hml hts hown hZ hP (c_L_start l D cA ((g 0, zInts cA 4 cf) :: (g 1, zInts cA 24 tf) :: (g 2, zInts cA 24 ff) :: (g 3, zInts cA 10 vf) :: (g 4, zInts cA 40 jj) :: (g 5, zInts cA 20 lt) :: (g 6, zInts cA 20 dd) :: cw) 2 (g 2) ff rfl t (fc t) (bo t) y15 y16 (by omega)) gL_works_L_start rfl ⟨rfl, rfl⟩ ⟨by decide +kernel, (Nat.le_of_ble_eq_true rfl), (Nat.le_of_ble_eq_true rfl)⟩ hl.1 rfl (Nat.le_of_ble_eq_true rfl) ⟨(Nat.le_of_ble_eq_true rfl), (Nat.le_of_ble_eq_true rfl)⟩ rfl dL_works_138 (fun r10 hr10 => ?_)
                obtain rfl := show r10 = nI (bo t (fc t)) from hr10
                refine lv_iload hx hb dL_works_141 (lv_at hl 0 rfl) ?_
                refine zo_add hx hb dL_works_143 ?_
                refine lv_aload hx hb dL_works_144 (lv_at hl 5 rfl) ?_
                refine lv_iload hx hb dL_works_146 (lv_at hl 14 rfl) ?_
                refine va_iald hx hb hZ.1 hP 1 0 rfl rfl (vp_in_nI (show t < 24 by omega) (by omega)) dL_works_148 ?_
                rw [nI_clamp (show t < 2 ^ 31 by omega)]
                refine zx_val (y := nI (tr t)) (qa1) ?_
                refine lv_aload hx hb dL_works_149 (lv_at hl 5 rfl) ?_
                refine lv_iconst (v := nI (4)) hx hb dL_works_151 (by decide) ?_
                refine lv_iload hx hb dL_works_152 (lv_at hl 14 rfl) ?_
                refine zo_add hx hb dL_works_154 ?_
                refine va_iald hx hb hZ.1 hP 1 0 rfl rfl (vp_in_nI (show 4 + t < 24 by omega) (by omega)) dL_works_155 ?_
                rw [nI_clamp (show 4 + t < 2 ^ 31 by omega)]
                refine zx_val (y := nI (le t)) (qa2) ?_
                refine zo_mul hx hb dL_works_156 ?_
                refine zc_gt (tgt := 164) hx hb (by omega) (by omega) dL_works_157 (by decide) (fun c_57 => False.elim (by omega)) (fun c_57 => ?_)
                refine lv_iconst (v := bI (true)) hx hb dL_works_160 (by decide) ?_
                refine lv_goto (tgt := 165) hx hb dL_works_161 (by decide) ?_
                refine lv_istore (lv' := [(15, .int (bI (true))), (14, .int (nI (bl))), (0, .ref (ad 0)), (1, .int (nI (kd))), (2, .int (y)), (3, .ref (g 0)), (4, .ref (g 1)), (5, .ref (g 2)), (6, .ref (g 3)), (7, .ref (g 4)), (8, .ref (g 5)), (9, .ref (g 6)), (10, .int (nI (q2))), (11, .int (bI (true))), (12, .int (bI (true))), (13, .int (nI (t)))]) hx hb dL_works_165 hl (by decide) rfl (fun ls hl => ?_)
                refine lv_iload hx hb dL_works_167 (lv_at hl 14 rfl) ?_
                refine zb_eq (tgt := 187) hx hb dL_works_169 (by decide) (fun c_58 => Bool.noConfusion c_58) (fun c_58 => ?_)
                refine lv_aload hx hb dL_works_172 (lv_at hl 6 rfl) ?_
                refine lv_bipush (v := nI (20)) hx hb dL_works_174 (by decide) ?_
                refine lv_iload hx hb dL_works_176 (lv_at hl 15 rfl) ?_
                refine zo_add hx hb dL_works_178 ?_
                refine va_iald hx hb hZ.1 hP 1 0 rfl rfl (vp_in_nI (show 20 + t < 24 by omega) (by omega)) dL_works_179 ?_
                rw [nI_clamp (show 20 + t < 2 ^ 31 by omega)]
                refine zx_val (y := nI (fc t)) (qa6) ?_
                refine lv_bipush (v := nI (6)) hx hb dL_works_180 (by decide) ?_
                refine zc_ne (tgt := 187) hx hb (by omega) (by omega) dL_works_182 (by decide) (fun c_59 => False.elim (by omega)) (fun c_59 => ?_)
                refine lv_iconst (v := bI (true)) hx hb dL_works_185 (by decide) ?_
                exact W.widen (k := 12) (n := 128) (by omega) (by omega) (zr_qz (S := va_W) (post := (fun (r : Int32) (u : va_W) => r = bI true ∧ LV cA ad g u)) (w1 := fun u => u) ((g 0, zInts cA 4 cf) :: (g 1, zInts cA 24 tf) :: (g 2, zInts cA 24 ff) :: (g 3, zInts cA 10 vf) :: (g 4, zInts cA 40 jj) :: (g 5, zInts cA 20 lt) :: (g 6, zInts cA 20 dd) :: cw) hx hb hr hlocks ⟨rfl, ⟨_, _, _, _, _, _, _, _, _, _, _, _, _, _, _, _, _, _, _, _, _, _, _, _, _, _, _, _, _, _, _, _, _, _, _, _, _, _, _, _, cw, rfl, hL, hI, hp⟩⟩ hP hD hS rfl dL_works_186)
              · refine lv_iload hx hb dL_works_121 (lv_at hl 13 rfl) ?_
                refine zb_eq (tgt := 164) hx hb dL_works_123 (by decide) (fun c_60 => Bool.noConfusion c_60) (fun c_60 => ?_)
                refine lv_aload hx hb dL_works_126 (lv_at hl 6 rfl) ?_
                refine lv_iload hx hb dL_works_128 (lv_at hl 14 rfl) ?_
                refine lv_aload hx hb dL_works_130 (lv_at hl 5 rfl) ?_
                refine lv_bipush (v := nI (20)) hx hb dL_works_132 (by decide) ?_
                refine lv_iload hx hb dL_works_134 (lv_at hl 14 rfl) ?_
                refine zo_add hx hb dL_works_136 ?_
                refine va_iald hx hb hZ.1 hP 1 0 rfl rfl (vp_in_nI (show 20 + t < 24 by omega) (by omega)) dL_works_137 ?_
                rw [nI_clamp (show 20 + t < 2 ^ 31 by omega)]
                refine zx_val (y := nI (fc t)) (qa6) ?_
                refine zk_S_i (n := 3) (As := [.ref (g 2), .int (nI (t)), .int (nI (fc t))]) (rest := []) hx hb hml hts hown hZ hP (c_L_start l D cA ((g 0, zInts cA 4 cf) :: (g 1, zInts cA 24 tf) :: (g 2, zInts cA 24 ff) :: (g 3, zInts cA 10 vf) :: (g 4, zInts cA 40 jj) :: (g 5, zInts cA 20 lt) :: (g 6, zInts cA 20 dd) :: cw) 2 (g 2) ff rfl t (fc t) (bo t) y15 y16 (by omega)) gL_works_L_start rfl ⟨rfl, rfl⟩ ⟨by decide +kernel, (Nat.le_of_ble_eq_true rfl), (Nat.le_of_ble_eq_true rfl)⟩ hl.1 rfl (Nat.le_of_ble_eq_true rfl) ⟨(Nat.le_of_ble_eq_true rfl), (Nat.le_of_ble_eq_true rfl)⟩ rfl dL_works_138 (fun r11 hr11 => ?_)
                obtain rfl := show r11 = nI (bo t (fc t)) from hr11
                refine lv_iload hx hb dL_works_141 (lv_at hl 0 rfl) ?_
                refine zo_add hx hb dL_works_143 ?_
                refine lv_aload hx hb dL_works_144 (lv_at hl 5 rfl) ?_
                refine lv_iload hx hb dL_works_146 (lv_at hl 14 rfl) ?_
                refine va_iald hx hb hZ.1 hP 1 0 rfl rfl (vp_in_nI (show t < 24 by omega) (by omega)) dL_works_148 ?_
                rw [nI_clamp (show t < 2 ^ 31 by omega)]
                refine zx_val (y := nI (tr t)) (qa1) ?_
                refine lv_aload hx hb dL_works_149 (lv_at hl 5 rfl) ?_
                refine lv_iconst (v := nI (4)) hx hb dL_works_151 (by decide) ?_
                refine lv_iload hx hb dL_works_152 (lv_at hl 14 rfl) ?_
                refine zo_add hx hb dL_works_154 ?_
                refine va_iald hx hb hZ.1 hP 1 0 rfl rfl (vp_in_nI (show 4 + t < 24 by omega) (by omega)) dL_works_155 ?_
                rw [nI_clamp (show 4 + t < 2 ^ 31 by omega)]
                refine zx_val (y := nI (le t)) (qa2) ?_
                refine zo_mul hx hb dL_works_156 ?_
                refine zc_gt (tgt := 164) hx hb (by omega) (by omega) dL_works_157 (by decide) (fun c_61 => False.elim (by omega)) (fun c_61 => ?_)
                refine lv_iconst (v := bI (true)) hx hb dL_works_160 (by decide) ?_
                refine lv_goto (tgt := 165) hx hb dL_works_161 (by decide) ?_
                refine lv_istore (lv' := [(15, .int (bI (true))), (14, .int (nI (bl))), (0, .ref (ad 0)), (1, .int (nI (kd))), (2, .int (y)), (3, .ref (g 0)), (4, .ref (g 1)), (5, .ref (g 2)), (6, .ref (g 3)), (7, .ref (g 4)), (8, .ref (g 5)), (9, .ref (g 6)), (10, .int (nI (q2))), (11, .int (bI (true))), (12, .int (bI (true))), (13, .int (nI (t)))]) hx hb dL_works_165 hl (by decide) rfl (fun ls hl => ?_)
                refine lv_iload hx hb dL_works_167 (lv_at hl 14 rfl) ?_
                refine zb_eq (tgt := 187) hx hb dL_works_169 (by decide) (fun c_62 => Bool.noConfusion c_62) (fun c_62 => ?_)
                refine lv_aload hx hb dL_works_172 (lv_at hl 6 rfl) ?_
                refine lv_bipush (v := nI (20)) hx hb dL_works_174 (by decide) ?_
                refine lv_iload hx hb dL_works_176 (lv_at hl 15 rfl) ?_
                refine zo_add hx hb dL_works_178 ?_
                refine va_iald hx hb hZ.1 hP 1 0 rfl rfl (vp_in_nI (show 20 + t < 24 by omega) (by omega)) dL_works_179 ?_
                rw [nI_clamp (show 20 + t < 2 ^ 31 by omega)]
                refine zx_val (y := nI (fc t)) (qa6) ?_
                refine lv_bipush (v := nI (6)) hx hb dL_works_180 (by decide) ?_
                refine zc_ne (tgt := 187) hx hb (by omega) (by omega) dL_works_182 (by decide) (fun c_63 => ?_) (fun c_63 => False.elim (by omega))
                refine lv_iload hx hb dL_works_187 (lv_at hl 13 rfl) ?_
                refine zb_ne (tgt := 197) hx hb dL_works_189 (by decide) (fun c_64 => ?_) (fun c_64 => Bool.noConfusion c_64)
                refine lv_iload hx hb dL_works_197 (lv_at hl 1 rfl) ?_
                refine lv_bipush (v := nI (100)) hx hb dL_works_199 (by decide) ?_
                refine zc_le (tgt := 209) hx hb (by omega) (by omega) dL_works_201 (by decide) (fun c_65 => False.elim (by omega)) (fun c_65 => ?_)
                refine lv_bipush (v := (-102)) hx hb dL_works_204 (by decide) ?_
                refine lv_goto (tgt := 237) hx hb dL_works_206 (by decide) ?_
                refine lv_istore (lv' := [(16, .int ((-102))), (15, .int (bI (true))), (14, .int (nI (bl))), (0, .ref (ad 0)), (1, .int (nI (kd))), (2, .int (y)), (3, .ref (g 0)), (4, .ref (g 1)), (5, .ref (g 2)), (6, .ref (g 3)), (7, .ref (g 4)), (8, .ref (g 5)), (9, .ref (g 6)), (10, .int (nI (q2))), (11, .int (bI (true))), (12, .int (bI (true))), (13, .int (nI (t)))]) hx hb dL_works_237 hl (by decide) rfl (fun ls hl => ?_)
                refine lv_iload hx hb dL_works_239 (lv_at hl 0 rfl) ?_
                refine lv_if_ne (tgt := 298) hx hb dL_works_241 (by decide) (fun c_66 => ?_) (fun c_66 => absurd c_66 (by decide))
                refine lv_aload_n hx hb dL_works_298 rfl (lv_at hl 3 rfl) ?_
                refine lv_iload hx hb dL_works_299 (lv_at hl 13 rfl) ?_
                refine lv_iload hx hb dL_works_301 (lv_at hl 2 rfl) ?_
                refine ze_H_i (n := 3) (mc := 4) (ms := 24) (ws := cw) (es := [(g 0, zInts cA 4 cf), (g 1, zInts cA 24 tf), (g 2, zInts cA 24 ff), (g 3, zInts cA 10 vf), (g 4, zInts cA 40 jj), (g 5, zInts cA 20 lt), (g 6, zInts cA 20 dd)]) (As := [.ref (ad 0), .int (nI (q2)), .int (nI (bl))]) (rest := []) hx hb hml hts hown hZ hX hN [0, 1, 2, 3, 4, 5, 6] rfl rfl hP hD hS hA (c_L_written l D cA _ cw (ad 0) _ l0 _ _ _ _ (k3 (ix (nI (q2)) nd) (rg (nI (bl)) 1 100) (fun j b => match hd j with | none => false | some t => decide (ct j < 12) && decide (fc t < 10 ∧ bo t (fc t) + b ≤ tr t * le t))) (nI (q2)) (nI (bl)) (fun sz9 => c_X4_write l hlt D cA sz9 cw ad T Bd E PT PB PE n tr le sl mo la fc bo nd mk ck ct hd pq nj fw jf dl dn oc s8 s9 s10 s11 s12 hL hI (nI (q2)) (nI (bl))) (fun _ _ h => h)) gL_works_L_written rfl ⟨rfl, rfl⟩ ⟨by decide +kernel, (Nat.le_of_ble_eq_true rfl), (Nat.le_of_ble_eq_true rfl)⟩ hl.1 rfl (Nat.le_of_ble_eq_true rfl) ⟨(Nat.le_of_ble_eq_true rfl), (Nat.le_of_ble_eq_true rfl)⟩ rfl dL_works_303 (fun r9 u9 H locs hp9 hP hD hS hz => ?_)
                rcases u9 with ⟨j9, t9, P9, b9, w1⟩ | u9
                · dsimp only [zwP] at hp9
                  obtain ⟨hjn, hv0, hb1, hb2, hv1, hht9, hpq9, hP16, hct9, hfc9, hfit9, hr9, hkp, hL1⟩ := hp9
                  have e8 := (nI_eq (by omega) (by omega)).mp hv1
                  omega
                · dsimp only [zwP] at hp9
                  obtain ⟨hr9, hK9, E9, hE9⟩ := hp9
                  have hr9 : r9 = (-102) := by rw [hr9, show (k3 (ix (nI (q2)) nd) (rg (nI (bl)) 1 100) (fun j b => match hd j with | none => false | some t => decide (ct j < 12) && decide (fc t < 10 ∧ bo t (fc t) + b ≤ tr t * le t))) = 2 from k3_2 (ix_in (by omega) hdn) (rg_out (by omega) (Or.inr (by omega)))]; rfl
                  subst hr9
                  have hP : va_P D vwCl ((g 0, zInts cA 4 cf) :: (g 1, zInts cA 24 tf) :: (g 2, zInts cA 24 ff) :: (g 3, zInts cA 10 vf) :: (g 4, zInts cA 40 jj) :: (g 5, zInts cA 20 lt) :: (g 6, zInts cA 20 dd) :: cw) H := hP
                  have hD : va_D A ((g 0, zInts cA 4 cf) :: (g 1, zInts cA 24 tf) :: (g 2, zInts cA 24 ff) :: (g 3, zInts cA 10 vf) :: (g 4, zInts cA 40 jj) :: (g 5, zInts cA 20 lt) :: (g 6, zInts cA 20 dd) :: cw) := hD
                  refine lv_iload hx hb dL_works_306 (lv_at hl 0 rfl) ?_
                  refine lv_icmp_ne (tgt := 315) hx hb dL_works_308 (by decide) (fun c_67 => absurd rfl c_67) (fun c_67 => ?_)
                  refine lv_iconst (v := bI (true)) hx hb dL_works_311 (by decide) ?_
                  refine lv_goto (tgt := 316) hx hb dL_works_312 (by decide) ?_
                  exact W.widen (k := 12) (n := 128) (by omega) (by omega) (zr_qz (S := va_W) (post := (fun (r : Int32) (u : va_W) => r = bI true ∧ LV cA ad g u)) (w1 := fun u => u) ((g 0, zInts cA 4 cf) :: (g 1, zInts cA 24 tf) :: (g 2, zInts cA 24 ff) :: (g 3, zInts cA 10 vf) :: (g 4, zInts cA 40 jj) :: (g 5, zInts cA 20 lt) :: (g 6, zInts cA 20 dd) :: cw) hx hb hr hlocks ⟨rfl, ⟨_, _, _, _, _, _, _, _, _, _, _, _, _, _, _, _, _, _, _, _, _, _, _, _, _, _, _, _, _, _, _, _, _, _, _, _, _, _, _, _, cw, rfl, hL, hI, hp⟩⟩ hP hD hS rfl dL_works_316)
              · refine lv_iload hx hb dL_works_121 (lv_at hl 13 rfl) ?_
                refine zb_eq (tgt := 164) hx hb dL_works_123 (by decide) (fun c_68 => Bool.noConfusion c_68) (fun c_68 => ?_)
                refine lv_aload hx hb dL_works_126 (lv_at hl 6 rfl) ?_
                refine lv_iload hx hb dL_works_128 (lv_at hl 14 rfl) ?_
                refine lv_aload hx hb dL_works_130 (lv_at hl 5 rfl) ?_
                refine lv_bipush (v := nI (20)) hx hb dL_works_132 (by decide) ?_
                refine lv_iload hx hb dL_works_134 (lv_at hl 14 rfl) ?_
                refine zo_add hx hb dL_works_136 ?_
                refine va_iald hx hb hZ.1 hP 1 0 rfl rfl (vp_in_nI (show 20 + t < 24 by omega) (by omega)) dL_works_137 ?_
                rw [nI_clamp (show 20 + t < 2 ^ 31 by omega)]
                refine zx_val (y := nI (fc t)) (qa6) ?_
                refine zk_S_i (n := 3) (As := [.ref (g 2), .int (nI (t)), .int (nI (fc t))]) (rest := []) hx hb hml hts hown hZ hP (c_L_start l D cA ((g 0, zInts cA 4 cf) :: (g 1, zInts cA 24 tf) :: (g 2, zInts cA 24 ff) :: (g 3, zInts cA 10 vf) :: (g 4, zInts cA 40 jj) :: (g 5, zInts cA 20 lt) :: (g 6, zInts cA 20 dd) :: cw) 2 (g 2) ff rfl t (fc t) (bo t) y15 y16 (by omega)) gL_works_L_start rfl ⟨rfl, rfl⟩ ⟨by decide +kernel, (Nat.le_of_ble_eq_true rfl), (Nat.le_of_ble_eq_true rfl)⟩ hl.1 rfl (Nat.le_of_ble_eq_true rfl) ⟨(Nat.le_of_ble_eq_true rfl), (Nat.le_of_ble_eq_true rfl)⟩ rfl dL_works_138 (fun r12 hr12 => ?_)
                obtain rfl := show r12 = nI (bo t (fc t)) from hr12
                refine lv_iload hx hb dL_works_141 (lv_at hl 0 rfl) ?_
                refine zo_add hx hb dL_works_143 ?_
                refine lv_aload hx hb dL_works_144 (lv_at hl 5 rfl) ?_
                refine lv_iload hx hb dL_works_146 (lv_at hl 14 rfl) ?_
                refine va_iald hx hb hZ.1 hP 1 0 rfl rfl (vp_in_nI (show t < 24 by omega) (by omega)) dL_works_148 ?_
                rw [nI_clamp (show t < 2 ^ 31 by omega)]
                refine zx_val (y := nI (tr t)) (qa1) ?_
                refine lv_aload hx hb dL_works_149 (lv_at hl 5 rfl) ?_
                refine lv_iconst (v := nI (4)) hx hb dL_works_151 (by decide) ?_
                refine lv_iload hx hb dL_works_152 (lv_at hl 14 rfl) ?_
                refine zo_add hx hb dL_works_154 ?_
                refine va_iald hx hb hZ.1 hP 1 0 rfl rfl (vp_in_nI (show 4 + t < 24 by omega) (by omega)) dL_works_155 ?_
                rw [nI_clamp (show 4 + t < 2 ^ 31 by omega)]
                refine zx_val (y := nI (le t)) (qa2) ?_
                refine zo_mul hx hb dL_works_156 ?_
                refine zc_gt (tgt := 164) hx hb (by omega) (by omega) dL_works_157 (by decide) (fun c_69 => False.elim (by omega)) (fun c_69 => ?_)
                refine lv_iconst (v := bI (true)) hx hb dL_works_160 (by decide) ?_
                refine lv_goto (tgt := 165) hx hb dL_works_161 (by decide) ?_
                refine lv_istore (lv' := [(15, .int (bI (true))), (14, .int (nI (bl))), (0, .ref (ad 0)), (1, .int (nI (kd))), (2, .int (y)), (3, .ref (g 0)), (4, .ref (g 1)), (5, .ref (g 2)), (6, .ref (g 3)), (7, .ref (g 4)), (8, .ref (g 5)), (9, .ref (g 6)), (10, .int (nI (q2))), (11, .int (bI (true))), (12, .int (bI (true))), (13, .int (nI (t)))]) hx hb dL_works_165 hl (by decide) rfl (fun ls hl => ?_)
                refine lv_iload hx hb dL_works_167 (lv_at hl 14 rfl) ?_
                refine zb_eq (tgt := 187) hx hb dL_works_169 (by decide) (fun c_70 => Bool.noConfusion c_70) (fun c_70 => ?_)
                refine lv_aload hx hb dL_works_172 (lv_at hl 6 rfl) ?_
                refine lv_bipush (v := nI (20)) hx hb dL_works_174 (by decide) ?_
                refine lv_iload hx hb dL_works_176 (lv_at hl 15 rfl) ?_
                refine zo_add hx hb dL_works_178 ?_
                refine va_iald hx hb hZ.1 hP 1 0 rfl rfl (vp_in_nI (show 20 + t < 24 by omega) (by omega)) dL_works_179 ?_
                rw [nI_clamp (show 20 + t < 2 ^ 31 by omega)]
                refine zx_val (y := nI (fc t)) (qa6) ?_
                refine lv_bipush (v := nI (6)) hx hb dL_works_180 (by decide) ?_
                refine zc_ne (tgt := 187) hx hb (by omega) (by omega) dL_works_182 (by decide) (fun c_71 => ?_) (fun c_71 => False.elim (by omega))
                refine lv_iload hx hb dL_works_187 (lv_at hl 13 rfl) ?_
                refine zb_ne (tgt := 197) hx hb dL_works_189 (by decide) (fun c_72 => ?_) (fun c_72 => Bool.noConfusion c_72)
                refine lv_iload hx hb dL_works_197 (lv_at hl 1 rfl) ?_
                refine lv_bipush (v := nI (100)) hx hb dL_works_199 (by decide) ?_
                refine zc_le (tgt := 209) hx hb (by omega) (by omega) dL_works_201 (by decide) (fun c_73 => ?_) (fun c_73 => False.elim (by omega))
                refine lv_iload hx hb dL_works_209 (lv_at hl 14 rfl) ?_
                refine zb_eq (tgt := 235) hx hb dL_works_211 (by decide) (fun c_74 => Bool.noConfusion c_74) (fun c_74 => ?_)
                refine lv_aload hx hb dL_works_214 (lv_at hl 8 rfl) ?_
                refine lv_iconst (v := nI (4)) hx hb dL_works_216 (by decide) ?_
                refine lv_iload hx hb dL_works_217 (lv_at hl 12 rfl) ?_
                refine zo_add hx hb dL_works_219 ?_
                refine va_iald hx hb hZ.1 hP 3 0 rfl rfl (vp_in_nI (show 4 + q2 < 10 by omega) (by omega)) dL_works_220 ?_
                rw [nI_clamp (show 4 + q2 < 2 ^ 31 by omega)]
                refine zx_val (y := nI (ct q2)) (qv3) ?_
                refine lv_bipush (v := nI (12)) hx hb dL_works_221 (by decide) ?_
                refine zc_ge (tgt := 235) hx hb (by omega) (by omega) dL_works_223 (by decide) (fun c_75 => ?_) (fun c_75 => False.elim (by omega))
                refine lv_bipush (v := (-103)) hx hb dL_works_235 (by decide) ?_
                refine lv_istore (lv' := [(16, .int ((-103))), (15, .int (bI (true))), (14, .int (nI (bl))), (0, .ref (ad 0)), (1, .int (nI (kd))), (2, .int (y)), (3, .ref (g 0)), (4, .ref (g 1)), (5, .ref (g 2)), (6, .ref (g 3)), (7, .ref (g 4)), (8, .ref (g 5)), (9, .ref (g 6)), (10, .int (nI (q2))), (11, .int (bI (true))), (12, .int (bI (true))), (13, .int (nI (t)))]) hx hb dL_works_237 hl (by decide) rfl (fun ls hl => ?_)
                refine lv_iload hx hb dL_works_239 (lv_at hl 0 rfl) ?_
                refine lv_if_ne (tgt := 298) hx hb dL_works_241 (by decide) (fun c_76 => ?_) (fun c_76 => absurd c_76 (by decide))
                refine lv_aload_n hx hb dL_works_298 rfl (lv_at hl 3 rfl) ?_
                refine lv_iload hx hb dL_works_299 (lv_at hl 13 rfl) ?_
                refine lv_iload hx hb dL_works_301 (lv_at hl 2 rfl) ?_
                refine ze_H_i (n := 3) (mc := 4) (ms := 24) (ws := cw) (es := [(g 0, zInts cA 4 cf), (g 1, zInts cA 24 tf), (g 2, zInts cA 24 ff), (g 3, zInts cA 10 vf), (g 4, zInts cA 40 jj), (g 5, zInts cA 20 lt), (g 6, zInts cA 20 dd)]) (As := [.ref (ad 0), .int (nI (q2)), .int (nI (bl))]) (rest := []) hx hb hml hts hown hZ hX hN [0, 1, 2, 3, 4, 5, 6] rfl rfl hP hD hS hA (c_L_written l D cA _ cw (ad 0) _ l0 _ _ _ _ (k3 (ix (nI (q2)) nd) (rg (nI (bl)) 1 100) (fun j b => match hd j with | none => false | some t => decide (ct j < 12) && decide (fc t < 10 ∧ bo t (fc t) + b ≤ tr t * le t))) (nI (q2)) (nI (bl)) (fun sz9 => c_X4_write l hlt D cA sz9 cw ad T Bd E PT PB PE n tr le sl mo la fc bo nd mk ck ct hd pq nj fw jf dl dn oc s8 s9 s10 s11 s12 hL hI (nI (q2)) (nI (bl))) (fun _ _ h => h)) gL_works_L_written rfl ⟨rfl, rfl⟩ ⟨by decide +kernel, (Nat.le_of_ble_eq_true rfl), (Nat.le_of_ble_eq_true rfl)⟩ hl.1 rfl (Nat.le_of_ble_eq_true rfl) ⟨(Nat.le_of_ble_eq_true rfl), (Nat.le_of_ble_eq_true rfl)⟩ rfl dL_works_303 (fun r9 u9 H locs hp9 hP hD hS hz => ?_)
                rcases u9 with ⟨j9, t9, P9, b9, w1⟩ | u9
                · dsimp only [zwP] at hp9
                  obtain ⟨hjn, hv0, hb1, hb2, hv1, hht9, hpq9, hP16, hct9, hfc9, hfit9, hr9, hkp, hL1⟩ := hp9
                  have e9 := (nI_eq (by omega) (by omega)).mp hv0
                  rw [← e9] at hct9; omega
                · dsimp only [zwP] at hp9
                  obtain ⟨hr9, hK9, E9, hE9⟩ := hp9
                  have hr9 : r9 = (-103) := by rw [hr9, show (k3 (ix (nI (q2)) nd) (rg (nI (bl)) 1 100) (fun j b => match hd j with | none => false | some t => decide (ct j < 12) && decide (fc t < 10 ∧ bo t (fc t) + b ≤ tr t * le t))) = 3 from k3_3 (ix_in (by omega) hdn) (rg_in (by omega) (by omega) (by omega)) (by rw [hhd]; show (decide (ct q2 < 12) && decide (fc t < 10 ∧ bo t (fc t) + bl ≤ tr t * le t)) = false; rw [decide_eq_false (p := ct q2 < 12) (by omega)]; rfl)]; rfl
                  subst hr9
                  have hP : va_P D vwCl ((g 0, zInts cA 4 cf) :: (g 1, zInts cA 24 tf) :: (g 2, zInts cA 24 ff) :: (g 3, zInts cA 10 vf) :: (g 4, zInts cA 40 jj) :: (g 5, zInts cA 20 lt) :: (g 6, zInts cA 20 dd) :: cw) H := hP
                  have hD : va_D A ((g 0, zInts cA 4 cf) :: (g 1, zInts cA 24 tf) :: (g 2, zInts cA 24 ff) :: (g 3, zInts cA 10 vf) :: (g 4, zInts cA 40 jj) :: (g 5, zInts cA 20 lt) :: (g 6, zInts cA 20 dd) :: cw) := hD
                  refine lv_iload hx hb dL_works_306 (lv_at hl 0 rfl) ?_
                  refine lv_icmp_ne (tgt := 315) hx hb dL_works_308 (by decide) (fun c_77 => absurd rfl c_77) (fun c_77 => ?_)
                  refine lv_iconst (v := bI (true)) hx hb dL_works_311 (by decide) ?_
                  refine lv_goto (tgt := 316) hx hb dL_works_312 (by decide) ?_
                  exact W.widen (k := 12) (n := 128) (by omega) (by omega) (zr_qz (S := va_W) (post := (fun (r : Int32) (u : va_W) => r = bI true ∧ LV cA ad g u)) (w1 := fun u => u) ((g 0, zInts cA 4 cf) :: (g 1, zInts cA 24 tf) :: (g 2, zInts cA 24 ff) :: (g 3, zInts cA 10 vf) :: (g 4, zInts cA 40 jj) :: (g 5, zInts cA 20 lt) :: (g 6, zInts cA 20 dd) :: cw) hx hb hr hlocks ⟨rfl, ⟨_, _, _, _, _, _, _, _, _, _, _, _, _, _, _, _, _, _, _, _, _, _, _, _, _, _, _, _, _, _, _, _, _, _, _, _, _, _, _, _, cw, rfl, hL, hI, hp⟩⟩ hP hD hS rfl dL_works_316)
              · refine lv_iload hx hb dL_works_121 (lv_at hl 13 rfl) ?_
                refine zb_eq (tgt := 164) hx hb dL_works_123 (by decide) (fun c_78 => Bool.noConfusion c_78) (fun c_78 => ?_)
                refine lv_aload hx hb dL_works_126 (lv_at hl 6 rfl) ?_
                refine lv_iload hx hb dL_works_128 (lv_at hl 14 rfl) ?_
                refine lv_aload hx hb dL_works_130 (lv_at hl 5 rfl) ?_
                refine lv_bipush (v := nI (20)) hx hb dL_works_132 (by decide) ?_
                refine lv_iload hx hb dL_works_134 (lv_at hl 14 rfl) ?_
                refine zo_add hx hb dL_works_136 ?_
                refine va_iald hx hb hZ.1 hP 1 0 rfl rfl (vp_in_nI (show 20 + t < 24 by omega) (by omega)) dL_works_137 ?_
                rw [nI_clamp (show 20 + t < 2 ^ 31 by omega)]
                refine zx_val (y := nI (fc t)) (qa6) ?_
                refine zk_S_i (n := 3) (As := [.ref (g 2), .int (nI (t)), .int (nI (fc t))]) (rest := []) hx hb hml hts hown hZ hP (c_L_start l D cA ((g 0, zInts cA 4 cf) :: (g 1, zInts cA 24 tf) :: (g 2, zInts cA 24 ff) :: (g 3, zInts cA 10 vf) :: (g 4, zInts cA 40 jj) :: (g 5, zInts cA 20 lt) :: (g 6, zInts cA 20 dd) :: cw) 2 (g 2) ff rfl t (fc t) (bo t) y15 y16 (by omega)) gL_works_L_start rfl ⟨rfl, rfl⟩ ⟨by decide +kernel, (Nat.le_of_ble_eq_true rfl), (Nat.le_of_ble_eq_true rfl)⟩ hl.1 rfl (Nat.le_of_ble_eq_true rfl) ⟨(Nat.le_of_ble_eq_true rfl), (Nat.le_of_ble_eq_true rfl)⟩ rfl dL_works_138 (fun r13 hr13 => ?_)
                obtain rfl := show r13 = nI (bo t (fc t)) from hr13
                refine lv_iload hx hb dL_works_141 (lv_at hl 0 rfl) ?_
                refine zo_add hx hb dL_works_143 ?_
                refine lv_aload hx hb dL_works_144 (lv_at hl 5 rfl) ?_
                refine lv_iload hx hb dL_works_146 (lv_at hl 14 rfl) ?_
                refine va_iald hx hb hZ.1 hP 1 0 rfl rfl (vp_in_nI (show t < 24 by omega) (by omega)) dL_works_148 ?_
                rw [nI_clamp (show t < 2 ^ 31 by omega)]
                refine zx_val (y := nI (tr t)) (qa1) ?_
                refine lv_aload hx hb dL_works_149 (lv_at hl 5 rfl) ?_
                refine lv_iconst (v := nI (4)) hx hb dL_works_151 (by decide) ?_
                refine lv_iload hx hb dL_works_152 (lv_at hl 14 rfl) ?_
                refine zo_add hx hb dL_works_154 ?_
                refine va_iald hx hb hZ.1 hP 1 0 rfl rfl (vp_in_nI (show 4 + t < 24 by omega) (by omega)) dL_works_155 ?_
                rw [nI_clamp (show 4 + t < 2 ^ 31 by omega)]
                refine zx_val (y := nI (le t)) (qa2) ?_
                refine zo_mul hx hb dL_works_156 ?_
                refine zc_gt (tgt := 164) hx hb (by omega) (by omega) dL_works_157 (by decide) (fun c_79 => False.elim (by omega)) (fun c_79 => ?_)
                refine lv_iconst (v := bI (true)) hx hb dL_works_160 (by decide) ?_
                refine lv_goto (tgt := 165) hx hb dL_works_161 (by decide) ?_
                refine lv_istore (lv' := [(15, .int (bI (true))), (14, .int (nI (bl))), (0, .ref (ad 0)), (1, .int (nI (kd))), (2, .int (y)), (3, .ref (g 0)), (4, .ref (g 1)), (5, .ref (g 2)), (6, .ref (g 3)), (7, .ref (g 4)), (8, .ref (g 5)), (9, .ref (g 6)), (10, .int (nI (q2))), (11, .int (bI (true))), (12, .int (bI (true))), (13, .int (nI (t)))]) hx hb dL_works_165 hl (by decide) rfl (fun ls hl => ?_)
                refine lv_iload hx hb dL_works_167 (lv_at hl 14 rfl) ?_
                refine zb_eq (tgt := 187) hx hb dL_works_169 (by decide) (fun c_80 => Bool.noConfusion c_80) (fun c_80 => ?_)
                refine lv_aload hx hb dL_works_172 (lv_at hl 6 rfl) ?_
                refine lv_bipush (v := nI (20)) hx hb dL_works_174 (by decide) ?_
                refine lv_iload hx hb dL_works_176 (lv_at hl 15 rfl) ?_
                refine zo_add hx hb dL_works_178 ?_
                refine va_iald hx hb hZ.1 hP 1 0 rfl rfl (vp_in_nI (show 20 + t < 24 by omega) (by omega)) dL_works_179 ?_
                rw [nI_clamp (show 20 + t < 2 ^ 31 by omega)]
                refine zx_val (y := nI (fc t)) (qa6) ?_
                refine lv_bipush (v := nI (6)) hx hb dL_works_180 (by decide) ?_
                refine zc_ne (tgt := 187) hx hb (by omega) (by omega) dL_works_182 (by decide) (fun c_81 => ?_) (fun c_81 => False.elim (by omega))
                refine lv_iload hx hb dL_works_187 (lv_at hl 13 rfl) ?_
                refine zb_ne (tgt := 197) hx hb dL_works_189 (by decide) (fun c_82 => ?_) (fun c_82 => Bool.noConfusion c_82)
                refine lv_iload hx hb dL_works_197 (lv_at hl 1 rfl) ?_
                refine lv_bipush (v := nI (100)) hx hb dL_works_199 (by decide) ?_
                refine zc_le (tgt := 209) hx hb (by omega) (by omega) dL_works_201 (by decide) (fun c_83 => ?_) (fun c_83 => False.elim (by omega))
                refine lv_iload hx hb dL_works_209 (lv_at hl 14 rfl) ?_
                refine zb_eq (tgt := 235) hx hb dL_works_211 (by decide) (fun c_84 => Bool.noConfusion c_84) (fun c_84 => ?_)
                refine lv_aload hx hb dL_works_214 (lv_at hl 8 rfl) ?_
                refine lv_iconst (v := nI (4)) hx hb dL_works_216 (by decide) ?_
                refine lv_iload hx hb dL_works_217 (lv_at hl 12 rfl) ?_
                refine zo_add hx hb dL_works_219 ?_
                refine va_iald hx hb hZ.1 hP 3 0 rfl rfl (vp_in_nI (show 4 + q2 < 10 by omega) (by omega)) dL_works_220 ?_
                rw [nI_clamp (show 4 + q2 < 2 ^ 31 by omega)]
                refine zx_val (y := nI (ct q2)) (qv3) ?_
                refine lv_bipush (v := nI (12)) hx hb dL_works_221 (by decide) ?_
                refine zc_ge (tgt := 235) hx hb (by omega) (by omega) dL_works_223 (by decide) (fun c_85 => False.elim (by omega)) (fun c_85 => ?_)
                refine lv_iload hx hb dL_works_226 (lv_at hl 0 rfl) ?_
                refine zb_eq (tgt := 235) hx hb dL_works_228 (by decide) (fun c_86 => Bool.noConfusion c_86) (fun c_86 => ?_)
                refine lv_iconst (v := nI (0)) hx hb dL_works_231 (by decide) ?_
                refine lv_goto (tgt := 237) hx hb dL_works_232 (by decide) ?_
                refine lv_istore (lv' := [(16, .int (nI (0))), (15, .int (bI (true))), (14, .int (nI (bl))), (0, .ref (ad 0)), (1, .int (nI (kd))), (2, .int (y)), (3, .ref (g 0)), (4, .ref (g 1)), (5, .ref (g 2)), (6, .ref (g 3)), (7, .ref (g 4)), (8, .ref (g 5)), (9, .ref (g 6)), (10, .int (nI (q2))), (11, .int (bI (true))), (12, .int (bI (true))), (13, .int (nI (t)))]) hx hb dL_works_237 hl (by decide) rfl (fun ls hl => ?_)
                refine lv_iload hx hb dL_works_239 (lv_at hl 0 rfl) ?_
                refine zf_ne (tgt := 298) hx hb (by omega) dL_works_241 (by decide) (fun c_87 => False.elim (by omega)) (fun c_87 => ?_)
                obtain ⟨hI3, hp3⟩ := J_file (t := t) (b := bl) hI hp htn hk1 (by omega) (by omega)
                obtain ⟨hI2, hp2⟩ := J_go (j := q2) (t := t) (q9 := bo t (fc t) + bl) (d9 := ct q2 + 1) (c9 := ck q2 + nI (wayT (zpa (mk q2)) (zsp (mk q2)) (tr t) (le t) Pq (bo t (fc t)) + 3 * bl)) hI3 hp3 hdn hhd (by omega) (by omega)
                obtain ⟨z1, z2, z3, z4, z5, z6, z7, z8, z9, z10, z11, z12, z13, z14, z15, z16, z17⟩ := fb_of hI3 hp3 hdn hhd hPq1 hPq2
                refine lv_aload hx hb dL_works_244 (lv_at hl 8 rfl) ?_
                refine lv_bipush (v := nI (6)) hx hb dL_works_246 (by decide) ?_
                refine lv_iload hx hb dL_works_248 (lv_at hl 16 rfl) ?_
                refine zo_mul hx hb dL_works_250 ?_
                refine lv_aload hx hb dL_works_251 (lv_at hl 7 rfl) ?_
                refine lv_bipush (v := nI (20)) hx hb dL_works_253 (by decide) ?_
                refine lv_iload hx hb dL_works_255 (lv_at hl 16 rfl) ?_
                refine zo_add hx hb dL_works_257 ?_
                refine va_iald hx hb hZ.1 hP 1 0 rfl rfl (vp_in_nI (show 20 + t < 24 by omega) (by omega)) dL_works_258 ?_
                rw [nI_clamp (show 20 + t < 2 ^ 31 by omega)]
                refine zx_val (y := nI (fc t)) (qa6) ?_
                refine zo_add hx hb dL_works_259 ?_
                refine lv_iload hx hb dL_works_260 (lv_at hl 2 rfl) ?_
                refine va_iast hx hb hZ.1 hP hD hS 2 0 rfl rfl (vp_in_nI (show (6 * t) + (fc t) < 24 by omega) (by omega)) dL_works_262 (fun H locs hP hD hS => ?_)
                rw [nI_clamp (show (6 * t) + (fc t) < 2 ^ 31 by omega)] at hP hD
                have hP : va_P D vwCl ((g 0, zInts cA 4 cf) :: (g 1, zInts cA 24 tf) :: (g 2, zInts cA 24 (upd ff ((6 * t) + (fc t)) (nI (bl)))) :: (g 3, zInts cA 10 vf) :: (g 4, zInts cA 40 jj) :: (g 5, zInts cA 20 lt) :: (g 6, zInts cA 20 dd) :: cw) H := hP
                have hD : va_D A ((g 0, zInts cA 4 cf) :: (g 1, zInts cA 24 tf) :: (g 2, zInts cA 24 (upd ff ((6 * t) + (fc t)) (nI (bl)))) :: (g 3, zInts cA 10 vf) :: (g 4, zInts cA 40 jj) :: (g 5, zInts cA 20 lt) :: (g 6, zInts cA 20 dd) :: cw) := hD
                refine lv_aload hx hb dL_works_263 (lv_at hl 7 rfl) ?_
                refine lv_bipush (v := nI (20)) hx hb dL_works_265 (by decide) ?_
                refine lv_iload hx hb dL_works_267 (lv_at hl 16 rfl) ?_
                refine zo_add hx hb dL_works_269 ?_
                refine lv_dup2_11 hx hb dL_works_270 rfl rfl ?_
                refine va_iald hx hb hZ.1 hP 1 0 rfl rfl (vp_in_nI (show 20 + t < 24 by omega) (by omega)) dL_works_271 ?_
                rw [nI_clamp (show 20 + t < 2 ^ 31 by omega)]
                refine zx_val (y := nI (fc t)) (qa6) ?_
                refine lv_iconst (v := nI (1)) hx hb dL_works_272 (by decide) ?_
                refine zo_add hx hb dL_works_273 ?_
                refine va_iast hx hb hZ.1 hP hD hS 1 0 rfl rfl (vp_in_nI (show 20 + t < 24 by omega) (by omega)) dL_works_274 (fun H locs hP hD hS => ?_)
                rw [nI_clamp (show 20 + t < 2 ^ 31 by omega)] at hP hD
                have hP : va_P D vwCl ((g 0, zInts cA 4 cf) :: (g 1, zInts cA 24 (upd tf (20 + t) (nI ((fc t) + 1)))) :: (g 2, zInts cA 24 (upd ff ((6 * t) + (fc t)) (nI (bl)))) :: (g 3, zInts cA 10 vf) :: (g 4, zInts cA 40 jj) :: (g 5, zInts cA 20 lt) :: (g 6, zInts cA 20 dd) :: cw) H := hP
                have hD : va_D A ((g 0, zInts cA 4 cf) :: (g 1, zInts cA 24 (upd tf (20 + t) (nI ((fc t) + 1)))) :: (g 2, zInts cA 24 (upd ff ((6 * t) + (fc t)) (nI (bl)))) :: (g 3, zInts cA 10 vf) :: (g 4, zInts cA 40 jj) :: (g 5, zInts cA 20 lt) :: (g 6, zInts cA 20 dd) :: cw) := hD
                refine lv_aload hx hb dL_works_275 (lv_at hl 7 rfl) ?_
                refine lv_aload hx hb dL_works_277 (lv_at hl 8 rfl) ?_
                refine lv_aload hx hb dL_works_279 (lv_at hl 9 rfl) ?_
                refine lv_iload hx hb dL_works_281 (lv_at hl 13 rfl) ?_
                refine lv_aload hx hb dL_works_283 (lv_at hl 7 rfl) ?_
                refine lv_bipush (v := nI (20)) hx hb dL_works_285 (by decide) ?_
                refine lv_iload hx hb dL_works_287 (lv_at hl 16 rfl) ?_
                refine zo_add hx hb dL_works_289 ?_
                refine va_iald hx hb hZ.1 hP 1 0 rfl rfl (vp_in_nI (show 20 + t < 24 by omega) (by omega)) dL_works_290 ?_
                rw [nI_clamp (show 20 + t < 2 ^ 31 by omega)]
                refine zx_val (y := nI (fc t + 1)) (pk_us) ?_
                refine lv_iconst (v := nI (1)) hx hb dL_works_291 (by decide) ?_
                refine zo_sub hx hb (by omega) dL_works_292 ?_
                refine zx_val (y := nI (fc t)) (by rw [Nat.add_sub_cancel]) ?_
                refine zw_S_i (n := 5) (mc := 0) (ms := 0) (w1 := fun u : Unit => (g 0, zInts cA 4 cf) :: (g 1, zInts cA 24 (upd tf (20 + t) (nI ((fc t) + 1)))) :: (g 2, zInts cA 24 (upd ff ((6 * t) + (fc t)) (nI (bl)))) :: (g 3, zInts cA 10 (upd (upd (upd vf (2 + q2) (ck q2 + nI (wayT (zpa (mk q2)) (zsp (mk q2)) (tr t) (le t) Pq (bo t (fc t)) + 3 * bl))) (4 + q2) (nI (ct q2 + 1))) (8 + q2) (nI (bo t (fc t) + bl)))) :: (g 4, zInts cA 40 jj) :: (g 5, zInts cA 20 lt) :: (g 6, zInts cA 20 dd) :: cw) (As := [.ref (g 1), .ref (g 2), .ref (g 3), .int (nI (q2)), .int (nI (fc t))]) (rest := []) hx hb hml hts hown hZ hP hD hS hA (c_L_runs2 l D cA _ ((g 0, zInts cA 4 cf) :: (g 1, zInts cA 24 (upd tf (20 + t) (nI ((fc t) + 1)))) :: (g 2, zInts cA 24 (upd ff ((6 * t) + (fc t)) (nI (bl)))) :: (g 3, zInts cA 10 vf) :: (g 4, zInts cA 40 jj) :: (g 5, zInts cA 20 lt) :: (g 6, zInts cA 20 dd) :: cw) 1 (g 1) (upd tf (20 + t) (nI ((fc t) + 1))) rfl 2 (g 2) (upd ff ((6 * t) + (fc t)) (nI (bl))) rfl 3 (g 3) vf rfl q2 t (tr t) (le t) (mk q2) z1 z2 z3 z4 z5 z6 z7 z8 z9 z10 z11 Pq z12 z13 (va_up bo t (va_up (bo t) (fc t + 1) (bo t (fc t) + bl)) t) (va_up fc t (fc t + 1) t) z14 z15 z16 z17 (fc t) (by rw [va_up_self]; omega) (by decide) (by decide) (c9 := (ck q2 + nI (wayT (zpa (mk q2)) (zsp (mk q2)) (tr t) (le t) Pq (bo t (fc t)) + 3 * bl))) (d9 := (ct q2 + 1)) (q9 := (bo t (fc t) + bl)) (lg9 := (wayT (zpa (mk q2)) (zsp (mk q2)) (tr t) (le t) Pq (bo t (fc t)) + 3 * bl)) (by rw [qv2]) (by rw [qv3, nI_add]) (by rw [va_up_self, va_up_self]) leg_file) gL_works_L_runs rfl ⟨rfl, rfl⟩ ⟨by decide +kernel, (Nat.le_of_ble_eq_true rfl), (Nat.le_of_ble_eq_true rfl)⟩ hl.1 rfl (Nat.le_of_ble_eq_true rfl) ⟨(Nat.le_of_ble_eq_true rfl), (Nat.le_of_ble_eq_true rfl)⟩ rfl dL_works_293 (fun r9 u9 H locs hp9 hP hD hS hz => ?_)
                obtain rfl := show r9 = nI (wayT (zpa (mk q2)) (zsp (mk q2)) (tr t) (le t) Pq (bo t (fc t)) + 3 * bl) from hp9
                have hP : va_P D vwCl ((g 0, zInts cA 4 cf) :: (g 1, zInts cA 24 (upd tf (20 + t) (nI ((fc t) + 1)))) :: (g 2, zInts cA 24 (upd ff ((6 * t) + (fc t)) (nI (bl)))) :: (g 3, zInts cA 10 (upd (upd (upd vf (2 + q2) (ck q2 + nI (wayT (zpa (mk q2)) (zsp (mk q2)) (tr t) (le t) Pq (bo t (fc t)) + 3 * bl))) (4 + q2) (nI (ct q2 + 1))) (8 + q2) (nI (bo t (fc t) + bl)))) :: (g 4, zInts cA 40 jj) :: (g 5, zInts cA 20 lt) :: (g 6, zInts cA 20 dd) :: cw) H := hP
                have hD : va_D A ((g 0, zInts cA 4 cf) :: (g 1, zInts cA 24 (upd tf (20 + t) (nI ((fc t) + 1)))) :: (g 2, zInts cA 24 (upd ff ((6 * t) + (fc t)) (nI (bl)))) :: (g 3, zInts cA 10 (upd (upd (upd vf (2 + q2) (ck q2 + nI (wayT (zpa (mk q2)) (zsp (mk q2)) (tr t) (le t) Pq (bo t (fc t)) + 3 * bl))) (4 + q2) (nI (ct q2 + 1))) (8 + q2) (nI (bo t (fc t) + bl)))) :: (g 4, zInts cA 40 jj) :: (g 5, zInts cA 20 lt) :: (g 6, zInts cA 20 dd) :: cw) := hD
                refine lv_istore (lv' := [(16, .int (nI (wayT (zpa (mk q2)) (zsp (mk q2)) (tr t) (le t) Pq (bo t (fc t)) + 3 * bl))), (15, .int (bI (true))), (14, .int (nI (bl))), (0, .ref (ad 0)), (1, .int (nI (kd))), (2, .int (y)), (3, .ref (g 0)), (4, .ref (g 1)), (5, .ref (g 2)), (6, .ref (g 3)), (7, .ref (g 4)), (8, .ref (g 5)), (9, .ref (g 6)), (10, .int (nI (q2))), (11, .int (bI (true))), (12, .int (bI (true))), (13, .int (nI (t)))]) hx hb dL_works_296 hl (by decide) rfl (fun ls hl => ?_)
                refine lv_aload_n hx hb dL_works_298 rfl (lv_at hl 3 rfl) ?_
                refine lv_iload hx hb dL_works_299 (lv_at hl 13 rfl) ?_
                refine lv_iload hx hb dL_works_301 (lv_at hl 2 rfl) ?_
                refine ze_H_i (n := 3) (mc := 4) (ms := 24) (ws := cw) (es := [(g 0, zInts cA 4 cf), (g 1, zInts cA 24 (upd tf (20 + t) (nI ((fc t) + 1)))), (g 2, zInts cA 24 (upd ff ((6 * t) + (fc t)) (nI (bl)))), (g 3, zInts cA 10 (upd (upd (upd vf (2 + q2) (ck q2 + nI (wayT (zpa (mk q2)) (zsp (mk q2)) (tr t) (le t) Pq (bo t (fc t)) + 3 * bl))) (4 + q2) (nI (ct q2 + 1))) (8 + q2) (nI (bo t (fc t) + bl)))), (g 4, zInts cA 40 jj), (g 5, zInts cA 20 lt), (g 6, zInts cA 20 dd)]) (As := [.ref (ad 0), .int (nI (q2)), .int (nI (bl))]) (rest := []) hx hb hml hts hown hZ hX hN [0, 1, 2, 3, 4, 5, 6] rfl rfl hP hD hS hA (c_L_written l D cA _ cw (ad 0) _ l0 _ _ _ _ (k3 (ix (nI (q2)) nd) (rg (nI (bl)) 1 100) (fun j b => match hd j with | none => false | some t => decide (ct j < 12) && decide (fc t < 10 ∧ bo t (fc t) + b ≤ tr t * le t))) (nI (q2)) (nI (bl)) (fun sz9 => c_X4_write l hlt D cA sz9 cw ad T Bd E PT PB PE n tr le sl mo la fc bo nd mk ck ct hd pq nj fw jf dl dn oc s8 s9 s10 s11 s12 hL hI (nI (q2)) (nI (bl))) (fun _ _ h => h)) gL_works_L_written rfl ⟨rfl, rfl⟩ ⟨by decide +kernel, (Nat.le_of_ble_eq_true rfl), (Nat.le_of_ble_eq_true rfl)⟩ hl.1 rfl (Nat.le_of_ble_eq_true rfl) ⟨(Nat.le_of_ble_eq_true rfl), (Nat.le_of_ble_eq_true rfl)⟩ rfl dL_works_303 (fun r9 u9 H locs hp9 hP hD hS hz => ?_)
                rcases u9 with ⟨j9, t9, P9, b9, w1⟩ | u9
                · dsimp only [zwP] at hp9
                  obtain ⟨hjn, hv0, hb1, hb2, hv1, hht9, hpq9, hP16, hct9, hfc9, hfit9, hr9, hkp, hL1⟩ := hp9
                  have e9 := (nI_eq (by omega) (by omega)).mp hv0
                  have e8 := (nI_eq (by omega) (by omega)).mp hv1
                  subst e9; subst e8
                  have e7 : t = t9 := Option.some.inj (hhd.symm.trans hht9)
                  subst e7
                  have e6 : Pq = P9 := (nI_eq (by omega) (by omega)).mp (hPq1.symm.trans hpq9)
                  subst e6; subst hr9
                  have hP : va_P D vwCl ((g 0, zInts cA 4 cf) :: (g 1, zInts cA 24 (upd tf (20 + t) (nI ((fc t) + 1)))) :: (g 2, zInts cA 24 (upd ff ((6 * t) + (fc t)) (nI (bl)))) :: (g 3, zInts cA 10 (upd (upd (upd vf (2 + q2) (ck q2 + nI (wayT (zpa (mk q2)) (zsp (mk q2)) (tr t) (le t) Pq (bo t (fc t)) + 3 * bl))) (4 + q2) (nI (ct q2 + 1))) (8 + q2) (nI (bo t (fc t) + bl)))) :: (g 4, zInts cA 40 jj) :: (g 5, zInts cA 20 lt) :: (g 6, zInts cA 20 dd) :: w1) H := hP
                  have hD : va_D A ((g 0, zInts cA 4 cf) :: (g 1, zInts cA 24 (upd tf (20 + t) (nI ((fc t) + 1)))) :: (g 2, zInts cA 24 (upd ff ((6 * t) + (fc t)) (nI (bl)))) :: (g 3, zInts cA 10 (upd (upd (upd vf (2 + q2) (ck q2 + nI (wayT (zpa (mk q2)) (zsp (mk q2)) (tr t) (le t) Pq (bo t (fc t)) + 3 * bl))) (4 + q2) (nI (ct q2 + 1))) (8 + q2) (nI (bo t (fc t) + bl)))) :: (g 4, zInts cA 40 jj) :: (g 5, zInts cA 20 lt) :: (g 6, zInts cA 20 dd) :: w1) := hD
                  refine lv_iload hx hb dL_works_306 (lv_at hl 0 rfl) ?_
                  refine lv_icmp_ne (tgt := 315) hx hb dL_works_308 (by decide) (fun c_88 => absurd rfl c_88) (fun c_88 => ?_)
                  refine lv_iconst (v := bI (true)) hx hb dL_works_311 (by decide) ?_
                  refine lv_goto (tgt := 316) hx hb dL_works_312 (by decide) ?_
                  exact W.widen (k := 12) (n := 128) (by omega) (by omega) (zr_qz (S := va_W) (post := (fun (r : Int32) (u : va_W) => r = bI true ∧ LV cA ad g u)) (w1 := fun u => u) ((g 0, zInts cA 4 cf) :: (g 1, zInts cA 24 (upd tf (20 + t) (nI ((fc t) + 1)))) :: (g 2, zInts cA 24 (upd ff ((6 * t) + (fc t)) (nI (bl)))) :: (g 3, zInts cA 10 (upd (upd (upd vf (2 + q2) (ck q2 + nI (wayT (zpa (mk q2)) (zsp (mk q2)) (tr t) (le t) Pq (bo t (fc t)) + 3 * bl))) (4 + q2) (nI (ct q2 + 1))) (8 + q2) (nI (bo t (fc t) + bl)))) :: (g 4, zInts cA 40 jj) :: (g 5, zInts cA 20 lt) :: (g 6, zInts cA 20 dd) :: w1) hx hb hr hlocks ⟨rfl, ⟨_, _, _, _, _, _, _, _, _, _, _, _, _, _, _, _, _, _, _, _, _, _, _, _, _, _, _, _, _, _, _, _, _, _, _, _, _, _, _, _, w1, rfl, hL1, hI2, hp2⟩⟩ hP hD hS rfl dL_works_316)
                · exact absurd (show (k3 (ix (nI (q2)) nd) (rg (nI (bl)) 1 100) (fun j b => match hd j with | none => false | some t => decide (ct j < 12) && decide (fc t < 10 ∧ bo t (fc t) + b ≤ tr t * le t))) = 0 from k3_0 (ix_in (by omega) hdn) (rg_in (by omega) (by omega) (by omega)) (by rw [hhd]; show (decide (ct q2 < 12) && decide (fc t < 10 ∧ bo t (fc t) + bl ≤ tr t * le t)) = true; rw [decide_eq_true (p := ct q2 < 12) (by omega), decide_eq_true (p := fc t < 10 ∧ bo t (fc t) + bl ≤ tr t * le t) (by omega)]; rfl)) hp9.2.1
          · skip
            refine zf_ne (tgt := 111) hx hb (by omega) dL_works_103 (by decide) (fun c_89 => ?_) (fun c_89 => ?_)
            · refine lv_iconst (v := nI (1)) hx hb dL_works_111 (by decide) ?_
              refine lv_iload_n hx hb dL_works_112 rfl (lv_at hl 5 rfl) ?_
              refine lv_bipush (v := nI (7)) hx hb dL_works_113 (by decide) ?_
              refine zk_S_i (n := 2) (As := [.int (y), .int (nI (7))]) (rest := [.int (nI (1))]) hx hb hml hts hown hZ hP (c_L_some l D cA _ y 7 (by omega) (by omega)) gL_works_L_some rfl ⟨rfl, rfl⟩ ⟨by decide +kernel, (Nat.le_of_ble_eq_true rfl), (Nat.le_of_ble_eq_true rfl)⟩ hl.1 rfl (Nat.le_of_ble_eq_true rfl) ⟨(Nat.le_of_ble_eq_true rfl), (Nat.le_of_ble_eq_true rfl)⟩ rfl dL_works_115 (fun r14 hr14 => ?_)
              obtain ⟨q14, hq14, hb14⟩ : ∃ z, r14 = nI z ∧ z < 7 := ⟨_, hr14, sm_lt (by omega)⟩
              subst hq14
              refine zo_add hx hb dL_works_118 ?_
              exact J119 (1 + q14) ls ⟨lv_sub hl [3, 4, 5, 6, 7, 8, 9, 10, 11, 12, 13, 2, 1, 0] rfl, by omega⟩
            · refine lv_bipush (v := nI (101)) hx hb dL_works_106 (by decide) ?_
              refine lv_goto (tgt := 119) hx hb dL_works_108 (by decide) ?_
              exact J119 (101) ls ⟨lv_sub hl [3, 4, 5, 6, 7, 8, 9, 10, 11, 12, 13, 2, 1, 0] rfl, by omega⟩
      · obtain rfl : bD = false := by rw [hI48]; exact decide_eq_false (Nat.not_lt.mpr hdn)
        refine lv_iload hx hb dL_works_50 (lv_at hl 0 rfl) ?_
        refine zb_eq (tgt := 70) hx hb dL_works_52 (by decide) (fun c_90 => ?_) (fun c_90 => Bool.noConfusion c_90)
        refine lv_iconst (v := bI (false)) hx hb dL_works_70 (by decide) ?_
        refine lv_istore (lv' := [(12, .int (bI (false))), (11, .int (bI (false))), (0, .ref (ad 0)), (1, .int (nI (kd))), (2, .int (y)), (3, .ref (g 0)), (4, .ref (g 1)), (5, .ref (g 2)), (6, .ref (g 3)), (7, .ref (g 4)), (8, .ref (g 5)), (9, .ref (g 6)), (10, .int (nI (q2)))]) hx hb dL_works_71 hl (by decide) rfl (fun ls hl => ?_)
        refine lv_iload hx hb dL_works_73 (lv_at hl 0 rfl) ?_
        refine zb_eq (tgt := 89) hx hb dL_works_75 (by decide) (fun c_91 => ?_) (fun c_91 => Bool.noConfusion c_91)
        refine lv_iconst (v := nI (0)) hx hb dL_works_89 (by decide) ?_
        refine lv_istore (lv' := [(13, .int (nI (0))), (12, .int (bI (false))), (11, .int (bI (false))), (0, .ref (ad 0)), (1, .int (nI (kd))), (2, .int (y)), (3, .ref (g 0)), (4, .ref (g 1)), (5, .ref (g 2)), (6, .ref (g 3)), (7, .ref (g 4)), (8, .ref (g 5)), (9, .ref (g 6)), (10, .int (nI (q2)))]) hx hb dL_works_90 hl (by decide) rfl (fun ls hl => ?_)
        refine lv_iload_n hx hb dL_works_92 rfl (lv_at hl 4 rfl) ?_
        refine lv_iconst (v := nI (3)) hx hb dL_works_93 (by decide) ?_
        refine zc_ge (tgt := 317) hx hb (by omega) (by omega) dL_works_94 (by decide) (fun c_92 => False.elim (by omega)) (fun c_92 => ?_)
        refine lv_iload_n hx hb dL_works_97 rfl (lv_at hl 5 rfl) ?_
        refine lv_bipush (v := nI (40)) hx hb dL_works_98 (by decide) ?_
        refine zk_S_i (n := 2) (As := [.int (y), .int (nI (40))]) (rest := []) hx hb hml hts hown hZ hP (c_L_some l D cA _ y 40 (by omega) (by omega)) gL_works_L_some rfl ⟨rfl, rfl⟩ ⟨by decide +kernel, (Nat.le_of_ble_eq_true rfl), (Nat.le_of_ble_eq_true rfl)⟩ hl.1 rfl (Nat.le_of_ble_eq_true rfl) ⟨(Nat.le_of_ble_eq_true rfl), (Nat.le_of_ble_eq_true rfl)⟩ rfl dL_works_100 (fun r15 hr15 => ?_)
        obtain ⟨q15, hq15, hb15⟩ : ∃ z, r15 = nI z ∧ z < 40 := ⟨_, hr15, sm_lt (by omega)⟩
        subst hq15
        refine z_join (α := Nat) (pc' := 119) (fun v ls => lv_has ls 21 [(0, .ref (ad 0)), (1, .int (nI (kd))), (2, .int (y)), (3, .ref (g 0)), (4, .ref (g 1)), (5, .ref (g 2)), (6, .ref (g 3)), (7, .ref (g 4)), (8, .ref (g 5)), (9, .ref (g 6)), (10, .int (nI (q2))), (11, .int (bI (false))), (12, .int (bI (false))), (13, .int (nI (0)))] ∧ 1 ≤ v ∧ v ≤ 101) (fun v => [.int (nI (v))]) ?_ (fun J119 => ?_)
        · intro bl ls hv
          obtain ⟨hl, hI119⟩ := hv
          have hl : lv_has ls 21 [(0, .ref (ad 0)), (1, .int (nI (kd))), (2, .int (y)), (3, .ref (g 0)), (4, .ref (g 1)), (5, .ref (g 2)), (6, .ref (g 3)), (7, .ref (g 4)), (8, .ref (g 5)), (9, .ref (g 6)), (10, .int (nI (q2))), (11, .int (bI (false))), (12, .int (bI (false))), (13, .int (nI (0)))] := hl
          have hI119 : 1 ≤ bl ∧ bl ≤ 101 := hI119
          refine lv_istore (lv' := [(14, .int (nI (bl))), (0, .ref (ad 0)), (1, .int (nI (kd))), (2, .int (y)), (3, .ref (g 0)), (4, .ref (g 1)), (5, .ref (g 2)), (6, .ref (g 3)), (7, .ref (g 4)), (8, .ref (g 5)), (9, .ref (g 6)), (10, .int (nI (q2))), (11, .int (bI (false))), (12, .int (bI (false))), (13, .int (nI (0)))]) hx hb dL_works_119 hl (by decide) rfl (fun ls hl => ?_)
          refine lv_iload hx hb dL_works_121 (lv_at hl 13 rfl) ?_
          refine zb_eq (tgt := 164) hx hb dL_works_123 (by decide) (fun c_93 => ?_) (fun c_93 => Bool.noConfusion c_93)
          refine lv_iconst (v := bI (false)) hx hb dL_works_164 (by decide) ?_
          refine lv_istore (lv' := [(15, .int (bI (false))), (14, .int (nI (bl))), (0, .ref (ad 0)), (1, .int (nI (kd))), (2, .int (y)), (3, .ref (g 0)), (4, .ref (g 1)), (5, .ref (g 2)), (6, .ref (g 3)), (7, .ref (g 4)), (8, .ref (g 5)), (9, .ref (g 6)), (10, .int (nI (q2))), (11, .int (bI (false))), (12, .int (bI (false))), (13, .int (nI (0)))]) hx hb dL_works_165 hl (by decide) rfl (fun ls hl => ?_)
          refine lv_iload hx hb dL_works_167 (lv_at hl 14 rfl) ?_
          refine zb_eq (tgt := 187) hx hb dL_works_169 (by decide) (fun c_94 => ?_) (fun c_94 => Bool.noConfusion c_94)
          refine lv_iload hx hb dL_works_187 (lv_at hl 13 rfl) ?_
          refine zb_ne (tgt := 197) hx hb dL_works_189 (by decide) (fun c_95 => Bool.noConfusion c_95) (fun c_95 => ?_)
          refine lv_bipush (v := (-101)) hx hb dL_works_192 (by decide) ?_
          refine lv_goto (tgt := 237) hx hb dL_works_194 (by decide) ?_
          refine lv_istore (lv' := [(16, .int ((-101))), (15, .int (bI (false))), (14, .int (nI (bl))), (0, .ref (ad 0)), (1, .int (nI (kd))), (2, .int (y)), (3, .ref (g 0)), (4, .ref (g 1)), (5, .ref (g 2)), (6, .ref (g 3)), (7, .ref (g 4)), (8, .ref (g 5)), (9, .ref (g 6)), (10, .int (nI (q2))), (11, .int (bI (false))), (12, .int (bI (false))), (13, .int (nI (0)))]) hx hb dL_works_237 hl (by decide) rfl (fun ls hl => ?_)
          refine lv_iload hx hb dL_works_239 (lv_at hl 0 rfl) ?_
          refine lv_if_ne (tgt := 298) hx hb dL_works_241 (by decide) (fun c_96 => ?_) (fun c_96 => absurd c_96 (by decide))
          refine lv_aload_n hx hb dL_works_298 rfl (lv_at hl 3 rfl) ?_
          refine lv_iload hx hb dL_works_299 (lv_at hl 13 rfl) ?_
          refine lv_iload hx hb dL_works_301 (lv_at hl 2 rfl) ?_
          refine ze_H_i (n := 3) (mc := 4) (ms := 24) (ws := cw) (es := [(g 0, zInts cA 4 cf), (g 1, zInts cA 24 tf), (g 2, zInts cA 24 ff), (g 3, zInts cA 10 vf), (g 4, zInts cA 40 jj), (g 5, zInts cA 20 lt), (g 6, zInts cA 20 dd)]) (As := [.ref (ad 0), .int (nI (q2)), .int (nI (bl))]) (rest := []) hx hb hml hts hown hZ hX hN [0, 1, 2, 3, 4, 5, 6] rfl rfl hP hD hS hA (c_L_written l D cA _ cw (ad 0) _ l0 _ _ _ _ (k3 (ix (nI (q2)) nd) (rg (nI (bl)) 1 100) (fun j b => match hd j with | none => false | some t => decide (ct j < 12) && decide (fc t < 10 ∧ bo t (fc t) + b ≤ tr t * le t))) (nI (q2)) (nI (bl)) (fun sz9 => c_X4_write l hlt D cA sz9 cw ad T Bd E PT PB PE n tr le sl mo la fc bo nd mk ck ct hd pq nj fw jf dl dn oc s8 s9 s10 s11 s12 hL hI (nI (q2)) (nI (bl))) (fun _ _ h => h)) gL_works_L_written rfl ⟨rfl, rfl⟩ ⟨by decide +kernel, (Nat.le_of_ble_eq_true rfl), (Nat.le_of_ble_eq_true rfl)⟩ hl.1 rfl (Nat.le_of_ble_eq_true rfl) ⟨(Nat.le_of_ble_eq_true rfl), (Nat.le_of_ble_eq_true rfl)⟩ rfl dL_works_303 (fun r9 u9 H locs hp9 hP hD hS hz => ?_)
          rcases u9 with ⟨j9, t9, P9, b9, w1⟩ | u9
          · dsimp only [zwP] at hp9
            obtain ⟨hjn, hv0, hb1, hb2, hv1, hht9, hpq9, hP16, hct9, hfc9, hfit9, hr9, hkp, hL1⟩ := hp9
            have e9 := (nI_eq (by omega) (by omega)).mp hv0
            omega
          · dsimp only [zwP] at hp9
            obtain ⟨hr9, hK9, E9, hE9⟩ := hp9
            have hr9 : r9 = (-101) := by rw [hr9, show (k3 (ix (nI (q2)) nd) (rg (nI (bl)) 1 100) (fun j b => match hd j with | none => false | some t => decide (ct j < 12) && decide (fc t < 10 ∧ bo t (fc t) + b ≤ tr t * le t))) = 1 from k3_1 (by rw [ix_nI (by omega), if_neg (by omega)])]; rfl
            subst hr9
            have hP : va_P D vwCl ((g 0, zInts cA 4 cf) :: (g 1, zInts cA 24 tf) :: (g 2, zInts cA 24 ff) :: (g 3, zInts cA 10 vf) :: (g 4, zInts cA 40 jj) :: (g 5, zInts cA 20 lt) :: (g 6, zInts cA 20 dd) :: cw) H := hP
            have hD : va_D A ((g 0, zInts cA 4 cf) :: (g 1, zInts cA 24 tf) :: (g 2, zInts cA 24 ff) :: (g 3, zInts cA 10 vf) :: (g 4, zInts cA 40 jj) :: (g 5, zInts cA 20 lt) :: (g 6, zInts cA 20 dd) :: cw) := hD
            refine lv_iload hx hb dL_works_306 (lv_at hl 0 rfl) ?_
            refine lv_icmp_ne (tgt := 315) hx hb dL_works_308 (by decide) (fun c_97 => absurd rfl c_97) (fun c_97 => ?_)
            refine lv_iconst (v := bI (true)) hx hb dL_works_311 (by decide) ?_
            refine lv_goto (tgt := 316) hx hb dL_works_312 (by decide) ?_
            exact W.widen (k := 12) (n := 128) (by omega) (by omega) (zr_qz (S := va_W) (post := (fun (r : Int32) (u : va_W) => r = bI true ∧ LV cA ad g u)) (w1 := fun u => u) ((g 0, zInts cA 4 cf) :: (g 1, zInts cA 24 tf) :: (g 2, zInts cA 24 ff) :: (g 3, zInts cA 10 vf) :: (g 4, zInts cA 40 jj) :: (g 5, zInts cA 20 lt) :: (g 6, zInts cA 20 dd) :: cw) hx hb hr hlocks ⟨rfl, ⟨_, _, _, _, _, _, _, _, _, _, _, _, _, _, _, _, _, _, _, _, _, _, _, _, _, _, _, _, _, _, _, _, _, _, _, _, _, _, _, _, cw, rfl, hL, hI, hp⟩⟩ hP hD hS rfl dL_works_316)
        · skip
          refine zf_ne (tgt := 111) hx hb (by omega) dL_works_103 (by decide) (fun c_98 => ?_) (fun c_98 => ?_)
          · refine lv_iconst (v := nI (1)) hx hb dL_works_111 (by decide) ?_
            refine lv_iload_n hx hb dL_works_112 rfl (lv_at hl 5 rfl) ?_
            refine lv_bipush (v := nI (7)) hx hb dL_works_113 (by decide) ?_
            refine zk_S_i (n := 2) (As := [.int (y), .int (nI (7))]) (rest := [.int (nI (1))]) hx hb hml hts hown hZ hP (c_L_some l D cA _ y 7 (by omega) (by omega)) gL_works_L_some rfl ⟨rfl, rfl⟩ ⟨by decide +kernel, (Nat.le_of_ble_eq_true rfl), (Nat.le_of_ble_eq_true rfl)⟩ hl.1 rfl (Nat.le_of_ble_eq_true rfl) ⟨(Nat.le_of_ble_eq_true rfl), (Nat.le_of_ble_eq_true rfl)⟩ rfl dL_works_115 (fun r16 hr16 => ?_)
            obtain ⟨q16, hq16, hb16⟩ : ∃ z, r16 = nI z ∧ z < 7 := ⟨_, hr16, sm_lt (by omega)⟩
            subst hq16
            refine zo_add hx hb dL_works_118 ?_
            exact J119 (1 + q16) ls ⟨lv_sub hl [3, 4, 5, 6, 7, 8, 9, 10, 11, 12, 13, 2, 1, 0] rfl, by omega⟩
          · refine lv_bipush (v := nI (101)) hx hb dL_works_106 (by decide) ?_
            refine lv_goto (tgt := 119) hx hb dL_works_108 (by decide) ?_
            exact J119 (101) ls ⟨lv_sub hl [3, 4, 5, 6, 7, 8, 9, 10, 11, 12, 13, 2, 1, 0] rfl, by omega⟩
    · skip
      refine lv_iload hx hb dL_works_35 (lv_at hl 0 rfl) ?_
      refine lv_aload_n hx hb dL_works_37 rfl (lv_at hl 4 rfl) ?_
      refine lv_iconst (v := nI (1)) hx hb dL_works_38 (by decide) ?_
      refine va_iald hx hb hZ.1 hP 0 0 rfl rfl (vp_in_nI (show 1 < 4 by omega) (by omega)) dL_works_39 ?_
      rw [nI_clamp (show 1 < 2 ^ 31 by omega)]
      refine zx_val (y := nI (nd)) (c1) ?_
      refine zc_ge (tgt := 47) hx hb (by omega) (by omega) dL_works_40 (by decide) (fun c_99 => ?_) (fun c_99 => ?_)
      · refine lv_iconst (v := bI (false)) hx hb dL_works_47 (by decide) ?_
        exact J48 (false) ls ⟨lv_sub hl [1, 2, 3, 4, 5, 6, 7, 8, 9, 10, 0] rfl, (decide_eq_false (by omega)).symm⟩
      · refine lv_iconst (v := bI (true)) hx hb dL_works_43 (by decide) ?_
        refine lv_goto (tgt := 48) hx hb dL_works_44 (by decide) ?_
        exact J48 (true) ls ⟨lv_sub hl [1, 2, 3, 4, 5, 6, 7, 8, 9, 10, 0] rfl, (decide_eq_true (by omega)).symm⟩
  · skip
    refine zf_eq (tgt := 24) hx hb (by omega) dL_works_15 (by decide) (fun c_100 => ?_) (fun c_100 => ?_)
    · refine lv_iconst (v := nI (1)) hx hb dL_works_24 (by decide) ?_
      refine lv_goto (tgt := 29) hx hb dL_works_25 (by decide) ?_
      exact J29 (1) ls ⟨lv_sub hl [0, 1, 2, 3, 4, 5, 6, 7, 8, 9] rfl, by omega⟩
    · refine lv_aload_n hx hb dL_works_18 rfl (lv_at hl 3 rfl) ?_
      refine lv_iconst (v := nI (1)) hx hb dL_works_19 (by decide) ?_
      refine va_iald hx hb hZ.1 hP 0 0 rfl rfl (vp_in_nI (show 1 < 4 by omega) (by omega)) dL_works_20 ?_
      rw [nI_clamp (show 1 < 2 ^ 31 by omega)]
      refine zx_val (y := nI (nd)) (c1) ?_
      refine zf_ne (tgt := 28) hx hb (by omega) dL_works_21 (by decide) (fun c_101 => ?_) (fun c_101 => ?_)
      · refine lv_iconst (v := nI (0)) hx hb dL_works_28 (by decide) ?_
        exact J29 (0) ls ⟨lv_sub hl [0, 1, 2, 3, 4, 5, 6, 7, 8, 9] rfl, by omega⟩
      · refine lv_iconst (v := nI (1)) hx hb dL_works_24 (by decide) ?_
        refine lv_goto (tgt := 29) hx hb dL_works_25 (by decide) ?_
        exact J29 (1) ls ⟨lv_sub hl [0, 1, 2, 3, 4, 5, 6, 7, 8, 9] rfl, by omega⟩
