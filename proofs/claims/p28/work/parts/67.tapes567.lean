set_option maxHeartbeats 4000000 in
set_option maxRecDepth 100000 in
theorem c_L_tapes_5 (l : Launch) (hlt : l.stackTraces = false) (D : va_G) (cA : Nat → ClassId) (sz : Nat) (ad : Nat → Nat) (T : Nat → Nat) (Bd : Nat → Nat) (E : Nat → Nat) (PT : Nat → Nat) (PB : Nat → Nat) (PE : Nat → Nat) (n : Nat) (tr : Nat → Nat) (le : Nat → Nat) (sl : Nat → Nat) (mo : Nat → Option Nat) (la : Nat → Bool) (fc : Nat → Nat) (bo : Nat → Nat → Nat) (nd : Nat) (mk : Nat → Nat) (ck : Nat → Int32) (ct : Nat → Nat) (hd : Nat → Option Nat) (pq : Nat → Int32) (nj : Nat) (fw : Nat → Int32) (jf : Nat → Nat) (dl : Nat → Nat) (dn : Nat) (oc : Nat) (s8 : Nat → Int32) (s9 : Nat → Int32) (s10 : Nat → Int32) (s11 : Nat → Int32) (s12 : Nat → Int32) (cf : Nat → Int32) (tf : Nat → Int32) (ff : Nat → Int32) (vf : Nat → Int32) (jj : Nat → Int32) (lt : Nat → Int32) (dd : Nat → Int32) (jt : Nat → Nat) (fin : Nat → Bool) (g : Nat → Nat) (cw : va_W) (hL : zL cA cw ad T Bd E PT PB PE n tr le sl mo la fc bo nd mk ck ct hd pq nj fw jf dl dn oc s8 s9 s10 s11 s12) (hI : zI n tr le sl mo fc bo nd mk ct hd pq nj fw jf dl) (hp : pL n tr le sl mo la fc bo nd mk ck ct hd pq nj fw jf dl dn cf tf ff vf jj lt dd jt fin) (y : Int32) : Met l yL_tapes wsL_tapes ({ frames := 10, cells := 8, slots := 64, locals := 194 }) (va_Pc [.ref (ad 0), .int (nI (5)), .int (y), .ref (g 0), .ref (g 1), .ref (g 3)] (zMW D cA ((g 0, zInts cA 4 cf) :: (g 1, zInts cA 24 tf) :: (g 2, zInts cA 24 ff) :: (g 3, zInts cA 10 vf) :: (g 4, zInts cA 40 jj) :: (g 5, zInts cA 20 lt) :: (g 6, zInts cA 20 dd) :: cw) sz)) (va_Qi (fun (r : Int32) (u : va_W) => r = bI true ∧ LV cA ad g u) (fun u => zB D (va_A ((g 0, zInts cA 4 cf) :: (g 1, zInts cA 24 tf) :: (g 2, zInts cA 24 ff) :: (g 3, zInts cA 10 vf) :: (g 4, zInts cA 40 jj) :: (g 5, zInts cA 20 lt) :: (g 6, zInts cA 20 dd) :: cw) sz) u) (va_A ((g 0, zInts cA 4 cf) :: (g 1, zInts cA 24 tf) :: (g 2, zInts cA 24 ff) :: (g 3, zInts cA 10 vf) :: (g 4, zInts cA 40 jj) :: (g 5, zInts cA 20 lt) :: (g 6, zInts cA 20 dd) :: cw) sz)) 8 64 (va_A ((g 0, zInts cA 4 cf) :: (g 1, zInts cA 24 tf) :: (g 2, zInts cA 24 ff) :: (g 3, zInts cA 10 vf) :: (g 4, zInts cA 40 jj) :: (g 5, zInts cA 20 lt) :: (g 6, zInts cA 20 dd) :: cw) sz) := by
  refine zOpen (cc := cL_tapes) (maxL := 14) (ret := (some .boolean)) (own := RL) (by decide) rfl rfl (Nat.le_of_ble_eq_true rfl) ?_
  intro p e s m below meth c ls hx hb hr hml hts hown hlocks hnm ⟨⟨⟨hZ, hP, hD0, hsz⟩, hX⟩, hN⟩ hl
  subst hsz
  have hD := hD0.self (sz := s.heap.size)
  generalize hAe : va_A ((g 0, zInts cA 4 cf) :: (g 1, zInts cA 24 tf) :: (g 2, zInts cA 24 ff) :: (g 3, zInts cA 10 vf) :: (g 4, zInts cA 40 jj) :: (g 5, zInts cA 20 lt) :: (g 6, zInts cA 20 dd) :: cw) s.heap.size = A at hD hX ⊢
  have hA : ∀ q : Nat, s.heap.size ≤ q → A q := fun q h => by rw [← hAe]; exact Or.inr h
  have hS : va_S A s.heap s.heap [] := va_S.rf
  have hl : lv_has ls 14 [(0, .ref (ad 0)), (1, .int (nI (5))), (2, .int (y)), (3, .ref (g 0)), (4, .ref (g 1)), (5, .ref (g 3))] := hl
  have hL0 := hL
  have l0 := hL.1.1
  obtain ⟨hn8, hd3, hj60, hIT, hID, hIJ, hIdl, hIw⟩ := id hI
  obtain ⟨⟨hn4, hd2, hj20⟩, ⟨c0, c1, c2, c3⟩, qT, qT0, qF, qV, qV0, qJ, qJ0, qW⟩ := id hp
  refine lv_iload_n hx hb dL_tapes_0 rfl (lv_at hl 2 rfl) ?_
  refine lv_aload_n hx hb dL_tapes_1 rfl (lv_at hl 3 rfl) ?_
  refine lv_iconst (v := nI (0)) hx hb dL_tapes_2 (by decide) ?_
  refine va_iald hx hb hZ.1 hP 0 0 rfl rfl (vp_in_nI (show 0 < 4 by omega) (by omega)) dL_tapes_3 ?_
  rw [nI_clamp (show 0 < 2 ^ 31 by omega)]
  refine zx_val (y := nI (n)) (c0) ?_
  refine lv_iconst (v := nI (1)) hx hb dL_tapes_4 (by decide) ?_
  refine zo_add hx hb dL_tapes_5 ?_
  refine zk_S_i (n := 2) (As := [.int (y), .int (nI (n + 1))]) (rest := []) hx hb hml hts hown hZ hP (c_L_some l D cA _ y (n + 1) (by omega) (by omega)) gL_tapes_L_some rfl ⟨rfl, rfl⟩ ⟨by decide +kernel, (Nat.le_of_ble_eq_true rfl), (Nat.le_of_ble_eq_true rfl)⟩ hl.1 rfl (Nat.le_of_ble_eq_true rfl) ⟨(Nat.le_of_ble_eq_true rfl), (Nat.le_of_ble_eq_true rfl)⟩ rfl dL_tapes_6 (fun r1 hr1 => ?_)
  obtain ⟨q1, hq1, hb1⟩ : ∃ z, r1 = nI z ∧ z < (n + 1) := ⟨_, hr1, sm_lt (by omega)⟩
  subst hq1
  refine lv_iload_n hx hb dL_tapes_9 rfl (lv_at hl 2 rfl) ?_
  refine lv_bipush (v := nI (9)) hx hb dL_tapes_10 (by decide) ?_
  refine lv_ishr hx hb dL_tapes_12 ?_
  refine lv_bipush (v := nI (19)) hx hb dL_tapes_13 (by decide) ?_
  refine zk_S_i (n := 2) (As := [.int ((y) >>> ((nI (9)) &&& 31)), .int (nI (19))]) (rest := [.int (nI (q1))]) hx hb hml hts hown hZ hP (c_L_some l D cA _ ((y) >>> ((nI (9)) &&& 31)) 19 (by omega) (by omega)) gL_tapes_L_some rfl ⟨rfl, rfl⟩ ⟨by decide +kernel, (Nat.le_of_ble_eq_true rfl), (Nat.le_of_ble_eq_true rfl)⟩ hl.1 rfl (Nat.le_of_ble_eq_true rfl) ⟨(Nat.le_of_ble_eq_true rfl), (Nat.le_of_ble_eq_true rfl)⟩ rfl dL_tapes_15 (fun r2 hr2 => ?_)
  obtain ⟨q2, hq2, hb2⟩ : ∃ z, r2 = nI z ∧ z < 19 := ⟨_, hr2, sm_lt (by omega)⟩
  subst hq2
  refine z_join (α := Nat) (pc' := 26) (fun v ls => lv_has ls 14 [(0, .ref (ad 0)), (1, .int (nI (5))), (2, .int (y)), (3, .ref (g 0)), (4, .ref (g 1)), (5, .ref (g 3))] ∧ v ≤ 1) (fun v => [.int (nI (v)), .int (nI (q1))]) ?_ (fun J26 => ?_)
  · intro x1 ls hv
    obtain ⟨hl, hI26⟩ := hv
    have hl : lv_has ls 14 [(0, .ref (ad 0)), (1, .int (nI (5))), (2, .int (y)), (3, .ref (g 0)), (4, .ref (g 1)), (5, .ref (g 3))] := hl
    have hI26 : x1 ≤ 1 := hI26
    obtain ⟨va, hva, hAq⟩ := tapes_va hn4 hb1 hI26
    refine lv_isub hx hb dL_tapes_26 ?_
    refine zx_val (y := va) hva ?_
    refine lv_istore (lv' := [(6, .int (va)), (0, .ref (ad 0)), (1, .int (nI (5))), (2, .int (y)), (3, .ref (g 0)), (4, .ref (g 1)), (5, .ref (g 3))]) hx hb dL_tapes_27 hl (by decide) rfl (fun ls hl => ?_)
    refine z_join (α := Bool) (pc' := 47) (fun bA ls => lv_has ls 14 [(0, .ref (ad 0)), (1, .int (nI (5))), (2, .int (y)), (3, .ref (g 0)), (4, .ref (g 1)), (5, .ref (g 3)), (6, .int (va))] ∧ ((bA = true ∧ ∃ a, a < n ∧ va = nI a) ∨ (bA = false ∧ ∀ j, j < n → va ≠ nI j))) (fun bA => [.int (bI bA)]) ?_ (fun J47 => ?_)
    · intro bA ls hv
      obtain ⟨hl, hAA⟩ := hv
      have hl : lv_has ls 14 [(0, .ref (ad 0)), (1, .int (nI (5))), (2, .int (y)), (3, .ref (g 0)), (4, .ref (g 1)), (5, .ref (g 3)), (6, .int (va))] := hl
      refine lv_istore (lv' := [(7, .int (bI (bA))), (0, .ref (ad 0)), (1, .int (nI (5))), (2, .int (y)), (3, .ref (g 0)), (4, .ref (g 1)), (5, .ref (g 3)), (6, .int (va))]) hx hb dL_tapes_47 hl (by decide) rfl (fun ls hl => ?_)
      refine lv_iload_n hx hb dL_tapes_49 rfl (lv_at hl 3 rfl) ?_
      refine lv_iconst (v := nI (3)) hx hb dL_tapes_50 (by decide) ?_
      refine lv_ishr hx hb dL_tapes_51 ?_
      refine lv_aload_n hx hb dL_tapes_52 rfl (lv_at hl 4 rfl) ?_
      refine lv_iconst (v := nI (1)) hx hb dL_tapes_53 (by decide) ?_
      refine va_iald hx hb hZ.1 hP 0 0 rfl rfl (vp_in_nI (show 1 < 4 by omega) (by omega)) dL_tapes_54 ?_
      rw [nI_clamp (show 1 < 2 ^ 31 by omega)]
      refine zx_val (y := nI (nd)) (c1) ?_
      refine lv_iload_n hx hb dL_tapes_55 rfl (lv_at hl 3 rfl) ?_
      refine lv_bipush (v := nI (7)) hx hb dL_tapes_56 (by decide) ?_
      refine lv_ishr hx hb dL_tapes_58 ?_
      refine lv_bipush (v := nI (9)) hx hb dL_tapes_59 (by decide) ?_
      refine zk_S_i (n := 2) (As := [.int ((y) >>> ((nI (7)) &&& 31)), .int (nI (9))]) (rest := [.int (nI (nd)), .int ((y) >>> ((nI (3)) &&& 31))]) hx hb hml hts hown hZ hP (c_L_some l D cA _ ((y) >>> ((nI (7)) &&& 31)) 9 (by omega) (by omega)) gL_tapes_L_some rfl ⟨rfl, rfl⟩ ⟨by decide +kernel, (Nat.le_of_ble_eq_true rfl), (Nat.le_of_ble_eq_true rfl)⟩ hl.1 rfl (Nat.le_of_ble_eq_true rfl) ⟨(Nat.le_of_ble_eq_true rfl), (Nat.le_of_ble_eq_true rfl)⟩ rfl dL_tapes_61 (fun r3 hr3 => ?_)
      obtain ⟨q3, hq3, hb3⟩ : ∃ z, r3 = nI z ∧ z < 9 := ⟨_, hr3, sm_lt (by omega)⟩
      subst hq3
      refine z_join (α := Nat) (pc' := 78) (fun v ls => lv_has ls 14 [(0, .ref (ad 0)), (1, .int (nI (5))), (2, .int (y)), (3, .ref (g 0)), (4, .ref (g 1)), (5, .ref (g 3)), (6, .int (va)), (7, .int (bI (bA)))] ∧ v ≤ 1 ∧ (nd = 0 → v = 1)) (fun v => [.int (nI (v)), .int (nI (nd)), .int ((y) >>> ((nI (3)) &&& 31))]) ?_ (fun J78 => ?_)
      · intro x2 ls hv
        obtain ⟨hl, hI78⟩ := hv
        have hl : lv_has ls 14 [(0, .ref (ad 0)), (1, .int (nI (5))), (2, .int (y)), (3, .ref (g 0)), (4, .ref (g 1)), (5, .ref (g 3)), (6, .int (va)), (7, .int (bI (bA)))] := hl
        have hI78 : x2 ≤ 1 ∧ (nd = 0 → x2 = 1) := hI78
        refine zo_add hx hb dL_tapes_78 ?_
        obtain ⟨hx2, hx20⟩ := hI78
        refine zk_S_i (n := 2) (As := [.int ((y) >>> ((nI (3)) &&& 31)), .int (nI (nd + x2))]) (rest := []) hx hb hml hts hown hZ hP (c_L_some l D cA _ ((y) >>> ((nI (3)) &&& 31)) (nd + x2) (by omega) (by omega)) gL_tapes_L_some rfl ⟨rfl, rfl⟩ ⟨by decide +kernel, (Nat.le_of_ble_eq_true rfl), (Nat.le_of_ble_eq_true rfl)⟩ hl.1 rfl (Nat.le_of_ble_eq_true rfl) ⟨(Nat.le_of_ble_eq_true rfl), (Nat.le_of_ble_eq_true rfl)⟩ rfl dL_tapes_79 (fun r4 hr4 => ?_)
        obtain ⟨q4, hq4, hb4⟩ : ∃ z, r4 = nI z ∧ z < (nd + x2) := ⟨_, hr4, sm_lt (by omega)⟩
        subst hq4
        refine lv_istore (lv' := [(8, .int (nI (q4))), (0, .ref (ad 0)), (1, .int (nI (5))), (2, .int (y)), (3, .ref (g 0)), (4, .ref (g 1)), (5, .ref (g 3)), (6, .int (va)), (7, .int (bI (bA)))]) hx hb dL_tapes_82 hl (by decide) rfl (fun ls hl => ?_)
        refine z_join (α := Bool) (pc' := 97) (fun v ls => lv_has ls 14 [(0, .ref (ad 0)), (1, .int (nI (5))), (2, .int (y)), (3, .ref (g 0)), (4, .ref (g 1)), (5, .ref (g 3)), (6, .int (va)), (7, .int (bI (bA))), (8, .int (nI (q4)))] ∧ v = decide (q4 < nd)) (fun v => [.int (bI (v))]) ?_ (fun J97 => ?_)
        · intro bD ls hv
          obtain ⟨hl, hI97⟩ := hv
          have hl : lv_has ls 14 [(0, .ref (ad 0)), (1, .int (nI (5))), (2, .int (y)), (3, .ref (g 0)), (4, .ref (g 1)), (5, .ref (g 3)), (6, .int (va)), (7, .int (bI (bA))), (8, .int (nI (q4)))] := hl
          have hI97 : bD = decide (q4 < nd) := hI97
          have hDd : q4 ≤ nd := by omega
          refine lv_istore (lv' := [(9, .int (bI (bD))), (0, .ref (ad 0)), (1, .int (nI (5))), (2, .int (y)), (3, .ref (g 0)), (4, .ref (g 1)), (5, .ref (g 3)), (6, .int (va)), (7, .int (bI (bA))), (8, .int (nI (q4)))]) hx hb dL_tapes_97 hl (by decide) rfl (fun ls hl => ?_)
          refine lv_iload_n hx hb dL_tapes_99 rfl (lv_at hl 2 rfl) ?_
          refine zf_ne (tgt := 290) hx hb (by omega) dL_tapes_100 (by decide) (fun c_1 => ?_) (fun c_1 => False.elim (by omega))
          refine lv_iload_n hx hb dL_tapes_290 rfl (lv_at hl 2 rfl) ?_
          refine lv_iconst (v := nI (1)) hx hb dL_tapes_291 (by decide) ?_
          refine zc_ne (tgt := 392) hx hb (by omega) (by omega) dL_tapes_292 (by decide) (fun c_2 => ?_) (fun c_2 => False.elim (by omega))
          refine lv_iload_n hx hb dL_tapes_392 rfl (lv_at hl 2 rfl) ?_
          refine lv_iconst (v := nI (2)) hx hb dL_tapes_393 (by decide) ?_
          refine zc_ne (tgt := 550) hx hb (by omega) (by omega) dL_tapes_394 (by decide) (fun c_3 => ?_) (fun c_3 => False.elim (by omega))
          refine lv_iload_n hx hb dL_tapes_550 rfl (lv_at hl 2 rfl) ?_
          refine lv_iconst (v := nI (3)) hx hb dL_tapes_551 (by decide) ?_
          refine zc_ne (tgt := 710) hx hb (by omega) (by omega) dL_tapes_552 (by decide) (fun c_4 => ?_) (fun c_4 => False.elim (by omega))
          refine lv_iload_n hx hb dL_tapes_710 rfl (lv_at hl 2 rfl) ?_
          refine lv_iconst (v := nI (4)) hx hb dL_tapes_711 (by decide) ?_
          refine zc_ne (tgt := 862) hx hb (by omega) (by omega) dL_tapes_712 (by decide) (fun c_5 => ?_) (fun c_5 => False.elim (by omega))
          refine lv_iload_n hx hb dL_tapes_862 rfl (lv_at hl 2 rfl) ?_
          refine lv_iconst (v := nI (5)) hx hb dL_tapes_863 (by decide) ?_
          refine lv_icmp_ne (tgt := 971) hx hb dL_tapes_864 (by decide) (fun c_6 => absurd rfl c_6) (fun c_6 => ?_)
          rcases Nat.lt_or_ge q4 nd with hdn | hdn
          · obtain rfl : bD = true := by rw [hI97]; exact decide_eq_true hdn
            obtain ⟨qv1, qv2, qv3, qv4, qv5⟩ := qV q4 hdn
            obtain ⟨hmk1, hct1, hpn1, hps1⟩ := hID q4 hdn
            rcases hhd : hd q4 with _ | t
            · have qv6 : vf (6 + q4) = -1 := by rw [qv4, hhd]; rfl
              refine lv_iload hx hb dL_tapes_867 (lv_at hl 0 rfl) ?_
              refine zb_eq (tgt := 887) hx hb dL_tapes_869 (by decide) (fun c_7 => Bool.noConfusion c_7) (fun c_7 => ?_)
              refine lv_aload hx hb dL_tapes_872 (lv_at hl 6 rfl) ?_
              refine lv_bipush (v := nI (6)) hx hb dL_tapes_874 (by decide) ?_
              refine lv_iload hx hb dL_tapes_876 (lv_at hl 9 rfl) ?_
              refine zo_add hx hb dL_tapes_878 ?_
              refine va_iald hx hb hZ.1 hP 3 0 rfl rfl (vp_in_nI (show 6 + q4 < 10 by omega) (by omega)) dL_tapes_879 ?_
              rw [nI_clamp (show 6 + q4 < 2 ^ 31 by omega)]
              refine zx_val (y := (-1)) (qv6) ?_
              refine lv_if_ge (tgt := 887) hx hb dL_tapes_880 (by decide) (fun c_8 => absurd c_8 (by decide)) (fun c_8 => ?_)
              refine lv_iconst (v := bI (true)) hx hb dL_tapes_883 (by decide) ?_
              refine lv_goto (tgt := 888) hx hb dL_tapes_884 (by decide) ?_
              refine lv_istore (lv' := [(10, .int (bI (true))), (9, .int (bI (true))), (0, .ref (ad 0)), (1, .int (nI (5))), (2, .int (y)), (3, .ref (g 0)), (4, .ref (g 1)), (5, .ref (g 3)), (6, .int (va)), (7, .int (bI (bA))), (8, .int (nI (q4)))]) hx hb dL_tapes_888 hl (by decide) rfl (fun ls hl => ?_)
              refine lv_iload hx hb dL_tapes_890 (lv_at hl 1 rfl) ?_
              refine zb_eq (tgt := 905) hx hb dL_tapes_892 (by decide) (fun c_9 => Bool.noConfusion c_9) (fun c_9 => ?_)
              refine lv_aload hx hb dL_tapes_895 (lv_at hl 7 rfl) ?_
              refine lv_iconst (v := nI (4)) hx hb dL_tapes_897 (by decide) ?_
              refine lv_iload hx hb dL_tapes_898 (lv_at hl 10 rfl) ?_
              refine zo_add hx hb dL_tapes_900 ?_
              refine va_iald hx hb hZ.1 hP 3 0 rfl rfl (vp_in_nI (show 4 + q4 < 10 by omega) (by omega)) dL_tapes_901 ?_
              rw [nI_clamp (show 4 + q4 < 2 ^ 31 by omega)]
              refine zx_val (y := nI (ct q4)) (qv3) ?_
              refine lv_goto (tgt := 906) hx hb dL_tapes_902 (by decide) ?_
              refine lv_istore (lv' := [(11, .int (nI (ct q4))), (10, .int (bI (true))), (9, .int (bI (true))), (0, .ref (ad 0)), (1, .int (nI (5))), (2, .int (y)), (3, .ref (g 0)), (4, .ref (g 1)), (5, .ref (g 3)), (6, .int (va)), (7, .int (bI (bA))), (8, .int (nI (q4)))]) hx hb dL_tapes_906 hl (by decide) rfl (fun ls hl => ?_)
              refine lv_iload hx hb dL_tapes_908 (lv_at hl 1 rfl) ?_
              refine zb_eq (tgt := 933) hx hb dL_tapes_910 (by decide) (fun c_10 => Bool.noConfusion c_10) (fun c_10 => ?_)
              obtain ⟨hI2, hp2⟩ := J_clean (j := q4) (c9 := ck q4 + nI 50) hI hp hdn
              refine lv_aload hx hb dL_tapes_913 (lv_at hl 8 rfl) ?_
              refine lv_iconst (v := nI (4)) hx hb dL_tapes_915 (by decide) ?_
              refine lv_iload hx hb dL_tapes_916 (lv_at hl 11 rfl) ?_
              refine zo_add hx hb dL_tapes_918 ?_
              refine lv_iconst (v := nI (0)) hx hb dL_tapes_919 (by decide) ?_
              refine va_iast hx hb hZ.1 hP hD hS 3 0 rfl rfl (vp_in_nI (show 4 + q4 < 10 by omega) (by omega)) dL_tapes_920 (fun H locs hP hD hS => ?_)
              rw [nI_clamp (show 4 + q4 < 2 ^ 31 by omega)] at hP hD
              have hP : va_P D vwCl ((g 0, zInts cA 4 cf) :: (g 1, zInts cA 24 tf) :: (g 2, zInts cA 24 ff) :: (g 3, zInts cA 10 (upd vf (4 + q4) (nI (0)))) :: (g 4, zInts cA 40 jj) :: (g 5, zInts cA 20 lt) :: (g 6, zInts cA 20 dd) :: cw) H := hP
              have hD : va_D A ((g 0, zInts cA 4 cf) :: (g 1, zInts cA 24 tf) :: (g 2, zInts cA 24 ff) :: (g 3, zInts cA 10 (upd vf (4 + q4) (nI (0)))) :: (g 4, zInts cA 40 jj) :: (g 5, zInts cA 20 lt) :: (g 6, zInts cA 20 dd) :: cw) := hD
              refine lv_aload hx hb dL_tapes_921 (lv_at hl 8 rfl) ?_
              refine lv_iconst (v := nI (2)) hx hb dL_tapes_923 (by decide) ?_
              refine lv_iload hx hb dL_tapes_924 (lv_at hl 11 rfl) ?_
              refine zo_add hx hb dL_tapes_926 ?_
              refine lv_dup2_11 hx hb dL_tapes_927 rfl rfl ?_
              refine va_iald hx hb hZ.1 hP 3 0 rfl rfl (vp_in_nI (show 2 + q4 < 10 by omega) (by omega)) dL_tapes_928 ?_
              rw [nI_clamp (show 2 + q4 < 2 ^ 31 by omega)]
              refine zx_val (y := ck q4) (by rw [pk_un (by omega)]; exact qv2) ?_
              refine lv_bipush (v := nI (50)) hx hb dL_tapes_929 (by decide) ?_
              refine lv_iadd hx hb dL_tapes_931 ?_
              refine va_iast hx hb hZ.1 hP hD hS 3 0 rfl rfl (vp_in_nI (show 2 + q4 < 10 by omega) (by omega)) dL_tapes_932 (fun H locs hP hD hS => ?_)
              rw [nI_clamp (show 2 + q4 < 2 ^ 31 by omega)] at hP hD
              have hP : va_P D vwCl ((g 0, zInts cA 4 cf) :: (g 1, zInts cA 24 tf) :: (g 2, zInts cA 24 ff) :: (g 3, zInts cA 10 (upd (upd vf (4 + q4) (nI (0))) (2 + q4) ((ck q4) + (nI (50))))) :: (g 4, zInts cA 40 jj) :: (g 5, zInts cA 20 lt) :: (g 6, zInts cA 20 dd) :: cw) H := hP
              have hD : va_D A ((g 0, zInts cA 4 cf) :: (g 1, zInts cA 24 tf) :: (g 2, zInts cA 24 ff) :: (g 3, zInts cA 10 (upd (upd vf (4 + q4) (nI (0))) (2 + q4) ((ck q4) + (nI (50))))) :: (g 4, zInts cA 40 jj) :: (g 5, zInts cA 20 lt) :: (g 6, zInts cA 20 dd) :: cw) := hD
              refine lv_aload_n hx hb dL_tapes_933 rfl (lv_at hl 3 rfl) ?_
              refine lv_iconst (v := nI (1)) hx hb dL_tapes_934 (by decide) ?_
              refine lv_iload hx hb dL_tapes_935 (lv_at hl 11 rfl) ?_
              refine ze_H_i (n := 3) (mc := 2) (ms := 12) (ws := cw) (es := [(g 0, zInts cA 4 cf), (g 1, zInts cA 24 tf), (g 2, zInts cA 24 ff), (g 3, zInts cA 10 (upd (upd vf (4 + q4) (nI (0))) (2 + q4) ((ck q4) + (nI (50))))), (g 4, zInts cA 40 jj), (g 5, zInts cA 20 lt), (g 6, zInts cA 20 dd)]) (As := [.ref (ad 0), .int (nI (1)), .int (nI (q4))]) (rest := []) hx hb hml hts hown hZ hX hN [0, 1, 2, 3, 4, 5, 6] rfl rfl hP hD hS hA (c_L_one_1 l D cA _ cw (ad 0) _ l0 _ _ _ _ (kS (ix (nI (q4)) nd) (fun j => (hd j).isNone)) (nI (q4)) (fun sz9 => c_X4_clean l hlt D cA sz9 cw ad T Bd E PT PB PE n tr le sl mo la fc bo nd mk ck ct hd pq nj fw jf dl dn oc s8 s9 s10 s11 s12 hL hI (nI (q4))) (fun _ _ h => h)) gL_tapes_L_one rfl ⟨rfl, rfl⟩ ⟨by decide +kernel, (Nat.le_of_ble_eq_true rfl), (Nat.le_of_ble_eq_true rfl)⟩ hl.1 rfl (Nat.le_of_ble_eq_true rfl) ⟨(Nat.le_of_ble_eq_true rfl), (Nat.le_of_ble_eq_true rfl)⟩ rfl dL_tapes_937 (fun r9 u9 H locs hp9 hP hD hS hz => ?_)
              rcases u9 with ⟨j9, w1⟩ | u9
              · dsimp only [zwP] at hp9
                obtain ⟨hjn, hv0, hhj, hr9, hkp, hL1⟩ := hp9
                have e9 := (nI_eq (by omega) (by omega)).mp hv0
                subst e9; subst hr9
                have hP : va_P D vwCl ((g 0, zInts cA 4 cf) :: (g 1, zInts cA 24 tf) :: (g 2, zInts cA 24 ff) :: (g 3, zInts cA 10 (upd (upd vf (4 + q4) (nI (0))) (2 + q4) ((ck q4) + (nI (50))))) :: (g 4, zInts cA 40 jj) :: (g 5, zInts cA 20 lt) :: (g 6, zInts cA 20 dd) :: w1) H := hP
                have hD : va_D A ((g 0, zInts cA 4 cf) :: (g 1, zInts cA 24 tf) :: (g 2, zInts cA 24 ff) :: (g 3, zInts cA 10 (upd (upd vf (4 + q4) (nI (0))) (2 + q4) ((ck q4) + (nI (50))))) :: (g 4, zInts cA 40 jj) :: (g 5, zInts cA 20 lt) :: (g 6, zInts cA 20 dd) :: w1) := hD
                refine lv_iload hx hb dL_tapes_940 (lv_at hl 2 rfl) ?_
                refine zb_ne (tgt := 950) hx hb dL_tapes_942 (by decide) (fun c_11 => ?_) (fun c_11 => Bool.noConfusion c_11)
                refine lv_iload hx hb dL_tapes_950 (lv_at hl 1 rfl) ?_
                refine zb_eq (tgt := 960) hx hb dL_tapes_952 (by decide) (fun c_12 => Bool.noConfusion c_12) (fun c_12 => ?_)
                refine lv_iload hx hb dL_tapes_955 (lv_at hl 0 rfl) ?_
                refine lv_goto (tgt := 962) hx hb dL_tapes_957 (by decide) ?_
                refine lv_icmp_ne (tgt := 969) hx hb dL_tapes_962 (by decide) (fun c_13 => absurd rfl c_13) (fun c_13 => ?_)
                refine lv_iconst (v := bI (true)) hx hb dL_tapes_965 (by decide) ?_
                refine lv_goto (tgt := 970) hx hb dL_tapes_966 (by decide) ?_
                exact W.widen (k := 8) (n := 64) (by omega) (by omega) (zr_qz (S := va_W) (post := (fun (r : Int32) (u : va_W) => r = bI true ∧ LV cA ad g u)) (w1 := fun u => u) ((g 0, zInts cA 4 cf) :: (g 1, zInts cA 24 tf) :: (g 2, zInts cA 24 ff) :: (g 3, zInts cA 10 (upd (upd vf (4 + q4) (nI (0))) (2 + q4) ((ck q4) + (nI (50))))) :: (g 4, zInts cA 40 jj) :: (g 5, zInts cA 20 lt) :: (g 6, zInts cA 20 dd) :: w1) hx hb hr hlocks ⟨rfl, ⟨_, _, _, _, _, _, _, _, _, _, _, _, _, _, _, _, _, _, _, _, _, _, _, _, _, _, _, _, _, _, _, _, _, _, _, _, _, _, _, _, w1, rfl, hL1, hI2, hp2⟩⟩ hP hD hS rfl dL_tapes_970)
              · exact absurd (show (kS (ix (nI (q4)) nd) (fun j => (hd j).isNone)) = 0 from kS_y (ix_in (by omega) hdn) (by rw [hhd]; rfl)) hp9.2.1
            · have qv6 : vf (6 + q4) = nI t := by rw [qv4, hhd]; rfl
              obtain ⟨htn, hmt1, Pq, hPq1, hPq2⟩ := hps1 t hhd
              obtain ⟨qa1, qa2, qa3, qa4, qa5, qa6, qa7⟩ := qT t htn
              obtain ⟨t1, t2, t3, t4, t5, t6, t7, t8, t9x, t10⟩ := hIT t htn
              have hm8 : tr t * le t ≤ 8 * 200 := Nat.mul_le_mul t2 t4
              have qv7 : vf (8 + q4) = nI Pq := by rw [qv5 t hhd, hPq1]
              refine lv_iload hx hb dL_tapes_867 (lv_at hl 0 rfl) ?_
              refine zb_eq (tgt := 887) hx hb dL_tapes_869 (by decide) (fun c_14 => Bool.noConfusion c_14) (fun c_14 => ?_)
              refine lv_aload hx hb dL_tapes_872 (lv_at hl 6 rfl) ?_
              refine lv_bipush (v := nI (6)) hx hb dL_tapes_874 (by decide) ?_
              refine lv_iload hx hb dL_tapes_876 (lv_at hl 9 rfl) ?_
              refine zo_add hx hb dL_tapes_878 ?_
              refine va_iald hx hb hZ.1 hP 3 0 rfl rfl (vp_in_nI (show 6 + q4 < 10 by omega) (by omega)) dL_tapes_879 ?_
              rw [nI_clamp (show 6 + q4 < 2 ^ 31 by omega)]
              refine zx_val (y := nI (t)) (qv6) ?_
              refine zf_ge (tgt := 887) hx hb (by omega) dL_tapes_880 (by decide) ?_
              refine lv_iconst (v := bI (false)) hx hb dL_tapes_887 (by decide) ?_
              refine lv_istore (lv' := [(10, .int (bI (false))), (9, .int (bI (true))), (0, .ref (ad 0)), (1, .int (nI (5))), (2, .int (y)), (3, .ref (g 0)), (4, .ref (g 1)), (5, .ref (g 3)), (6, .int (va)), (7, .int (bI (bA))), (8, .int (nI (q4)))]) hx hb dL_tapes_888 hl (by decide) rfl (fun ls hl => ?_)
              refine lv_iload hx hb dL_tapes_890 (lv_at hl 1 rfl) ?_
              refine zb_eq (tgt := 905) hx hb dL_tapes_892 (by decide) (fun c_16 => Bool.noConfusion c_16) (fun c_16 => ?_)
              refine lv_aload hx hb dL_tapes_895 (lv_at hl 7 rfl) ?_
              refine lv_iconst (v := nI (4)) hx hb dL_tapes_897 (by decide) ?_
              refine lv_iload hx hb dL_tapes_898 (lv_at hl 10 rfl) ?_
              refine zo_add hx hb dL_tapes_900 ?_
              refine va_iald hx hb hZ.1 hP 3 0 rfl rfl (vp_in_nI (show 4 + q4 < 10 by omega) (by omega)) dL_tapes_901 ?_
              rw [nI_clamp (show 4 + q4 < 2 ^ 31 by omega)]
              refine zx_val (y := nI (ct q4)) (qv3) ?_
              refine lv_goto (tgt := 906) hx hb dL_tapes_902 (by decide) ?_
              refine lv_istore (lv' := [(11, .int (nI (ct q4))), (10, .int (bI (false))), (9, .int (bI (true))), (0, .ref (ad 0)), (1, .int (nI (5))), (2, .int (y)), (3, .ref (g 0)), (4, .ref (g 1)), (5, .ref (g 3)), (6, .int (va)), (7, .int (bI (bA))), (8, .int (nI (q4)))]) hx hb dL_tapes_906 hl (by decide) rfl (fun ls hl => ?_)
              refine lv_iload hx hb dL_tapes_908 (lv_at hl 1 rfl) ?_
              refine zb_eq (tgt := 933) hx hb dL_tapes_910 (by decide) (fun c_17 => ?_) (fun c_17 => Bool.noConfusion c_17)
              refine lv_aload_n hx hb dL_tapes_933 rfl (lv_at hl 3 rfl) ?_
              refine lv_iconst (v := nI (1)) hx hb dL_tapes_934 (by decide) ?_
              refine lv_iload hx hb dL_tapes_935 (lv_at hl 11 rfl) ?_
              refine ze_H_i (n := 3) (mc := 2) (ms := 12) (ws := cw) (es := [(g 0, zInts cA 4 cf), (g 1, zInts cA 24 tf), (g 2, zInts cA 24 ff), (g 3, zInts cA 10 vf), (g 4, zInts cA 40 jj), (g 5, zInts cA 20 lt), (g 6, zInts cA 20 dd)]) (As := [.ref (ad 0), .int (nI (1)), .int (nI (q4))]) (rest := []) hx hb hml hts hown hZ hX hN [0, 1, 2, 3, 4, 5, 6] rfl rfl hP hD hS hA (c_L_one_1 l D cA _ cw (ad 0) _ l0 _ _ _ _ (kS (ix (nI (q4)) nd) (fun j => (hd j).isNone)) (nI (q4)) (fun sz9 => c_X4_clean l hlt D cA sz9 cw ad T Bd E PT PB PE n tr le sl mo la fc bo nd mk ck ct hd pq nj fw jf dl dn oc s8 s9 s10 s11 s12 hL hI (nI (q4))) (fun _ _ h => h)) gL_tapes_L_one rfl ⟨rfl, rfl⟩ ⟨by decide +kernel, (Nat.le_of_ble_eq_true rfl), (Nat.le_of_ble_eq_true rfl)⟩ hl.1 rfl (Nat.le_of_ble_eq_true rfl) ⟨(Nat.le_of_ble_eq_true rfl), (Nat.le_of_ble_eq_true rfl)⟩ rfl dL_tapes_937 (fun r9 u9 H locs hp9 hP hD hS hz => ?_)
              rcases u9 with ⟨j9, w1⟩ | u9
              · dsimp only [zwP] at hp9
                obtain ⟨hjn, hv0, hhj, hr9, hkp, hL1⟩ := hp9
                have e9 := (nI_eq (by omega) (by omega)).mp hv0
                rw [← e9, hhd] at hhj; cases hhj
              · dsimp only [zwP] at hp9
                obtain ⟨hr9, hK9, E9, hE9⟩ := hp9
                have hr9 : r9 = (-102) := by rw [hr9, show (kS (ix (nI (q4)) nd) (fun j => (hd j).isNone)) = 2 from kS_n (ix_in (by omega) hdn) (by rw [hhd]; rfl)]; rfl
                subst hr9
                have hP : va_P D vwCl ((g 0, zInts cA 4 cf) :: (g 1, zInts cA 24 tf) :: (g 2, zInts cA 24 ff) :: (g 3, zInts cA 10 vf) :: (g 4, zInts cA 40 jj) :: (g 5, zInts cA 20 lt) :: (g 6, zInts cA 20 dd) :: cw) H := hP
                have hD : va_D A ((g 0, zInts cA 4 cf) :: (g 1, zInts cA 24 tf) :: (g 2, zInts cA 24 ff) :: (g 3, zInts cA 10 vf) :: (g 4, zInts cA 40 jj) :: (g 5, zInts cA 20 lt) :: (g 6, zInts cA 20 dd) :: cw) := hD
                refine lv_iload hx hb dL_tapes_940 (lv_at hl 2 rfl) ?_
                refine zb_ne (tgt := 950) hx hb dL_tapes_942 (by decide) (fun c_18 => ?_) (fun c_18 => Bool.noConfusion c_18)
                refine lv_iload hx hb dL_tapes_950 (lv_at hl 1 rfl) ?_
                refine zb_eq (tgt := 960) hx hb dL_tapes_952 (by decide) (fun c_19 => ?_) (fun c_19 => Bool.noConfusion c_19)
                refine lv_bipush (v := (-102)) hx hb dL_tapes_960 (by decide) ?_
                refine lv_icmp_ne (tgt := 969) hx hb dL_tapes_962 (by decide) (fun c_20 => absurd rfl c_20) (fun c_20 => ?_)
                refine lv_iconst (v := bI (true)) hx hb dL_tapes_965 (by decide) ?_
                refine lv_goto (tgt := 970) hx hb dL_tapes_966 (by decide) ?_
                exact W.widen (k := 8) (n := 64) (by omega) (by omega) (zr_qz (S := va_W) (post := (fun (r : Int32) (u : va_W) => r = bI true ∧ LV cA ad g u)) (w1 := fun u => u) ((g 0, zInts cA 4 cf) :: (g 1, zInts cA 24 tf) :: (g 2, zInts cA 24 ff) :: (g 3, zInts cA 10 vf) :: (g 4, zInts cA 40 jj) :: (g 5, zInts cA 20 lt) :: (g 6, zInts cA 20 dd) :: cw) hx hb hr hlocks ⟨rfl, ⟨_, _, _, _, _, _, _, _, _, _, _, _, _, _, _, _, _, _, _, _, _, _, _, _, _, _, _, _, _, _, _, _, _, _, _, _, _, _, _, _, cw, rfl, hL, hI, hp⟩⟩ hP hD hS rfl dL_tapes_970)
          · obtain rfl : bD = false := by rw [hI97]; exact decide_eq_false (Nat.not_lt.mpr hdn)
            refine lv_iload hx hb dL_tapes_867 (lv_at hl 0 rfl) ?_
            refine zb_eq (tgt := 887) hx hb dL_tapes_869 (by decide) (fun c_21 => ?_) (fun c_21 => Bool.noConfusion c_21)
            refine lv_iconst (v := bI (false)) hx hb dL_tapes_887 (by decide) ?_
            refine lv_istore (lv' := [(10, .int (bI (false))), (9, .int (bI (false))), (0, .ref (ad 0)), (1, .int (nI (5))), (2, .int (y)), (3, .ref (g 0)), (4, .ref (g 1)), (5, .ref (g 3)), (6, .int (va)), (7, .int (bI (bA))), (8, .int (nI (q4)))]) hx hb dL_tapes_888 hl (by decide) rfl (fun ls hl => ?_)
            refine lv_iload hx hb dL_tapes_890 (lv_at hl 1 rfl) ?_
            refine zb_eq (tgt := 905) hx hb dL_tapes_892 (by decide) (fun c_22 => ?_) (fun c_22 => Bool.noConfusion c_22)
            refine lv_iconst (v := nI (0)) hx hb dL_tapes_905 (by decide) ?_
            refine lv_istore (lv' := [(11, .int (nI (0))), (10, .int (bI (false))), (9, .int (bI (false))), (0, .ref (ad 0)), (1, .int (nI (5))), (2, .int (y)), (3, .ref (g 0)), (4, .ref (g 1)), (5, .ref (g 3)), (6, .int (va)), (7, .int (bI (bA))), (8, .int (nI (q4)))]) hx hb dL_tapes_906 hl (by decide) rfl (fun ls hl => ?_)
            refine lv_iload hx hb dL_tapes_908 (lv_at hl 1 rfl) ?_
            refine zb_eq (tgt := 933) hx hb dL_tapes_910 (by decide) (fun c_23 => ?_) (fun c_23 => Bool.noConfusion c_23)
            refine lv_aload_n hx hb dL_tapes_933 rfl (lv_at hl 3 rfl) ?_
            refine lv_iconst (v := nI (1)) hx hb dL_tapes_934 (by decide) ?_
            refine lv_iload hx hb dL_tapes_935 (lv_at hl 11 rfl) ?_
            refine ze_H_i (n := 3) (mc := 2) (ms := 12) (ws := cw) (es := [(g 0, zInts cA 4 cf), (g 1, zInts cA 24 tf), (g 2, zInts cA 24 ff), (g 3, zInts cA 10 vf), (g 4, zInts cA 40 jj), (g 5, zInts cA 20 lt), (g 6, zInts cA 20 dd)]) (As := [.ref (ad 0), .int (nI (1)), .int (nI (q4))]) (rest := []) hx hb hml hts hown hZ hX hN [0, 1, 2, 3, 4, 5, 6] rfl rfl hP hD hS hA (c_L_one_1 l D cA _ cw (ad 0) _ l0 _ _ _ _ (kS (ix (nI (q4)) nd) (fun j => (hd j).isNone)) (nI (q4)) (fun sz9 => c_X4_clean l hlt D cA sz9 cw ad T Bd E PT PB PE n tr le sl mo la fc bo nd mk ck ct hd pq nj fw jf dl dn oc s8 s9 s10 s11 s12 hL hI (nI (q4))) (fun _ _ h => h)) gL_tapes_L_one rfl ⟨rfl, rfl⟩ ⟨by decide +kernel, (Nat.le_of_ble_eq_true rfl), (Nat.le_of_ble_eq_true rfl)⟩ hl.1 rfl (Nat.le_of_ble_eq_true rfl) ⟨(Nat.le_of_ble_eq_true rfl), (Nat.le_of_ble_eq_true rfl)⟩ rfl dL_tapes_937 (fun r9 u9 H locs hp9 hP hD hS hz => ?_)
            rcases u9 with ⟨j9, w1⟩ | u9
            · dsimp only [zwP] at hp9
              obtain ⟨hjn, hv0, hhj, hr9, hkp, hL1⟩ := hp9
              have e9 := (nI_eq (by omega) (by omega)).mp hv0
              omega
            · dsimp only [zwP] at hp9
              obtain ⟨hr9, hK9, E9, hE9⟩ := hp9
              have hr9 : r9 = (-101) := by rw [hr9, show (kS (ix (nI (q4)) nd) (fun j => (hd j).isNone)) = 1 from kS_1 (by rw [ix_nI (by omega), if_neg (by omega)])]; rfl
              subst hr9
              have hP : va_P D vwCl ((g 0, zInts cA 4 cf) :: (g 1, zInts cA 24 tf) :: (g 2, zInts cA 24 ff) :: (g 3, zInts cA 10 vf) :: (g 4, zInts cA 40 jj) :: (g 5, zInts cA 20 lt) :: (g 6, zInts cA 20 dd) :: cw) H := hP
              have hD : va_D A ((g 0, zInts cA 4 cf) :: (g 1, zInts cA 24 tf) :: (g 2, zInts cA 24 ff) :: (g 3, zInts cA 10 vf) :: (g 4, zInts cA 40 jj) :: (g 5, zInts cA 20 lt) :: (g 6, zInts cA 20 dd) :: cw) := hD
              refine lv_iload hx hb dL_tapes_940 (lv_at hl 2 rfl) ?_
              refine zb_ne (tgt := 950) hx hb dL_tapes_942 (by decide) (fun c_24 => Bool.noConfusion c_24) (fun c_24 => ?_)
              refine lv_bipush (v := (-101)) hx hb dL_tapes_945 (by decide) ?_
              refine lv_goto (tgt := 962) hx hb dL_tapes_947 (by decide) ?_
              refine lv_icmp_ne (tgt := 969) hx hb dL_tapes_962 (by decide) (fun c_25 => absurd rfl c_25) (fun c_25 => ?_)
              refine lv_iconst (v := bI (true)) hx hb dL_tapes_965 (by decide) ?_
              refine lv_goto (tgt := 970) hx hb dL_tapes_966 (by decide) ?_
              exact W.widen (k := 8) (n := 64) (by omega) (by omega) (zr_qz (S := va_W) (post := (fun (r : Int32) (u : va_W) => r = bI true ∧ LV cA ad g u)) (w1 := fun u => u) ((g 0, zInts cA 4 cf) :: (g 1, zInts cA 24 tf) :: (g 2, zInts cA 24 ff) :: (g 3, zInts cA 10 vf) :: (g 4, zInts cA 40 jj) :: (g 5, zInts cA 20 lt) :: (g 6, zInts cA 20 dd) :: cw) hx hb hr hlocks ⟨rfl, ⟨_, _, _, _, _, _, _, _, _, _, _, _, _, _, _, _, _, _, _, _, _, _, _, _, _, _, _, _, _, _, _, _, _, _, _, _, _, _, _, _, cw, rfl, hL, hI, hp⟩⟩ hP hD hS rfl dL_tapes_970)
        · skip
          refine lv_iload hx hb dL_tapes_84 (lv_at hl 0 rfl) ?_
          refine lv_aload_n hx hb dL_tapes_86 rfl (lv_at hl 4 rfl) ?_
          refine lv_iconst (v := nI (1)) hx hb dL_tapes_87 (by decide) ?_
          refine va_iald hx hb hZ.1 hP 0 0 rfl rfl (vp_in_nI (show 1 < 4 by omega) (by omega)) dL_tapes_88 ?_
          rw [nI_clamp (show 1 < 2 ^ 31 by omega)]
          refine zx_val (y := nI (nd)) (c1) ?_
          refine zc_ge (tgt := 96) hx hb (by omega) (by omega) dL_tapes_89 (by decide) (fun c_26 => ?_) (fun c_26 => ?_)
          · refine lv_iconst (v := bI (false)) hx hb dL_tapes_96 (by decide) ?_
            exact J97 (false) ls ⟨lv_sub hl [1, 2, 3, 4, 5, 6, 7, 8, 0] rfl, (decide_eq_false (by omega)).symm⟩
          · refine lv_iconst (v := bI (true)) hx hb dL_tapes_92 (by decide) ?_
            refine lv_goto (tgt := 97) hx hb dL_tapes_93 (by decide) ?_
            exact J97 (true) ls ⟨lv_sub hl [1, 2, 3, 4, 5, 6, 7, 8, 0] rfl, (decide_eq_true (by omega)).symm⟩
      · skip
        refine zf_eq (tgt := 73) hx hb (by omega) dL_tapes_64 (by decide) (fun c_27 => ?_) (fun c_27 => ?_)
        · refine lv_iconst (v := nI (1)) hx hb dL_tapes_73 (by decide) ?_
          refine lv_goto (tgt := 78) hx hb dL_tapes_74 (by decide) ?_
          exact J78 (1) ls ⟨lv_sub hl [1, 2, 3, 4, 5, 6, 7, 0] rfl, by omega⟩
        · refine lv_aload_n hx hb dL_tapes_67 rfl (lv_at hl 4 rfl) ?_
          refine lv_iconst (v := nI (1)) hx hb dL_tapes_68 (by decide) ?_
          refine va_iald hx hb hZ.1 hP 0 0 rfl rfl (vp_in_nI (show 1 < 4 by omega) (by omega)) dL_tapes_69 ?_
          rw [nI_clamp (show 1 < 2 ^ 31 by omega)]
          refine zx_val (y := nI (nd)) (c1) ?_
          refine zf_ne (tgt := 77) hx hb (by omega) dL_tapes_70 (by decide) (fun c_28 => ?_) (fun c_28 => ?_)
          · refine lv_iconst (v := nI (0)) hx hb dL_tapes_77 (by decide) ?_
            exact J78 (0) ls ⟨lv_sub hl [1, 2, 3, 4, 5, 6, 7, 0] rfl, by omega⟩
          · refine lv_iconst (v := nI (1)) hx hb dL_tapes_73 (by decide) ?_
            refine lv_goto (tgt := 78) hx hb dL_tapes_74 (by decide) ?_
            exact J78 (1) ls ⟨lv_sub hl [1, 2, 3, 4, 5, 6, 7, 0] rfl, by omega⟩
    · skip
      rcases hAq with ⟨a, han, hva1⟩ | ⟨hAn, hva1 | hva1⟩
      · rw [hva1] at hl
        refine lv_iload hx hb dL_tapes_29 (lv_at hl 0 rfl) ?_
        refine zf_lt (tgt := 46) hx hb (by omega) dL_tapes_31 (by decide) ?_
        refine lv_iload hx hb dL_tapes_34 (lv_at hl 0 rfl) ?_
        refine lv_aload_n hx hb dL_tapes_36 rfl (lv_at hl 4 rfl) ?_
        refine lv_iconst (v := nI (0)) hx hb dL_tapes_37 (by decide) ?_
        refine va_iald hx hb hZ.1 hP 0 0 rfl rfl (vp_in_nI (show 0 < 4 by omega) (by omega)) dL_tapes_38 ?_
        rw [nI_clamp (show 0 < 2 ^ 31 by omega)]
        refine zx_val (y := nI (n)) (c0) ?_
        refine zc_ge (tgt := 46) hx hb (by omega) (by omega) dL_tapes_39 (by decide) (fun c_30 => False.elim (by omega)) (fun c_30 => ?_)
        refine lv_iconst (v := bI (true)) hx hb dL_tapes_42 (by decide) ?_
        refine lv_goto (tgt := 47) hx hb dL_tapes_43 (by decide) ?_
        rw [← hva1] at hl
        exact J47 true ls ⟨lv_sub hl [1, 2, 3, 4, 5, 6, 0] rfl, Or.inl ⟨rfl, a, han, hva1⟩⟩
      · rw [hva1] at hl
        refine lv_iload hx hb dL_tapes_29 (lv_at hl 0 rfl) ?_
        refine lv_if_lt (tgt := 46) hx hb dL_tapes_31 (by decide) (fun c_31 => ?_) (fun c_31 => absurd (by decide) c_31)
        refine lv_iconst (v := bI (false)) hx hb dL_tapes_46 (by decide) ?_
        rw [← hva1] at hl
        exact J47 false ls ⟨lv_sub hl [1, 2, 3, 4, 5, 6, 0] rfl, Or.inr ⟨rfl, hAn⟩⟩
      · rw [hva1] at hl
        refine lv_iload hx hb dL_tapes_29 (lv_at hl 0 rfl) ?_
        refine zf_lt (tgt := 46) hx hb (by omega) dL_tapes_31 (by decide) ?_
        refine lv_iload hx hb dL_tapes_34 (lv_at hl 0 rfl) ?_
        refine lv_aload_n hx hb dL_tapes_36 rfl (lv_at hl 4 rfl) ?_
        refine lv_iconst (v := nI (0)) hx hb dL_tapes_37 (by decide) ?_
        refine va_iald hx hb hZ.1 hP 0 0 rfl rfl (vp_in_nI (show 0 < 4 by omega) (by omega)) dL_tapes_38 ?_
        rw [nI_clamp (show 0 < 2 ^ 31 by omega)]
        refine zx_val (y := nI (n)) (c0) ?_
        refine zc_ge (tgt := 46) hx hb (by omega) (by omega) dL_tapes_39 (by decide) (fun c_33 => ?_) (fun c_33 => False.elim (by omega))
        refine lv_iconst (v := bI (false)) hx hb dL_tapes_46 (by decide) ?_
        rw [← hva1] at hl
        exact J47 false ls ⟨lv_sub hl [1, 2, 3, 4, 5, 6, 0] rfl, Or.inr ⟨rfl, hAn⟩⟩
  · skip
    refine zf_ne (tgt := 25) hx hb (by omega) dL_tapes_18 (by decide) (fun c_34 => ?_) (fun c_34 => ?_)
    · refine lv_iconst (v := nI (0)) hx hb dL_tapes_25 (by decide) ?_
      exact J26 (0) ls ⟨lv_sub hl [0, 1, 2, 3, 4, 5] rfl, by omega⟩
    · refine lv_iconst (v := nI (1)) hx hb dL_tapes_21 (by decide) ?_
      refine lv_goto (tgt := 26) hx hb dL_tapes_22 (by decide) ?_
      exact J26 (1) ls ⟨lv_sub hl [0, 1, 2, 3, 4, 5] rfl, by omega⟩

set_option maxHeartbeats 4000000 in
set_option maxRecDepth 100000 in
theorem c_L_tapes_6 (l : Launch) (hlt : l.stackTraces = false) (D : va_G) (cA : Nat → ClassId) (sz : Nat) (ad : Nat → Nat) (T : Nat → Nat) (Bd : Nat → Nat) (E : Nat → Nat) (PT : Nat → Nat) (PB : Nat → Nat) (PE : Nat → Nat) (n : Nat) (tr : Nat → Nat) (le : Nat → Nat) (sl : Nat → Nat) (mo : Nat → Option Nat) (la : Nat → Bool) (fc : Nat → Nat) (bo : Nat → Nat → Nat) (nd : Nat) (mk : Nat → Nat) (ck : Nat → Int32) (ct : Nat → Nat) (hd : Nat → Option Nat) (pq : Nat → Int32) (nj : Nat) (fw : Nat → Int32) (jf : Nat → Nat) (dl : Nat → Nat) (dn : Nat) (oc : Nat) (s8 : Nat → Int32) (s9 : Nat → Int32) (s10 : Nat → Int32) (s11 : Nat → Int32) (s12 : Nat → Int32) (cf : Nat → Int32) (tf : Nat → Int32) (ff : Nat → Int32) (vf : Nat → Int32) (jj : Nat → Int32) (lt : Nat → Int32) (dd : Nat → Int32) (jt : Nat → Nat) (fin : Nat → Bool) (g : Nat → Nat) (cw : va_W) (hL : zL cA cw ad T Bd E PT PB PE n tr le sl mo la fc bo nd mk ck ct hd pq nj fw jf dl dn oc s8 s9 s10 s11 s12) (hI : zI n tr le sl mo fc bo nd mk ct hd pq nj fw jf dl) (hp : pL n tr le sl mo la fc bo nd mk ck ct hd pq nj fw jf dl dn cf tf ff vf jj lt dd jt fin) (y : Int32) : Met l yL_tapes wsL_tapes ({ frames := 10, cells := 8, slots := 64, locals := 194 }) (va_Pc [.ref (ad 0), .int (nI (6)), .int (y), .ref (g 0), .ref (g 1), .ref (g 3)] (zMW D cA ((g 0, zInts cA 4 cf) :: (g 1, zInts cA 24 tf) :: (g 2, zInts cA 24 ff) :: (g 3, zInts cA 10 vf) :: (g 4, zInts cA 40 jj) :: (g 5, zInts cA 20 lt) :: (g 6, zInts cA 20 dd) :: cw) sz)) (va_Qi (fun (r : Int32) (u : va_W) => r = bI true ∧ LV cA ad g u) (fun u => zB D (va_A ((g 0, zInts cA 4 cf) :: (g 1, zInts cA 24 tf) :: (g 2, zInts cA 24 ff) :: (g 3, zInts cA 10 vf) :: (g 4, zInts cA 40 jj) :: (g 5, zInts cA 20 lt) :: (g 6, zInts cA 20 dd) :: cw) sz) u) (va_A ((g 0, zInts cA 4 cf) :: (g 1, zInts cA 24 tf) :: (g 2, zInts cA 24 ff) :: (g 3, zInts cA 10 vf) :: (g 4, zInts cA 40 jj) :: (g 5, zInts cA 20 lt) :: (g 6, zInts cA 20 dd) :: cw) sz)) 8 64 (va_A ((g 0, zInts cA 4 cf) :: (g 1, zInts cA 24 tf) :: (g 2, zInts cA 24 ff) :: (g 3, zInts cA 10 vf) :: (g 4, zInts cA 40 jj) :: (g 5, zInts cA 20 lt) :: (g 6, zInts cA 20 dd) :: cw) sz) := by
  refine zOpen (cc := cL_tapes) (maxL := 14) (ret := (some .boolean)) (own := RL) (by decide) rfl rfl (Nat.le_of_ble_eq_true rfl) ?_
  intro p e s m below meth c ls hx hb hr hml hts hown hlocks hnm ⟨⟨⟨hZ, hP, hD0, hsz⟩, hX⟩, hN⟩ hl
  subst hsz
  have hD := hD0.self (sz := s.heap.size)
  generalize hAe : va_A ((g 0, zInts cA 4 cf) :: (g 1, zInts cA 24 tf) :: (g 2, zInts cA 24 ff) :: (g 3, zInts cA 10 vf) :: (g 4, zInts cA 40 jj) :: (g 5, zInts cA 20 lt) :: (g 6, zInts cA 20 dd) :: cw) s.heap.size = A at hD hX ⊢
  have hA : ∀ q : Nat, s.heap.size ≤ q → A q := fun q h => by rw [← hAe]; exact Or.inr h
  have hS : va_S A s.heap s.heap [] := va_S.rf
  have hl : lv_has ls 14 [(0, .ref (ad 0)), (1, .int (nI (6))), (2, .int (y)), (3, .ref (g 0)), (4, .ref (g 1)), (5, .ref (g 3))] := hl
  have hL0 := hL
  have l0 := hL.1.1
  obtain ⟨hn8, hd3, hj60, hIT, hID, hIJ, hIdl, hIw⟩ := id hI
  obtain ⟨⟨hn4, hd2, hj20⟩, ⟨c0, c1, c2, c3⟩, qT, qT0, qF, qV, qV0, qJ, qJ0, qW⟩ := id hp
  refine lv_iload_n hx hb dL_tapes_0 rfl (lv_at hl 2 rfl) ?_
  refine lv_aload_n hx hb dL_tapes_1 rfl (lv_at hl 3 rfl) ?_
  refine lv_iconst (v := nI (0)) hx hb dL_tapes_2 (by decide) ?_
  refine va_iald hx hb hZ.1 hP 0 0 rfl rfl (vp_in_nI (show 0 < 4 by omega) (by omega)) dL_tapes_3 ?_
  rw [nI_clamp (show 0 < 2 ^ 31 by omega)]
  refine zx_val (y := nI (n)) (c0) ?_
  refine lv_iconst (v := nI (1)) hx hb dL_tapes_4 (by decide) ?_
  refine zo_add hx hb dL_tapes_5 ?_
  refine zk_S_i (n := 2) (As := [.int (y), .int (nI (n + 1))]) (rest := []) hx hb hml hts hown hZ hP (c_L_some l D cA _ y (n + 1) (by omega) (by omega)) gL_tapes_L_some rfl ⟨rfl, rfl⟩ ⟨by decide +kernel, (Nat.le_of_ble_eq_true rfl), (Nat.le_of_ble_eq_true rfl)⟩ hl.1 rfl (Nat.le_of_ble_eq_true rfl) ⟨(Nat.le_of_ble_eq_true rfl), (Nat.le_of_ble_eq_true rfl)⟩ rfl dL_tapes_6 (fun r1 hr1 => ?_)
  obtain ⟨q1, hq1, hb1⟩ : ∃ z, r1 = nI z ∧ z < (n + 1) := ⟨_, hr1, sm_lt (by omega)⟩
  subst hq1
  refine lv_iload_n hx hb dL_tapes_9 rfl (lv_at hl 2 rfl) ?_
  refine lv_bipush (v := nI (9)) hx hb dL_tapes_10 (by decide) ?_
  refine lv_ishr hx hb dL_tapes_12 ?_
  refine lv_bipush (v := nI (19)) hx hb dL_tapes_13 (by decide) ?_
  refine zk_S_i (n := 2) (As := [.int ((y) >>> ((nI (9)) &&& 31)), .int (nI (19))]) (rest := [.int (nI (q1))]) hx hb hml hts hown hZ hP (c_L_some l D cA _ ((y) >>> ((nI (9)) &&& 31)) 19 (by omega) (by omega)) gL_tapes_L_some rfl ⟨rfl, rfl⟩ ⟨by decide +kernel, (Nat.le_of_ble_eq_true rfl), (Nat.le_of_ble_eq_true rfl)⟩ hl.1 rfl (Nat.le_of_ble_eq_true rfl) ⟨(Nat.le_of_ble_eq_true rfl), (Nat.le_of_ble_eq_true rfl)⟩ rfl dL_tapes_15 (fun r2 hr2 => ?_)
  obtain ⟨q2, hq2, hb2⟩ : ∃ z, r2 = nI z ∧ z < 19 := ⟨_, hr2, sm_lt (by omega)⟩
  subst hq2
  refine z_join (α := Nat) (pc' := 26) (fun v ls => lv_has ls 14 [(0, .ref (ad 0)), (1, .int (nI (6))), (2, .int (y)), (3, .ref (g 0)), (4, .ref (g 1)), (5, .ref (g 3))] ∧ v ≤ 1) (fun v => [.int (nI (v)), .int (nI (q1))]) ?_ (fun J26 => ?_)
  · intro x1 ls hv
    obtain ⟨hl, hI26⟩ := hv
    have hl : lv_has ls 14 [(0, .ref (ad 0)), (1, .int (nI (6))), (2, .int (y)), (3, .ref (g 0)), (4, .ref (g 1)), (5, .ref (g 3))] := hl
    have hI26 : x1 ≤ 1 := hI26
    obtain ⟨va, hva, hAq⟩ := tapes_va hn4 hb1 hI26
    refine lv_isub hx hb dL_tapes_26 ?_
    refine zx_val (y := va) hva ?_
    refine lv_istore (lv' := [(6, .int (va)), (0, .ref (ad 0)), (1, .int (nI (6))), (2, .int (y)), (3, .ref (g 0)), (4, .ref (g 1)), (5, .ref (g 3))]) hx hb dL_tapes_27 hl (by decide) rfl (fun ls hl => ?_)
    refine z_join (α := Bool) (pc' := 47) (fun bA ls => lv_has ls 14 [(0, .ref (ad 0)), (1, .int (nI (6))), (2, .int (y)), (3, .ref (g 0)), (4, .ref (g 1)), (5, .ref (g 3)), (6, .int (va))] ∧ ((bA = true ∧ ∃ a, a < n ∧ va = nI a) ∨ (bA = false ∧ ∀ j, j < n → va ≠ nI j))) (fun bA => [.int (bI bA)]) ?_ (fun J47 => ?_)
    · intro bA ls hv
      obtain ⟨hl, hAA⟩ := hv
      have hl : lv_has ls 14 [(0, .ref (ad 0)), (1, .int (nI (6))), (2, .int (y)), (3, .ref (g 0)), (4, .ref (g 1)), (5, .ref (g 3)), (6, .int (va))] := hl
      refine lv_istore (lv' := [(7, .int (bI (bA))), (0, .ref (ad 0)), (1, .int (nI (6))), (2, .int (y)), (3, .ref (g 0)), (4, .ref (g 1)), (5, .ref (g 3)), (6, .int (va))]) hx hb dL_tapes_47 hl (by decide) rfl (fun ls hl => ?_)
      refine lv_iload_n hx hb dL_tapes_49 rfl (lv_at hl 3 rfl) ?_
      refine lv_iconst (v := nI (3)) hx hb dL_tapes_50 (by decide) ?_
      refine lv_ishr hx hb dL_tapes_51 ?_
      refine lv_aload_n hx hb dL_tapes_52 rfl (lv_at hl 4 rfl) ?_
      refine lv_iconst (v := nI (1)) hx hb dL_tapes_53 (by decide) ?_
      refine va_iald hx hb hZ.1 hP 0 0 rfl rfl (vp_in_nI (show 1 < 4 by omega) (by omega)) dL_tapes_54 ?_
      rw [nI_clamp (show 1 < 2 ^ 31 by omega)]
      refine zx_val (y := nI (nd)) (c1) ?_
      refine lv_iload_n hx hb dL_tapes_55 rfl (lv_at hl 3 rfl) ?_
      refine lv_bipush (v := nI (7)) hx hb dL_tapes_56 (by decide) ?_
      refine lv_ishr hx hb dL_tapes_58 ?_
      refine lv_bipush (v := nI (9)) hx hb dL_tapes_59 (by decide) ?_
      refine zk_S_i (n := 2) (As := [.int ((y) >>> ((nI (7)) &&& 31)), .int (nI (9))]) (rest := [.int (nI (nd)), .int ((y) >>> ((nI (3)) &&& 31))]) hx hb hml hts hown hZ hP (c_L_some l D cA _ ((y) >>> ((nI (7)) &&& 31)) 9 (by omega) (by omega)) gL_tapes_L_some rfl ⟨rfl, rfl⟩ ⟨by decide +kernel, (Nat.le_of_ble_eq_true rfl), (Nat.le_of_ble_eq_true rfl)⟩ hl.1 rfl (Nat.le_of_ble_eq_true rfl) ⟨(Nat.le_of_ble_eq_true rfl), (Nat.le_of_ble_eq_true rfl)⟩ rfl dL_tapes_61 (fun r3 hr3 => ?_)
      obtain ⟨q3, hq3, hb3⟩ : ∃ z, r3 = nI z ∧ z < 9 := ⟨_, hr3, sm_lt (by omega)⟩
      subst hq3
      refine z_join (α := Nat) (pc' := 78) (fun v ls => lv_has ls 14 [(0, .ref (ad 0)), (1, .int (nI (6))), (2, .int (y)), (3, .ref (g 0)), (4, .ref (g 1)), (5, .ref (g 3)), (6, .int (va)), (7, .int (bI (bA)))] ∧ v ≤ 1 ∧ (nd = 0 → v = 1)) (fun v => [.int (nI (v)), .int (nI (nd)), .int ((y) >>> ((nI (3)) &&& 31))]) ?_ (fun J78 => ?_)
      · intro x2 ls hv
        obtain ⟨hl, hI78⟩ := hv
        have hl : lv_has ls 14 [(0, .ref (ad 0)), (1, .int (nI (6))), (2, .int (y)), (3, .ref (g 0)), (4, .ref (g 1)), (5, .ref (g 3)), (6, .int (va)), (7, .int (bI (bA)))] := hl
        have hI78 : x2 ≤ 1 ∧ (nd = 0 → x2 = 1) := hI78
        refine zo_add hx hb dL_tapes_78 ?_
        obtain ⟨hx2, hx20⟩ := hI78
        refine zk_S_i (n := 2) (As := [.int ((y) >>> ((nI (3)) &&& 31)), .int (nI (nd + x2))]) (rest := []) hx hb hml hts hown hZ hP (c_L_some l D cA _ ((y) >>> ((nI (3)) &&& 31)) (nd + x2) (by omega) (by omega)) gL_tapes_L_some rfl ⟨rfl, rfl⟩ ⟨by decide +kernel, (Nat.le_of_ble_eq_true rfl), (Nat.le_of_ble_eq_true rfl)⟩ hl.1 rfl (Nat.le_of_ble_eq_true rfl) ⟨(Nat.le_of_ble_eq_true rfl), (Nat.le_of_ble_eq_true rfl)⟩ rfl dL_tapes_79 (fun r4 hr4 => ?_)
        obtain ⟨q4, hq4, hb4⟩ : ∃ z, r4 = nI z ∧ z < (nd + x2) := ⟨_, hr4, sm_lt (by omega)⟩
        subst hq4
        refine lv_istore (lv' := [(8, .int (nI (q4))), (0, .ref (ad 0)), (1, .int (nI (6))), (2, .int (y)), (3, .ref (g 0)), (4, .ref (g 1)), (5, .ref (g 3)), (6, .int (va)), (7, .int (bI (bA)))]) hx hb dL_tapes_82 hl (by decide) rfl (fun ls hl => ?_)
        refine z_join (α := Bool) (pc' := 97) (fun v ls => lv_has ls 14 [(0, .ref (ad 0)), (1, .int (nI (6))), (2, .int (y)), (3, .ref (g 0)), (4, .ref (g 1)), (5, .ref (g 3)), (6, .int (va)), (7, .int (bI (bA))), (8, .int (nI (q4)))] ∧ v = decide (q4 < nd)) (fun v => [.int (bI (v))]) ?_ (fun J97 => ?_)
        · intro bD ls hv
          obtain ⟨hl, hI97⟩ := hv
          have hl : lv_has ls 14 [(0, .ref (ad 0)), (1, .int (nI (6))), (2, .int (y)), (3, .ref (g 0)), (4, .ref (g 1)), (5, .ref (g 3)), (6, .int (va)), (7, .int (bI (bA))), (8, .int (nI (q4)))] := hl
          have hI97 : bD = decide (q4 < nd) := hI97
          have hDd : q4 ≤ nd := by omega
          refine lv_istore (lv' := [(9, .int (bI (bD))), (0, .ref (ad 0)), (1, .int (nI (6))), (2, .int (y)), (3, .ref (g 0)), (4, .ref (g 1)), (5, .ref (g 3)), (6, .int (va)), (7, .int (bI (bA))), (8, .int (nI (q4)))]) hx hb dL_tapes_97 hl (by decide) rfl (fun ls hl => ?_)
          refine lv_iload_n hx hb dL_tapes_99 rfl (lv_at hl 2 rfl) ?_
          refine zf_ne (tgt := 290) hx hb (by omega) dL_tapes_100 (by decide) (fun c_1 => ?_) (fun c_1 => False.elim (by omega))
          refine lv_iload_n hx hb dL_tapes_290 rfl (lv_at hl 2 rfl) ?_
          refine lv_iconst (v := nI (1)) hx hb dL_tapes_291 (by decide) ?_
          refine zc_ne (tgt := 392) hx hb (by omega) (by omega) dL_tapes_292 (by decide) (fun c_2 => ?_) (fun c_2 => False.elim (by omega))
          refine lv_iload_n hx hb dL_tapes_392 rfl (lv_at hl 2 rfl) ?_
          refine lv_iconst (v := nI (2)) hx hb dL_tapes_393 (by decide) ?_
          refine zc_ne (tgt := 550) hx hb (by omega) (by omega) dL_tapes_394 (by decide) (fun c_3 => ?_) (fun c_3 => False.elim (by omega))
          refine lv_iload_n hx hb dL_tapes_550 rfl (lv_at hl 2 rfl) ?_
          refine lv_iconst (v := nI (3)) hx hb dL_tapes_551 (by decide) ?_
          refine zc_ne (tgt := 710) hx hb (by omega) (by omega) dL_tapes_552 (by decide) (fun c_4 => ?_) (fun c_4 => False.elim (by omega))
          refine lv_iload_n hx hb dL_tapes_710 rfl (lv_at hl 2 rfl) ?_
          refine lv_iconst (v := nI (4)) hx hb dL_tapes_711 (by decide) ?_
          refine zc_ne (tgt := 862) hx hb (by omega) (by omega) dL_tapes_712 (by decide) (fun c_5 => ?_) (fun c_5 => False.elim (by omega))
          refine lv_iload_n hx hb dL_tapes_862 rfl (lv_at hl 2 rfl) ?_
          refine lv_iconst (v := nI (5)) hx hb dL_tapes_863 (by decide) ?_
          refine zc_ne (tgt := 971) hx hb (by omega) (by omega) dL_tapes_864 (by decide) (fun c_6 => ?_) (fun c_6 => False.elim (by omega))
          refine lv_iload_n hx hb dL_tapes_971 rfl (lv_at hl 2 rfl) ?_
          refine lv_bipush (v := nI (6)) hx hb dL_tapes_972 (by decide) ?_
          refine lv_icmp_ne (tgt := 1068) hx hb dL_tapes_974 (by decide) (fun c_7 => absurd rfl c_7) (fun c_7 => ?_)
          rcases hAA with ⟨rfl, a, han, hva1⟩ | ⟨rfl, hAn⟩
          · rw [hva1] at hl
            obtain ⟨qa1, qa2, qa3, qa4, qa5, qa6, qa7⟩ := qT a han
            obtain ⟨t1, t2, t3, t4, t5, t6, t7, t8, t9x, t10⟩ := hIT a han
            rcases hmo : mo a with _ | j0
            · have qm : tf (12 + a) = -1 := by rw [qa4, hmo]; rfl
              cases hla : la a
              · have qn : tf (16 + a) = bI true := by rw [qa5, hla]; rfl
                refine lv_iload hx hb dL_tapes_977 (lv_at hl 8 rfl) ?_
                refine zb_eq (tgt := 1008) hx hb dL_tapes_979 (by decide) (fun c_8 => Bool.noConfusion c_8) (fun c_8 => ?_)
                refine lv_aload hx hb dL_tapes_982 (lv_at hl 5 rfl) ?_
                refine lv_bipush (v := nI (12)) hx hb dL_tapes_984 (by decide) ?_
                refine lv_iload hx hb dL_tapes_986 (lv_at hl 7 rfl) ?_
                refine zo_add hx hb dL_tapes_988 ?_
                refine va_iald hx hb hZ.1 hP 1 0 rfl rfl (vp_in_nI (show 12 + a < 24 by omega) (by omega)) dL_tapes_989 ?_
                rw [nI_clamp (show 12 + a < 2 ^ 31 by omega)]
                refine zx_val (y := (-1)) (qm) ?_
                refine lv_if_ge (tgt := 1008) hx hb dL_tapes_990 (by decide) (fun c_9 => absurd c_9 (by decide)) (fun c_9 => ?_)
                refine lv_aload hx hb dL_tapes_993 (lv_at hl 5 rfl) ?_
                refine lv_bipush (v := nI (16)) hx hb dL_tapes_995 (by decide) ?_
                refine lv_iload hx hb dL_tapes_997 (lv_at hl 7 rfl) ?_
                refine zo_add hx hb dL_tapes_999 ?_
                refine va_iald hx hb hZ.1 hP 1 0 rfl rfl (vp_in_nI (show 16 + a < 24 by omega) (by omega)) dL_tapes_1000 ?_
                rw [nI_clamp (show 16 + a < 2 ^ 31 by omega)]
                refine zx_val (y := bI (true)) (qn) ?_
                refine zb_ne (tgt := 1008) hx hb dL_tapes_1001 (by decide) (fun c_10 => ?_) (fun c_10 => Bool.noConfusion c_10)
                refine lv_iconst (v := bI (false)) hx hb dL_tapes_1008 (by decide) ?_
                refine lv_istore (lv' := [(10, .int (bI (false))), (9, .int (bI (bD))), (0, .ref (ad 0)), (1, .int (nI (6))), (2, .int (y)), (3, .ref (g 0)), (4, .ref (g 1)), (5, .ref (g 3)), (6, .int (nI (a))), (7, .int (bI (true))), (8, .int (nI (q4)))]) hx hb dL_tapes_1009 hl (by decide) rfl (fun ls hl => ?_)
                refine lv_iload hx hb dL_tapes_1011 (lv_at hl 0 rfl) ?_
                refine zb_eq (tgt := 1025) hx hb dL_tapes_1013 (by decide) (fun c_11 => ?_) (fun c_11 => Bool.noConfusion c_11)
                refine lv_aload_n hx hb dL_tapes_1025 rfl (lv_at hl 2 rfl) ?_
                refine lv_bipush (v := nI (6)) hx hb dL_tapes_1026 (by decide) ?_
                refine lv_iload hx hb dL_tapes_1028 (lv_at hl 8 rfl) ?_
                refine ze_H_i (n := 3) (mc := 2) (ms := 12) (ws := cw) (es := [(g 0, zInts cA 4 cf), (g 1, zInts cA 24 tf), (g 2, zInts cA 24 ff), (g 3, zInts cA 10 vf), (g 4, zInts cA 40 jj), (g 5, zInts cA 20 lt), (g 6, zInts cA 20 dd)]) (As := [.ref (ad 0), .int (nI (6)), .int (nI (a))]) (rest := []) hx hb hml hts hown hZ hX hN [0, 1, 2, 3, 4, 5, 6] rfl rfl hP hD hS hA (c_L_one_6 l D cA _ cw (ad 0) _ l0 _ _ _ _ (kS (ix (nI (a)) n) (fun t => !(mo t).isSome && la t)) (nI (a)) (fun sz9 => c_X4_lose l hlt D cA sz9 cw ad T Bd E PT PB PE n tr le sl mo la fc bo nd mk ck ct hd pq nj fw jf dl dn oc s8 s9 s10 s11 s12 hL hI (nI (a))) (fun _ _ h => h)) gL_tapes_L_one rfl ⟨rfl, rfl⟩ ⟨by decide +kernel, (Nat.le_of_ble_eq_true rfl), (Nat.le_of_ble_eq_true rfl)⟩ hl.1 rfl (Nat.le_of_ble_eq_true rfl) ⟨(Nat.le_of_ble_eq_true rfl), (Nat.le_of_ble_eq_true rfl)⟩ rfl dL_tapes_1030 (fun r9 u9 H locs hp9 hP hD hS hz => ?_)
                rcases u9 with ⟨t9, w1⟩ | u9
                · dsimp only [zwP] at hp9
                  obtain ⟨htn, hv0, ⟨hmt, hla9⟩, hr9, hkp, hL1⟩ := hp9
                  have e9 := (nI_eq (by omega) (by omega)).mp hv0
                  rw [← e9, hla] at hla9; cases hla9
                · dsimp only [zwP] at hp9
                  obtain ⟨hr9, hK9, E9, hE9⟩ := hp9
                  have hr9 : r9 = (-102) := by rw [hr9, show (kS (ix (nI (a)) n) (fun t => !(mo t).isSome && la t)) = 2 from kS_n (ix_in (by omega) han) (by rw [hmo, hla]; rfl)]; rfl
                  subst hr9
                  have hP : va_P D vwCl ((g 0, zInts cA 4 cf) :: (g 1, zInts cA 24 tf) :: (g 2, zInts cA 24 ff) :: (g 3, zInts cA 10 vf) :: (g 4, zInts cA 40 jj) :: (g 5, zInts cA 20 lt) :: (g 6, zInts cA 20 dd) :: cw) H := hP
                  have hD : va_D A ((g 0, zInts cA 4 cf) :: (g 1, zInts cA 24 tf) :: (g 2, zInts cA 24 ff) :: (g 3, zInts cA 10 vf) :: (g 4, zInts cA 40 jj) :: (g 5, zInts cA 20 lt) :: (g 6, zInts cA 20 dd) :: cw) := hD
                  refine lv_iload hx hb dL_tapes_1033 (lv_at hl 9 rfl) ?_
                  refine zb_ne (tgt := 1043) hx hb dL_tapes_1035 (by decide) (fun c_12 => ?_) (fun c_12 => Bool.noConfusion c_12)
                  refine lv_iload hx hb dL_tapes_1043 (lv_at hl 0 rfl) ?_
                  refine zb_eq (tgt := 1057) hx hb dL_tapes_1045 (by decide) (fun c_13 => ?_) (fun c_13 => Bool.noConfusion c_13)
                  refine lv_bipush (v := (-102)) hx hb dL_tapes_1057 (by decide) ?_
                  refine lv_icmp_ne (tgt := 1066) hx hb dL_tapes_1059 (by decide) (fun c_14 => absurd rfl c_14) (fun c_14 => ?_)
                  refine lv_iconst (v := bI (true)) hx hb dL_tapes_1062 (by decide) ?_
                  refine lv_goto (tgt := 1067) hx hb dL_tapes_1063 (by decide) ?_
                  exact W.widen (k := 8) (n := 64) (by omega) (by omega) (zr_qz (S := va_W) (post := (fun (r : Int32) (u : va_W) => r = bI true ∧ LV cA ad g u)) (w1 := fun u => u) ((g 0, zInts cA 4 cf) :: (g 1, zInts cA 24 tf) :: (g 2, zInts cA 24 ff) :: (g 3, zInts cA 10 vf) :: (g 4, zInts cA 40 jj) :: (g 5, zInts cA 20 lt) :: (g 6, zInts cA 20 dd) :: cw) hx hb hr hlocks ⟨rfl, ⟨_, _, _, _, _, _, _, _, _, _, _, _, _, _, _, _, _, _, _, _, _, _, _, _, _, _, _, _, _, _, _, _, _, _, _, _, _, _, _, _, cw, rfl, hL, hI, hp⟩⟩ hP hD hS rfl dL_tapes_1067)
              · have qn : tf (16 + a) = bI false := by rw [qa5, hla]; rfl
                refine lv_iload hx hb dL_tapes_977 (lv_at hl 8 rfl) ?_
                refine zb_eq (tgt := 1008) hx hb dL_tapes_979 (by decide) (fun c_15 => Bool.noConfusion c_15) (fun c_15 => ?_)
                refine lv_aload hx hb dL_tapes_982 (lv_at hl 5 rfl) ?_
                refine lv_bipush (v := nI (12)) hx hb dL_tapes_984 (by decide) ?_
                refine lv_iload hx hb dL_tapes_986 (lv_at hl 7 rfl) ?_
                refine zo_add hx hb dL_tapes_988 ?_
                refine va_iald hx hb hZ.1 hP 1 0 rfl rfl (vp_in_nI (show 12 + a < 24 by omega) (by omega)) dL_tapes_989 ?_
                rw [nI_clamp (show 12 + a < 2 ^ 31 by omega)]
                refine zx_val (y := (-1)) (qm) ?_
                refine lv_if_ge (tgt := 1008) hx hb dL_tapes_990 (by decide) (fun c_16 => absurd c_16 (by decide)) (fun c_16 => ?_)
                refine lv_aload hx hb dL_tapes_993 (lv_at hl 5 rfl) ?_
                refine lv_bipush (v := nI (16)) hx hb dL_tapes_995 (by decide) ?_
                refine lv_iload hx hb dL_tapes_997 (lv_at hl 7 rfl) ?_
                refine zo_add hx hb dL_tapes_999 ?_
                refine va_iald hx hb hZ.1 hP 1 0 rfl rfl (vp_in_nI (show 16 + a < 24 by omega) (by omega)) dL_tapes_1000 ?_
                rw [nI_clamp (show 16 + a < 2 ^ 31 by omega)]
                refine zx_val (y := bI (false)) (qn) ?_
                refine zb_ne (tgt := 1008) hx hb dL_tapes_1001 (by decide) (fun c_17 => Bool.noConfusion c_17) (fun c_17 => ?_)
                refine lv_iconst (v := bI (true)) hx hb dL_tapes_1004 (by decide) ?_
                refine lv_goto (tgt := 1009) hx hb dL_tapes_1005 (by decide) ?_
                refine lv_istore (lv' := [(10, .int (bI (true))), (9, .int (bI (bD))), (0, .ref (ad 0)), (1, .int (nI (6))), (2, .int (y)), (3, .ref (g 0)), (4, .ref (g 1)), (5, .ref (g 3)), (6, .int (nI (a))), (7, .int (bI (true))), (8, .int (nI (q4)))]) hx hb dL_tapes_1009 hl (by decide) rfl (fun ls hl => ?_)
                refine lv_iload hx hb dL_tapes_1011 (lv_at hl 0 rfl) ?_
                refine zb_eq (tgt := 1025) hx hb dL_tapes_1013 (by decide) (fun c_18 => Bool.noConfusion c_18) (fun c_18 => ?_)
                obtain ⟨hI2, hp2⟩ := J_lose (t := a) hI hp han
                refine lv_aload hx hb dL_tapes_1016 (lv_at hl 6 rfl) ?_
                refine lv_bipush (v := nI (16)) hx hb dL_tapes_1018 (by decide) ?_
                refine lv_iload hx hb dL_tapes_1020 (lv_at hl 8 rfl) ?_
                refine zo_add hx hb dL_tapes_1022 ?_
                refine lv_iconst (v := nI (1)) hx hb dL_tapes_1023 (by decide) ?_
                refine va_iast hx hb hZ.1 hP hD hS 1 0 rfl rfl (vp_in_nI (show 16 + a < 24 by omega) (by omega)) dL_tapes_1024 (fun H locs hP hD hS => ?_)
                rw [nI_clamp (show 16 + a < 2 ^ 31 by omega)] at hP hD
                have hP : va_P D vwCl ((g 0, zInts cA 4 cf) :: (g 1, zInts cA 24 (upd tf (16 + a) (nI (1)))) :: (g 2, zInts cA 24 ff) :: (g 3, zInts cA 10 vf) :: (g 4, zInts cA 40 jj) :: (g 5, zInts cA 20 lt) :: (g 6, zInts cA 20 dd) :: cw) H := hP
                have hD : va_D A ((g 0, zInts cA 4 cf) :: (g 1, zInts cA 24 (upd tf (16 + a) (nI (1)))) :: (g 2, zInts cA 24 ff) :: (g 3, zInts cA 10 vf) :: (g 4, zInts cA 40 jj) :: (g 5, zInts cA 20 lt) :: (g 6, zInts cA 20 dd) :: cw) := hD
                refine lv_aload_n hx hb dL_tapes_1025 rfl (lv_at hl 2 rfl) ?_
                refine lv_bipush (v := nI (6)) hx hb dL_tapes_1026 (by decide) ?_
                refine lv_iload hx hb dL_tapes_1028 (lv_at hl 8 rfl) ?_
                refine ze_H_i (n := 3) (mc := 2) (ms := 12) (ws := cw) (es := [(g 0, zInts cA 4 cf), (g 1, zInts cA 24 (upd tf (16 + a) (nI (1)))), (g 2, zInts cA 24 ff), (g 3, zInts cA 10 vf), (g 4, zInts cA 40 jj), (g 5, zInts cA 20 lt), (g 6, zInts cA 20 dd)]) (As := [.ref (ad 0), .int (nI (6)), .int (nI (a))]) (rest := []) hx hb hml hts hown hZ hX hN [0, 1, 2, 3, 4, 5, 6] rfl rfl hP hD hS hA (c_L_one_6 l D cA _ cw (ad 0) _ l0 _ _ _ _ (kS (ix (nI (a)) n) (fun t => !(mo t).isSome && la t)) (nI (a)) (fun sz9 => c_X4_lose l hlt D cA sz9 cw ad T Bd E PT PB PE n tr le sl mo la fc bo nd mk ck ct hd pq nj fw jf dl dn oc s8 s9 s10 s11 s12 hL hI (nI (a))) (fun _ _ h => h)) gL_tapes_L_one rfl ⟨rfl, rfl⟩ ⟨by decide +kernel, (Nat.le_of_ble_eq_true rfl), (Nat.le_of_ble_eq_true rfl)⟩ hl.1 rfl (Nat.le_of_ble_eq_true rfl) ⟨(Nat.le_of_ble_eq_true rfl), (Nat.le_of_ble_eq_true rfl)⟩ rfl dL_tapes_1030 (fun r9 u9 H locs hp9 hP hD hS hz => ?_)
                rcases u9 with ⟨t9, w1⟩ | u9
                · dsimp only [zwP] at hp9
                  obtain ⟨htn, hv0, ⟨hmt, hla9⟩, hr9, hkp, hL1⟩ := hp9
                  have e9 := (nI_eq (by omega) (by omega)).mp hv0
                  subst e9; subst hr9
                  have hP : va_P D vwCl ((g 0, zInts cA 4 cf) :: (g 1, zInts cA 24 (upd tf (16 + a) (nI (1)))) :: (g 2, zInts cA 24 ff) :: (g 3, zInts cA 10 vf) :: (g 4, zInts cA 40 jj) :: (g 5, zInts cA 20 lt) :: (g 6, zInts cA 20 dd) :: w1) H := hP
                  have hD : va_D A ((g 0, zInts cA 4 cf) :: (g 1, zInts cA 24 (upd tf (16 + a) (nI (1)))) :: (g 2, zInts cA 24 ff) :: (g 3, zInts cA 10 vf) :: (g 4, zInts cA 40 jj) :: (g 5, zInts cA 20 lt) :: (g 6, zInts cA 20 dd) :: w1) := hD
                  refine lv_iload hx hb dL_tapes_1033 (lv_at hl 9 rfl) ?_
                  refine zb_ne (tgt := 1043) hx hb dL_tapes_1035 (by decide) (fun c_19 => ?_) (fun c_19 => Bool.noConfusion c_19)
                  refine lv_iload hx hb dL_tapes_1043 (lv_at hl 0 rfl) ?_
                  refine zb_eq (tgt := 1057) hx hb dL_tapes_1045 (by decide) (fun c_20 => Bool.noConfusion c_20) (fun c_20 => ?_)
                  refine lv_aload_n hx hb dL_tapes_1048 rfl (lv_at hl 5 rfl) ?_
                  refine lv_aload hx hb dL_tapes_1049 (lv_at hl 6 rfl) ?_
                  refine zk_S_i (n := 2) (As := [.ref (g 0), .ref (g 1)]) (rest := [.int (nI (cnt (fun i => !(va_up la a false) i) n))]) hx hb hml hts hown hZ hP (c_L_lost l D cA ((g 0, zInts cA 4 cf) :: (g 1, zInts cA 24 (upd tf (16 + a) (nI (1)))) :: (g 2, zInts cA 24 ff) :: (g 3, zInts cA 10 vf) :: (g 4, zInts cA 40 jj) :: (g 5, zInts cA 20 lt) :: (g 6, zInts cA 20 dd) :: w1) 0 (g 0) cf rfl 1 (g 1) (upd tf (16 + a) (nI (1))) rfl n (va_up la a false) c0 hn4 (fun i hi => (hp2.2.2.1 i hi).2.2.2.2.1)) gL_tapes_L_lost rfl ⟨rfl, rfl⟩ ⟨by decide +kernel, (Nat.le_of_ble_eq_true rfl), (Nat.le_of_ble_eq_true rfl)⟩ hl.1 rfl (Nat.le_of_ble_eq_true rfl) ⟨(Nat.le_of_ble_eq_true rfl), (Nat.le_of_ble_eq_true rfl)⟩ rfl dL_tapes_1051 (fun r5 hr5 => ?_)
                  obtain rfl := show r5 = nI (cnt (fun i => !(va_up la a false) i) n) from hr5
                  refine lv_goto (tgt := 1059) hx hb dL_tapes_1054 (by decide) ?_
                  refine lv_icmp_ne (tgt := 1066) hx hb dL_tapes_1059 (by decide) (fun c_21 => absurd rfl c_21) (fun c_21 => ?_)
                  refine lv_iconst (v := bI (true)) hx hb dL_tapes_1062 (by decide) ?_
                  refine lv_goto (tgt := 1067) hx hb dL_tapes_1063 (by decide) ?_
                  exact W.widen (k := 8) (n := 64) (by omega) (by omega) (zr_qz (S := va_W) (post := (fun (r : Int32) (u : va_W) => r = bI true ∧ LV cA ad g u)) (w1 := fun u => u) ((g 0, zInts cA 4 cf) :: (g 1, zInts cA 24 (upd tf (16 + a) (nI (1)))) :: (g 2, zInts cA 24 ff) :: (g 3, zInts cA 10 vf) :: (g 4, zInts cA 40 jj) :: (g 5, zInts cA 20 lt) :: (g 6, zInts cA 20 dd) :: w1) hx hb hr hlocks ⟨rfl, ⟨_, _, _, _, _, _, _, _, _, _, _, _, _, _, _, _, _, _, _, _, _, _, _, _, _, _, _, _, _, _, _, _, _, _, _, _, _, _, _, _, w1, rfl, hL1, hI2, hp2⟩⟩ hP hD hS rfl dL_tapes_1067)
                · exact absurd (show (kS (ix (nI (a)) n) (fun t => !(mo t).isSome && la t)) = 0 from kS_y (ix_in (by omega) han) (by rw [hmo, hla]; rfl)) hp9.2.1
            · have qm : tf (12 + a) = nI j0 := by rw [qa4, hmo]; rfl
              have hj9 := (t6 j0 hmo).1
              refine lv_iload hx hb dL_tapes_977 (lv_at hl 8 rfl) ?_
              refine zb_eq (tgt := 1008) hx hb dL_tapes_979 (by decide) (fun c_22 => Bool.noConfusion c_22) (fun c_22 => ?_)
              refine lv_aload hx hb dL_tapes_982 (lv_at hl 5 rfl) ?_
              refine lv_bipush (v := nI (12)) hx hb dL_tapes_984 (by decide) ?_
              refine lv_iload hx hb dL_tapes_986 (lv_at hl 7 rfl) ?_
              refine zo_add hx hb dL_tapes_988 ?_
              refine va_iald hx hb hZ.1 hP 1 0 rfl rfl (vp_in_nI (show 12 + a < 24 by omega) (by omega)) dL_tapes_989 ?_
              rw [nI_clamp (show 12 + a < 2 ^ 31 by omega)]
              refine zx_val (y := nI (j0)) (qm) ?_
              refine zf_ge (tgt := 1008) hx hb (by omega) dL_tapes_990 (by decide) ?_
              refine lv_iconst (v := bI (false)) hx hb dL_tapes_1008 (by decide) ?_
              refine lv_istore (lv' := [(10, .int (bI (false))), (9, .int (bI (bD))), (0, .ref (ad 0)), (1, .int (nI (6))), (2, .int (y)), (3, .ref (g 0)), (4, .ref (g 1)), (5, .ref (g 3)), (6, .int (nI (a))), (7, .int (bI (true))), (8, .int (nI (q4)))]) hx hb dL_tapes_1009 hl (by decide) rfl (fun ls hl => ?_)
              refine lv_iload hx hb dL_tapes_1011 (lv_at hl 0 rfl) ?_
              refine zb_eq (tgt := 1025) hx hb dL_tapes_1013 (by decide) (fun c_24 => ?_) (fun c_24 => Bool.noConfusion c_24)
              refine lv_aload_n hx hb dL_tapes_1025 rfl (lv_at hl 2 rfl) ?_
              refine lv_bipush (v := nI (6)) hx hb dL_tapes_1026 (by decide) ?_
              refine lv_iload hx hb dL_tapes_1028 (lv_at hl 8 rfl) ?_
              refine ze_H_i (n := 3) (mc := 2) (ms := 12) (ws := cw) (es := [(g 0, zInts cA 4 cf), (g 1, zInts cA 24 tf), (g 2, zInts cA 24 ff), (g 3, zInts cA 10 vf), (g 4, zInts cA 40 jj), (g 5, zInts cA 20 lt), (g 6, zInts cA 20 dd)]) (As := [.ref (ad 0), .int (nI (6)), .int (nI (a))]) (rest := []) hx hb hml hts hown hZ hX hN [0, 1, 2, 3, 4, 5, 6] rfl rfl hP hD hS hA (c_L_one_6 l D cA _ cw (ad 0) _ l0 _ _ _ _ (kS (ix (nI (a)) n) (fun t => !(mo t).isSome && la t)) (nI (a)) (fun sz9 => c_X4_lose l hlt D cA sz9 cw ad T Bd E PT PB PE n tr le sl mo la fc bo nd mk ck ct hd pq nj fw jf dl dn oc s8 s9 s10 s11 s12 hL hI (nI (a))) (fun _ _ h => h)) gL_tapes_L_one rfl ⟨rfl, rfl⟩ ⟨by decide +kernel, (Nat.le_of_ble_eq_true rfl), (Nat.le_of_ble_eq_true rfl)⟩ hl.1 rfl (Nat.le_of_ble_eq_true rfl) ⟨(Nat.le_of_ble_eq_true rfl), (Nat.le_of_ble_eq_true rfl)⟩ rfl dL_tapes_1030 (fun r9 u9 H locs hp9 hP hD hS hz => ?_)
              rcases u9 with ⟨t9, w1⟩ | u9
              · dsimp only [zwP] at hp9
                obtain ⟨htn, hv0, ⟨hmt, hla9⟩, hr9, hkp, hL1⟩ := hp9
                have e9 := (nI_eq (by omega) (by omega)).mp hv0
                rw [← e9, hmo] at hmt; cases hmt
              · dsimp only [zwP] at hp9
                obtain ⟨hr9, hK9, E9, hE9⟩ := hp9
                have hr9 : r9 = (-102) := by rw [hr9, show (kS (ix (nI (a)) n) (fun t => !(mo t).isSome && la t)) = 2 from kS_n (ix_in (by omega) han) (by rw [hmo]; rfl)]; rfl
                subst hr9
                have hP : va_P D vwCl ((g 0, zInts cA 4 cf) :: (g 1, zInts cA 24 tf) :: (g 2, zInts cA 24 ff) :: (g 3, zInts cA 10 vf) :: (g 4, zInts cA 40 jj) :: (g 5, zInts cA 20 lt) :: (g 6, zInts cA 20 dd) :: cw) H := hP
                have hD : va_D A ((g 0, zInts cA 4 cf) :: (g 1, zInts cA 24 tf) :: (g 2, zInts cA 24 ff) :: (g 3, zInts cA 10 vf) :: (g 4, zInts cA 40 jj) :: (g 5, zInts cA 20 lt) :: (g 6, zInts cA 20 dd) :: cw) := hD
                refine lv_iload hx hb dL_tapes_1033 (lv_at hl 9 rfl) ?_
                refine zb_ne (tgt := 1043) hx hb dL_tapes_1035 (by decide) (fun c_25 => ?_) (fun c_25 => Bool.noConfusion c_25)
                refine lv_iload hx hb dL_tapes_1043 (lv_at hl 0 rfl) ?_
                refine zb_eq (tgt := 1057) hx hb dL_tapes_1045 (by decide) (fun c_26 => ?_) (fun c_26 => Bool.noConfusion c_26)
                refine lv_bipush (v := (-102)) hx hb dL_tapes_1057 (by decide) ?_
                refine lv_icmp_ne (tgt := 1066) hx hb dL_tapes_1059 (by decide) (fun c_27 => absurd rfl c_27) (fun c_27 => ?_)
                refine lv_iconst (v := bI (true)) hx hb dL_tapes_1062 (by decide) ?_
                refine lv_goto (tgt := 1067) hx hb dL_tapes_1063 (by decide) ?_
                exact W.widen (k := 8) (n := 64) (by omega) (by omega) (zr_qz (S := va_W) (post := (fun (r : Int32) (u : va_W) => r = bI true ∧ LV cA ad g u)) (w1 := fun u => u) ((g 0, zInts cA 4 cf) :: (g 1, zInts cA 24 tf) :: (g 2, zInts cA 24 ff) :: (g 3, zInts cA 10 vf) :: (g 4, zInts cA 40 jj) :: (g 5, zInts cA 20 lt) :: (g 6, zInts cA 20 dd) :: cw) hx hb hr hlocks ⟨rfl, ⟨_, _, _, _, _, _, _, _, _, _, _, _, _, _, _, _, _, _, _, _, _, _, _, _, _, _, _, _, _, _, _, _, _, _, _, _, _, _, _, _, cw, rfl, hL, hI, hp⟩⟩ hP hD hS rfl dL_tapes_1067)
          · refine lv_iload hx hb dL_tapes_977 (lv_at hl 8 rfl) ?_
            refine zb_eq (tgt := 1008) hx hb dL_tapes_979 (by decide) (fun c_28 => ?_) (fun c_28 => Bool.noConfusion c_28)
            refine lv_iconst (v := bI (false)) hx hb dL_tapes_1008 (by decide) ?_
            refine lv_istore (lv' := [(10, .int (bI (false))), (9, .int (bI (bD))), (0, .ref (ad 0)), (1, .int (nI (6))), (2, .int (y)), (3, .ref (g 0)), (4, .ref (g 1)), (5, .ref (g 3)), (6, .int (va)), (7, .int (bI (false))), (8, .int (nI (q4)))]) hx hb dL_tapes_1009 hl (by decide) rfl (fun ls hl => ?_)
            refine lv_iload hx hb dL_tapes_1011 (lv_at hl 0 rfl) ?_
            refine zb_eq (tgt := 1025) hx hb dL_tapes_1013 (by decide) (fun c_29 => ?_) (fun c_29 => Bool.noConfusion c_29)
            refine lv_aload_n hx hb dL_tapes_1025 rfl (lv_at hl 2 rfl) ?_
            refine lv_bipush (v := nI (6)) hx hb dL_tapes_1026 (by decide) ?_
            refine lv_iload hx hb dL_tapes_1028 (lv_at hl 8 rfl) ?_
            refine ze_H_i (n := 3) (mc := 2) (ms := 12) (ws := cw) (es := [(g 0, zInts cA 4 cf), (g 1, zInts cA 24 tf), (g 2, zInts cA 24 ff), (g 3, zInts cA 10 vf), (g 4, zInts cA 40 jj), (g 5, zInts cA 20 lt), (g 6, zInts cA 20 dd)]) (As := [.ref (ad 0), .int (nI (6)), .int (va)]) (rest := []) hx hb hml hts hown hZ hX hN [0, 1, 2, 3, 4, 5, 6] rfl rfl hP hD hS hA (c_L_one_6 l D cA _ cw (ad 0) _ l0 _ _ _ _ (kS (ix va n) (fun t => !(mo t).isSome && la t)) va (fun sz9 => c_X4_lose l hlt D cA sz9 cw ad T Bd E PT PB PE n tr le sl mo la fc bo nd mk ck ct hd pq nj fw jf dl dn oc s8 s9 s10 s11 s12 hL hI va) (fun _ _ h => h)) gL_tapes_L_one rfl ⟨rfl, rfl⟩ ⟨by decide +kernel, (Nat.le_of_ble_eq_true rfl), (Nat.le_of_ble_eq_true rfl)⟩ hl.1 rfl (Nat.le_of_ble_eq_true rfl) ⟨(Nat.le_of_ble_eq_true rfl), (Nat.le_of_ble_eq_true rfl)⟩ rfl dL_tapes_1030 (fun r9 u9 H locs hp9 hP hD hS hz => ?_)
            rcases u9 with ⟨t9, w1⟩ | u9
            · dsimp only [zwP] at hp9
              obtain ⟨htn, hv0, ⟨hmt, hla9⟩, hr9, hkp, hL1⟩ := hp9
              exact absurd hv0 (hAn t9 htn)
            · dsimp only [zwP] at hp9
              obtain ⟨hr9, hK9, E9, hE9⟩ := hp9
              have hr9 : r9 = (-101) := by rw [hr9, show (kS (ix va n) (fun t => !(mo t).isSome && la t)) = 1 from kS_1 (ix_none (by omega) hAn)]; rfl
              subst hr9
              have hP : va_P D vwCl ((g 0, zInts cA 4 cf) :: (g 1, zInts cA 24 tf) :: (g 2, zInts cA 24 ff) :: (g 3, zInts cA 10 vf) :: (g 4, zInts cA 40 jj) :: (g 5, zInts cA 20 lt) :: (g 6, zInts cA 20 dd) :: cw) H := hP
              have hD : va_D A ((g 0, zInts cA 4 cf) :: (g 1, zInts cA 24 tf) :: (g 2, zInts cA 24 ff) :: (g 3, zInts cA 10 vf) :: (g 4, zInts cA 40 jj) :: (g 5, zInts cA 20 lt) :: (g 6, zInts cA 20 dd) :: cw) := hD
              refine lv_iload hx hb dL_tapes_1033 (lv_at hl 9 rfl) ?_
              refine zb_ne (tgt := 1043) hx hb dL_tapes_1035 (by decide) (fun c_30 => Bool.noConfusion c_30) (fun c_30 => ?_)
              refine lv_bipush (v := (-101)) hx hb dL_tapes_1038 (by decide) ?_
              refine lv_goto (tgt := 1059) hx hb dL_tapes_1040 (by decide) ?_
              refine lv_icmp_ne (tgt := 1066) hx hb dL_tapes_1059 (by decide) (fun c_31 => absurd rfl c_31) (fun c_31 => ?_)
              refine lv_iconst (v := bI (true)) hx hb dL_tapes_1062 (by decide) ?_
              refine lv_goto (tgt := 1067) hx hb dL_tapes_1063 (by decide) ?_
              exact W.widen (k := 8) (n := 64) (by omega) (by omega) (zr_qz (S := va_W) (post := (fun (r : Int32) (u : va_W) => r = bI true ∧ LV cA ad g u)) (w1 := fun u => u) ((g 0, zInts cA 4 cf) :: (g 1, zInts cA 24 tf) :: (g 2, zInts cA 24 ff) :: (g 3, zInts cA 10 vf) :: (g 4, zInts cA 40 jj) :: (g 5, zInts cA 20 lt) :: (g 6, zInts cA 20 dd) :: cw) hx hb hr hlocks ⟨rfl, ⟨_, _, _, _, _, _, _, _, _, _, _, _, _, _, _, _, _, _, _, _, _, _, _, _, _, _, _, _, _, _, _, _, _, _, _, _, _, _, _, _, cw, rfl, hL, hI, hp⟩⟩ hP hD hS rfl dL_tapes_1067)
        · skip
          refine lv_iload hx hb dL_tapes_84 (lv_at hl 0 rfl) ?_
          refine lv_aload_n hx hb dL_tapes_86 rfl (lv_at hl 4 rfl) ?_
          refine lv_iconst (v := nI (1)) hx hb dL_tapes_87 (by decide) ?_
          refine va_iald hx hb hZ.1 hP 0 0 rfl rfl (vp_in_nI (show 1 < 4 by omega) (by omega)) dL_tapes_88 ?_
          rw [nI_clamp (show 1 < 2 ^ 31 by omega)]
          refine zx_val (y := nI (nd)) (c1) ?_
          refine zc_ge (tgt := 96) hx hb (by omega) (by omega) dL_tapes_89 (by decide) (fun c_32 => ?_) (fun c_32 => ?_)
          · refine lv_iconst (v := bI (false)) hx hb dL_tapes_96 (by decide) ?_
            exact J97 (false) ls ⟨lv_sub hl [1, 2, 3, 4, 5, 6, 7, 8, 0] rfl, (decide_eq_false (by omega)).symm⟩
          · refine lv_iconst (v := bI (true)) hx hb dL_tapes_92 (by decide) ?_
            refine lv_goto (tgt := 97) hx hb dL_tapes_93 (by decide) ?_
            exact J97 (true) ls ⟨lv_sub hl [1, 2, 3, 4, 5, 6, 7, 8, 0] rfl, (decide_eq_true (by omega)).symm⟩
      · skip
        refine zf_eq (tgt := 73) hx hb (by omega) dL_tapes_64 (by decide) (fun c_33 => ?_) (fun c_33 => ?_)
        · refine lv_iconst (v := nI (1)) hx hb dL_tapes_73 (by decide) ?_
          refine lv_goto (tgt := 78) hx hb dL_tapes_74 (by decide) ?_
          exact J78 (1) ls ⟨lv_sub hl [1, 2, 3, 4, 5, 6, 7, 0] rfl, by omega⟩
        · refine lv_aload_n hx hb dL_tapes_67 rfl (lv_at hl 4 rfl) ?_
          refine lv_iconst (v := nI (1)) hx hb dL_tapes_68 (by decide) ?_
          refine va_iald hx hb hZ.1 hP 0 0 rfl rfl (vp_in_nI (show 1 < 4 by omega) (by omega)) dL_tapes_69 ?_
          rw [nI_clamp (show 1 < 2 ^ 31 by omega)]
          refine zx_val (y := nI (nd)) (c1) ?_
          refine zf_ne (tgt := 77) hx hb (by omega) dL_tapes_70 (by decide) (fun c_34 => ?_) (fun c_34 => ?_)
          · refine lv_iconst (v := nI (0)) hx hb dL_tapes_77 (by decide) ?_
            exact J78 (0) ls ⟨lv_sub hl [1, 2, 3, 4, 5, 6, 7, 0] rfl, by omega⟩
          · refine lv_iconst (v := nI (1)) hx hb dL_tapes_73 (by decide) ?_
            refine lv_goto (tgt := 78) hx hb dL_tapes_74 (by decide) ?_
            exact J78 (1) ls ⟨lv_sub hl [1, 2, 3, 4, 5, 6, 7, 0] rfl, by omega⟩
    · skip
      rcases hAq with ⟨a, han, hva1⟩ | ⟨hAn, hva1 | hva1⟩
      · rw [hva1] at hl
        refine lv_iload hx hb dL_tapes_29 (lv_at hl 0 rfl) ?_
        refine zf_lt (tgt := 46) hx hb (by omega) dL_tapes_31 (by decide) ?_
        refine lv_iload hx hb dL_tapes_34 (lv_at hl 0 rfl) ?_
        refine lv_aload_n hx hb dL_tapes_36 rfl (lv_at hl 4 rfl) ?_
        refine lv_iconst (v := nI (0)) hx hb dL_tapes_37 (by decide) ?_
        refine va_iald hx hb hZ.1 hP 0 0 rfl rfl (vp_in_nI (show 0 < 4 by omega) (by omega)) dL_tapes_38 ?_
        rw [nI_clamp (show 0 < 2 ^ 31 by omega)]
        refine zx_val (y := nI (n)) (c0) ?_
        refine zc_ge (tgt := 46) hx hb (by omega) (by omega) dL_tapes_39 (by decide) (fun c_36 => False.elim (by omega)) (fun c_36 => ?_)
        refine lv_iconst (v := bI (true)) hx hb dL_tapes_42 (by decide) ?_
        refine lv_goto (tgt := 47) hx hb dL_tapes_43 (by decide) ?_
        rw [← hva1] at hl
        exact J47 true ls ⟨lv_sub hl [1, 2, 3, 4, 5, 6, 0] rfl, Or.inl ⟨rfl, a, han, hva1⟩⟩
      · rw [hva1] at hl
        refine lv_iload hx hb dL_tapes_29 (lv_at hl 0 rfl) ?_
        refine lv_if_lt (tgt := 46) hx hb dL_tapes_31 (by decide) (fun c_37 => ?_) (fun c_37 => absurd (by decide) c_37)
        refine lv_iconst (v := bI (false)) hx hb dL_tapes_46 (by decide) ?_
        rw [← hva1] at hl
        exact J47 false ls ⟨lv_sub hl [1, 2, 3, 4, 5, 6, 0] rfl, Or.inr ⟨rfl, hAn⟩⟩
      · rw [hva1] at hl
        refine lv_iload hx hb dL_tapes_29 (lv_at hl 0 rfl) ?_
        refine zf_lt (tgt := 46) hx hb (by omega) dL_tapes_31 (by decide) ?_
        refine lv_iload hx hb dL_tapes_34 (lv_at hl 0 rfl) ?_
        refine lv_aload_n hx hb dL_tapes_36 rfl (lv_at hl 4 rfl) ?_
        refine lv_iconst (v := nI (0)) hx hb dL_tapes_37 (by decide) ?_
        refine va_iald hx hb hZ.1 hP 0 0 rfl rfl (vp_in_nI (show 0 < 4 by omega) (by omega)) dL_tapes_38 ?_
        rw [nI_clamp (show 0 < 2 ^ 31 by omega)]
        refine zx_val (y := nI (n)) (c0) ?_
        refine zc_ge (tgt := 46) hx hb (by omega) (by omega) dL_tapes_39 (by decide) (fun c_39 => ?_) (fun c_39 => False.elim (by omega))
        refine lv_iconst (v := bI (false)) hx hb dL_tapes_46 (by decide) ?_
        rw [← hva1] at hl
        exact J47 false ls ⟨lv_sub hl [1, 2, 3, 4, 5, 6, 0] rfl, Or.inr ⟨rfl, hAn⟩⟩
  · skip
    refine zf_ne (tgt := 25) hx hb (by omega) dL_tapes_18 (by decide) (fun c_40 => ?_) (fun c_40 => ?_)
    · refine lv_iconst (v := nI (0)) hx hb dL_tapes_25 (by decide) ?_
      exact J26 (0) ls ⟨lv_sub hl [0, 1, 2, 3, 4, 5] rfl, by omega⟩
    · refine lv_iconst (v := nI (1)) hx hb dL_tapes_21 (by decide) ?_
      refine lv_goto (tgt := 26) hx hb dL_tapes_22 (by decide) ?_
      exact J26 (1) ls ⟨lv_sub hl [0, 1, 2, 3, 4, 5] rfl, by omega⟩

set_option maxHeartbeats 4000000 in
set_option maxRecDepth 100000 in
theorem c_L_tapes_7 (l : Launch) (hlt : l.stackTraces = false) (D : va_G) (cA : Nat → ClassId) (sz : Nat) (ad : Nat → Nat) (T : Nat → Nat) (Bd : Nat → Nat) (E : Nat → Nat) (PT : Nat → Nat) (PB : Nat → Nat) (PE : Nat → Nat) (n : Nat) (tr : Nat → Nat) (le : Nat → Nat) (sl : Nat → Nat) (mo : Nat → Option Nat) (la : Nat → Bool) (fc : Nat → Nat) (bo : Nat → Nat → Nat) (nd : Nat) (mk : Nat → Nat) (ck : Nat → Int32) (ct : Nat → Nat) (hd : Nat → Option Nat) (pq : Nat → Int32) (nj : Nat) (fw : Nat → Int32) (jf : Nat → Nat) (dl : Nat → Nat) (dn : Nat) (oc : Nat) (s8 : Nat → Int32) (s9 : Nat → Int32) (s10 : Nat → Int32) (s11 : Nat → Int32) (s12 : Nat → Int32) (cf : Nat → Int32) (tf : Nat → Int32) (ff : Nat → Int32) (vf : Nat → Int32) (jj : Nat → Int32) (lt : Nat → Int32) (dd : Nat → Int32) (jt : Nat → Nat) (fin : Nat → Bool) (g : Nat → Nat) (cw : va_W) (hL : zL cA cw ad T Bd E PT PB PE n tr le sl mo la fc bo nd mk ck ct hd pq nj fw jf dl dn oc s8 s9 s10 s11 s12) (hI : zI n tr le sl mo fc bo nd mk ct hd pq nj fw jf dl) (hp : pL n tr le sl mo la fc bo nd mk ck ct hd pq nj fw jf dl dn cf tf ff vf jj lt dd jt fin) (y : Int32) : Met l yL_tapes wsL_tapes ({ frames := 10, cells := 8, slots := 64, locals := 194 }) (va_Pc [.ref (ad 0), .int (nI (7)), .int (y), .ref (g 0), .ref (g 1), .ref (g 3)] (zMW D cA ((g 0, zInts cA 4 cf) :: (g 1, zInts cA 24 tf) :: (g 2, zInts cA 24 ff) :: (g 3, zInts cA 10 vf) :: (g 4, zInts cA 40 jj) :: (g 5, zInts cA 20 lt) :: (g 6, zInts cA 20 dd) :: cw) sz)) (va_Qi (fun (r : Int32) (u : va_W) => r = bI true ∧ LV cA ad g u) (fun u => zB D (va_A ((g 0, zInts cA 4 cf) :: (g 1, zInts cA 24 tf) :: (g 2, zInts cA 24 ff) :: (g 3, zInts cA 10 vf) :: (g 4, zInts cA 40 jj) :: (g 5, zInts cA 20 lt) :: (g 6, zInts cA 20 dd) :: cw) sz) u) (va_A ((g 0, zInts cA 4 cf) :: (g 1, zInts cA 24 tf) :: (g 2, zInts cA 24 ff) :: (g 3, zInts cA 10 vf) :: (g 4, zInts cA 40 jj) :: (g 5, zInts cA 20 lt) :: (g 6, zInts cA 20 dd) :: cw) sz)) 8 64 (va_A ((g 0, zInts cA 4 cf) :: (g 1, zInts cA 24 tf) :: (g 2, zInts cA 24 ff) :: (g 3, zInts cA 10 vf) :: (g 4, zInts cA 40 jj) :: (g 5, zInts cA 20 lt) :: (g 6, zInts cA 20 dd) :: cw) sz) := by
  refine zOpen (cc := cL_tapes) (maxL := 14) (ret := (some .boolean)) (own := RL) (by decide) rfl rfl (Nat.le_of_ble_eq_true rfl) ?_
  intro p e s m below meth c ls hx hb hr hml hts hown hlocks hnm ⟨⟨⟨hZ, hP, hD0, hsz⟩, hX⟩, hN⟩ hl
  subst hsz
  have hD := hD0.self (sz := s.heap.size)
  generalize hAe : va_A ((g 0, zInts cA 4 cf) :: (g 1, zInts cA 24 tf) :: (g 2, zInts cA 24 ff) :: (g 3, zInts cA 10 vf) :: (g 4, zInts cA 40 jj) :: (g 5, zInts cA 20 lt) :: (g 6, zInts cA 20 dd) :: cw) s.heap.size = A at hD hX ⊢
  have hA : ∀ q : Nat, s.heap.size ≤ q → A q := fun q h => by rw [← hAe]; exact Or.inr h
  have hS : va_S A s.heap s.heap [] := va_S.rf
  have hl : lv_has ls 14 [(0, .ref (ad 0)), (1, .int (nI (7))), (2, .int (y)), (3, .ref (g 0)), (4, .ref (g 1)), (5, .ref (g 3))] := hl
  have hL0 := hL
  have l0 := hL.1.1
  obtain ⟨hn8, hd3, hj60, hIT, hID, hIJ, hIdl, hIw⟩ := id hI
  obtain ⟨⟨hn4, hd2, hj20⟩, ⟨c0, c1, c2, c3⟩, qT, qT0, qF, qV, qV0, qJ, qJ0, qW⟩ := id hp
  have hIk := hI
  refine lv_iload_n hx hb dL_tapes_0 rfl (lv_at hl 2 rfl) ?_
  refine lv_aload_n hx hb dL_tapes_1 rfl (lv_at hl 3 rfl) ?_
  refine lv_iconst (v := nI (0)) hx hb dL_tapes_2 (by decide) ?_
  refine va_iald hx hb hZ.1 hP 0 0 rfl rfl (vp_in_nI (show 0 < 4 by omega) (by omega)) dL_tapes_3 ?_
  rw [nI_clamp (show 0 < 2 ^ 31 by omega)]
  refine zx_val (y := nI (n)) (c0) ?_
  refine lv_iconst (v := nI (1)) hx hb dL_tapes_4 (by decide) ?_
  refine zo_add hx hb dL_tapes_5 ?_
  refine zk_S_i (n := 2) (As := [.int (y), .int (nI (n + 1))]) (rest := []) hx hb hml hts hown hZ hP (c_L_some l D cA _ y (n + 1) (by omega) (by omega)) gL_tapes_L_some rfl ⟨rfl, rfl⟩ ⟨by decide +kernel, (Nat.le_of_ble_eq_true rfl), (Nat.le_of_ble_eq_true rfl)⟩ hl.1 rfl (Nat.le_of_ble_eq_true rfl) ⟨(Nat.le_of_ble_eq_true rfl), (Nat.le_of_ble_eq_true rfl)⟩ rfl dL_tapes_6 (fun r1 hr1 => ?_)
  obtain ⟨q1, hq1, hb1⟩ : ∃ z, r1 = nI z ∧ z < (n + 1) := ⟨_, hr1, sm_lt (by omega)⟩
  subst hq1
  refine lv_iload_n hx hb dL_tapes_9 rfl (lv_at hl 2 rfl) ?_
  refine lv_bipush (v := nI (9)) hx hb dL_tapes_10 (by decide) ?_
  refine lv_ishr hx hb dL_tapes_12 ?_
  refine lv_bipush (v := nI (19)) hx hb dL_tapes_13 (by decide) ?_
  refine zk_S_i (n := 2) (As := [.int ((y) >>> ((nI (9)) &&& 31)), .int (nI (19))]) (rest := [.int (nI (q1))]) hx hb hml hts hown hZ hP (c_L_some l D cA _ ((y) >>> ((nI (9)) &&& 31)) 19 (by omega) (by omega)) gL_tapes_L_some rfl ⟨rfl, rfl⟩ ⟨by decide +kernel, (Nat.le_of_ble_eq_true rfl), (Nat.le_of_ble_eq_true rfl)⟩ hl.1 rfl (Nat.le_of_ble_eq_true rfl) ⟨(Nat.le_of_ble_eq_true rfl), (Nat.le_of_ble_eq_true rfl)⟩ rfl dL_tapes_15 (fun r2 hr2 => ?_)
  obtain ⟨q2, hq2, hb2⟩ : ∃ z, r2 = nI z ∧ z < 19 := ⟨_, hr2, sm_lt (by omega)⟩
  subst hq2
  refine z_join (α := Nat) (pc' := 26) (fun v ls => lv_has ls 14 [(0, .ref (ad 0)), (1, .int (nI (7))), (2, .int (y)), (3, .ref (g 0)), (4, .ref (g 1)), (5, .ref (g 3))] ∧ v ≤ 1) (fun v => [.int (nI (v)), .int (nI (q1))]) ?_ (fun J26 => ?_)
  · intro x1 ls hv
    obtain ⟨hl, hI26⟩ := hv
    have hl : lv_has ls 14 [(0, .ref (ad 0)), (1, .int (nI (7))), (2, .int (y)), (3, .ref (g 0)), (4, .ref (g 1)), (5, .ref (g 3))] := hl
    have hI26 : x1 ≤ 1 := hI26
    obtain ⟨va, hva, hAq⟩ := tapes_va hn4 hb1 hI26
    refine lv_isub hx hb dL_tapes_26 ?_
    refine zx_val (y := va) hva ?_
    refine lv_istore (lv' := [(6, .int (va)), (0, .ref (ad 0)), (1, .int (nI (7))), (2, .int (y)), (3, .ref (g 0)), (4, .ref (g 1)), (5, .ref (g 3))]) hx hb dL_tapes_27 hl (by decide) rfl (fun ls hl => ?_)
    refine z_join (α := Bool) (pc' := 47) (fun bA ls => lv_has ls 14 [(0, .ref (ad 0)), (1, .int (nI (7))), (2, .int (y)), (3, .ref (g 0)), (4, .ref (g 1)), (5, .ref (g 3)), (6, .int (va))] ∧ ((bA = true ∧ ∃ a, a < n ∧ va = nI a) ∨ (bA = false ∧ ∀ j, j < n → va ≠ nI j))) (fun bA => [.int (bI bA)]) ?_ (fun J47 => ?_)
    · intro bA ls hv
      obtain ⟨hl, hAA⟩ := hv
      have hl : lv_has ls 14 [(0, .ref (ad 0)), (1, .int (nI (7))), (2, .int (y)), (3, .ref (g 0)), (4, .ref (g 1)), (5, .ref (g 3)), (6, .int (va))] := hl
      refine lv_istore (lv' := [(7, .int (bI (bA))), (0, .ref (ad 0)), (1, .int (nI (7))), (2, .int (y)), (3, .ref (g 0)), (4, .ref (g 1)), (5, .ref (g 3)), (6, .int (va))]) hx hb dL_tapes_47 hl (by decide) rfl (fun ls hl => ?_)
      refine lv_iload_n hx hb dL_tapes_49 rfl (lv_at hl 3 rfl) ?_
      refine lv_iconst (v := nI (3)) hx hb dL_tapes_50 (by decide) ?_
      refine lv_ishr hx hb dL_tapes_51 ?_
      refine lv_aload_n hx hb dL_tapes_52 rfl (lv_at hl 4 rfl) ?_
      refine lv_iconst (v := nI (1)) hx hb dL_tapes_53 (by decide) ?_
      refine va_iald hx hb hZ.1 hP 0 0 rfl rfl (vp_in_nI (show 1 < 4 by omega) (by omega)) dL_tapes_54 ?_
      rw [nI_clamp (show 1 < 2 ^ 31 by omega)]
      refine zx_val (y := nI (nd)) (c1) ?_
      refine lv_iload_n hx hb dL_tapes_55 rfl (lv_at hl 3 rfl) ?_
      refine lv_bipush (v := nI (7)) hx hb dL_tapes_56 (by decide) ?_
      refine lv_ishr hx hb dL_tapes_58 ?_
      refine lv_bipush (v := nI (9)) hx hb dL_tapes_59 (by decide) ?_
      refine zk_S_i (n := 2) (As := [.int ((y) >>> ((nI (7)) &&& 31)), .int (nI (9))]) (rest := [.int (nI (nd)), .int ((y) >>> ((nI (3)) &&& 31))]) hx hb hml hts hown hZ hP (c_L_some l D cA _ ((y) >>> ((nI (7)) &&& 31)) 9 (by omega) (by omega)) gL_tapes_L_some rfl ⟨rfl, rfl⟩ ⟨by decide +kernel, (Nat.le_of_ble_eq_true rfl), (Nat.le_of_ble_eq_true rfl)⟩ hl.1 rfl (Nat.le_of_ble_eq_true rfl) ⟨(Nat.le_of_ble_eq_true rfl), (Nat.le_of_ble_eq_true rfl)⟩ rfl dL_tapes_61 (fun r3 hr3 => ?_)
      obtain ⟨q3, hq3, hb3⟩ : ∃ z, r3 = nI z ∧ z < 9 := ⟨_, hr3, sm_lt (by omega)⟩
      subst hq3
      refine z_join (α := Nat) (pc' := 78) (fun v ls => lv_has ls 14 [(0, .ref (ad 0)), (1, .int (nI (7))), (2, .int (y)), (3, .ref (g 0)), (4, .ref (g 1)), (5, .ref (g 3)), (6, .int (va)), (7, .int (bI (bA)))] ∧ v ≤ 1 ∧ (nd = 0 → v = 1)) (fun v => [.int (nI (v)), .int (nI (nd)), .int ((y) >>> ((nI (3)) &&& 31))]) ?_ (fun J78 => ?_)
      · intro x2 ls hv
        obtain ⟨hl, hI78⟩ := hv
        have hl : lv_has ls 14 [(0, .ref (ad 0)), (1, .int (nI (7))), (2, .int (y)), (3, .ref (g 0)), (4, .ref (g 1)), (5, .ref (g 3)), (6, .int (va)), (7, .int (bI (bA)))] := hl
        have hI78 : x2 ≤ 1 ∧ (nd = 0 → x2 = 1) := hI78
        refine zo_add hx hb dL_tapes_78 ?_
        obtain ⟨hx2, hx20⟩ := hI78
        refine zk_S_i (n := 2) (As := [.int ((y) >>> ((nI (3)) &&& 31)), .int (nI (nd + x2))]) (rest := []) hx hb hml hts hown hZ hP (c_L_some l D cA _ ((y) >>> ((nI (3)) &&& 31)) (nd + x2) (by omega) (by omega)) gL_tapes_L_some rfl ⟨rfl, rfl⟩ ⟨by decide +kernel, (Nat.le_of_ble_eq_true rfl), (Nat.le_of_ble_eq_true rfl)⟩ hl.1 rfl (Nat.le_of_ble_eq_true rfl) ⟨(Nat.le_of_ble_eq_true rfl), (Nat.le_of_ble_eq_true rfl)⟩ rfl dL_tapes_79 (fun r4 hr4 => ?_)
        obtain ⟨q4, hq4, hb4⟩ : ∃ z, r4 = nI z ∧ z < (nd + x2) := ⟨_, hr4, sm_lt (by omega)⟩
        subst hq4
        refine lv_istore (lv' := [(8, .int (nI (q4))), (0, .ref (ad 0)), (1, .int (nI (7))), (2, .int (y)), (3, .ref (g 0)), (4, .ref (g 1)), (5, .ref (g 3)), (6, .int (va)), (7, .int (bI (bA)))]) hx hb dL_tapes_82 hl (by decide) rfl (fun ls hl => ?_)
        refine z_join (α := Bool) (pc' := 97) (fun v ls => lv_has ls 14 [(0, .ref (ad 0)), (1, .int (nI (7))), (2, .int (y)), (3, .ref (g 0)), (4, .ref (g 1)), (5, .ref (g 3)), (6, .int (va)), (7, .int (bI (bA))), (8, .int (nI (q4)))] ∧ v = decide (q4 < nd)) (fun v => [.int (bI (v))]) ?_ (fun J97 => ?_)
        · intro bD ls hv
          obtain ⟨hl, hI97⟩ := hv
          have hl : lv_has ls 14 [(0, .ref (ad 0)), (1, .int (nI (7))), (2, .int (y)), (3, .ref (g 0)), (4, .ref (g 1)), (5, .ref (g 3)), (6, .int (va)), (7, .int (bI (bA))), (8, .int (nI (q4)))] := hl
          have hI97 : bD = decide (q4 < nd) := hI97
          have hDd : q4 ≤ nd := by omega
          refine lv_istore (lv' := [(9, .int (bI (bD))), (0, .ref (ad 0)), (1, .int (nI (7))), (2, .int (y)), (3, .ref (g 0)), (4, .ref (g 1)), (5, .ref (g 3)), (6, .int (va)), (7, .int (bI (bA))), (8, .int (nI (q4)))]) hx hb dL_tapes_97 hl (by decide) rfl (fun ls hl => ?_)
          refine lv_iload_n hx hb dL_tapes_99 rfl (lv_at hl 2 rfl) ?_
          refine zf_ne (tgt := 290) hx hb (by omega) dL_tapes_100 (by decide) (fun c_1 => ?_) (fun c_1 => False.elim (by omega))
          refine lv_iload_n hx hb dL_tapes_290 rfl (lv_at hl 2 rfl) ?_
          refine lv_iconst (v := nI (1)) hx hb dL_tapes_291 (by decide) ?_
          refine zc_ne (tgt := 392) hx hb (by omega) (by omega) dL_tapes_292 (by decide) (fun c_2 => ?_) (fun c_2 => False.elim (by omega))
          refine lv_iload_n hx hb dL_tapes_392 rfl (lv_at hl 2 rfl) ?_
          refine lv_iconst (v := nI (2)) hx hb dL_tapes_393 (by decide) ?_
          refine zc_ne (tgt := 550) hx hb (by omega) (by omega) dL_tapes_394 (by decide) (fun c_3 => ?_) (fun c_3 => False.elim (by omega))
          refine lv_iload_n hx hb dL_tapes_550 rfl (lv_at hl 2 rfl) ?_
          refine lv_iconst (v := nI (3)) hx hb dL_tapes_551 (by decide) ?_
          refine zc_ne (tgt := 710) hx hb (by omega) (by omega) dL_tapes_552 (by decide) (fun c_4 => ?_) (fun c_4 => False.elim (by omega))
          refine lv_iload_n hx hb dL_tapes_710 rfl (lv_at hl 2 rfl) ?_
          refine lv_iconst (v := nI (4)) hx hb dL_tapes_711 (by decide) ?_
          refine zc_ne (tgt := 862) hx hb (by omega) (by omega) dL_tapes_712 (by decide) (fun c_5 => ?_) (fun c_5 => False.elim (by omega))
          refine lv_iload_n hx hb dL_tapes_862 rfl (lv_at hl 2 rfl) ?_
          refine lv_iconst (v := nI (5)) hx hb dL_tapes_863 (by decide) ?_
          refine zc_ne (tgt := 971) hx hb (by omega) (by omega) dL_tapes_864 (by decide) (fun c_6 => ?_) (fun c_6 => False.elim (by omega))
          refine lv_iload_n hx hb dL_tapes_971 rfl (lv_at hl 2 rfl) ?_
          refine lv_bipush (v := nI (6)) hx hb dL_tapes_972 (by decide) ?_
          refine zc_ne (tgt := 1068) hx hb (by omega) (by omega) dL_tapes_974 (by decide) (fun c_7 => ?_) (fun c_7 => False.elim (by omega))
          refine lv_iconst (v := nI (0)) hx hb dL_tapes_1068 (by decide) ?_
          refine lv_istore (lv' := [(10, .int (nI (0))), (9, .int (bI (bD))), (0, .ref (ad 0)), (1, .int (nI (7))), (2, .int (y)), (3, .ref (g 0)), (4, .ref (g 1)), (5, .ref (g 3)), (6, .int (va)), (7, .int (bI (bA))), (8, .int (nI (q4)))]) hx hb dL_tapes_1069 hl (by decide) rfl (fun ls hl => ?_)
          refine lv_iconst (v := nI (0)) hx hb dL_tapes_1071 (by decide) ?_
          refine lv_istore (lv' := [(11, .int (nI (0))), (10, .int (nI (0))), (9, .int (bI (bD))), (0, .ref (ad 0)), (1, .int (nI (7))), (2, .int (y)), (3, .ref (g 0)), (4, .ref (g 1)), (5, .ref (g 3)), (6, .int (va)), (7, .int (bI (bA))), (8, .int (nI (q4)))]) hx hb dL_tapes_1072 hl (by decide) rfl (fun ls hl => ?_)
          refine z_loop (α := Nat × Nat) (fun v => n - v.2) (fun v ls => lv_has ls 14 [(9, .int (bI (bD))), (0, .ref (ad 0)), (1, .int (nI (7))), (2, .int (y)), (3, .ref (g 0)), (4, .ref (g 1)), (5, .ref (g 3)), (6, .int (va)), (7, .int (bI (bA))), (8, .int (nI (q4))), (10, .int (nI (v.1))), (11, .int (nI (v.2)))] ∧ v.2 ≤ n ∧ v.1 = hiS sl mo v.2) (fun _ => []) (0, 0) ⟨lv_sub hl [2, 3, 4, 5, 6, 7, 8, 9, 10, 11, 1, 0] rfl, ⟨Nat.zero_le _, rfl⟩⟩ ?_
          intro v ih1074 ls hv
          obtain ⟨hg, k⟩ := v
          obtain ⟨hl, hI⟩ := hv
          have hl : lv_has ls 14 [(9, .int (bI (bD))), (0, .ref (ad 0)), (1, .int (nI (7))), (2, .int (y)), (3, .ref (g 0)), (4, .ref (g 1)), (5, .ref (g 3)), (6, .int (va)), (7, .int (bI (bA))), (8, .int (nI (q4))), (10, .int (nI (hg))), (11, .int (nI (k)))] := hl
          have hI : k ≤ n ∧ hg = hiS sl mo k := hI
          obtain ⟨hkn, hhg⟩ := hI
          have hI := hIk
          have hs12 : ∀ i, i < n → sl i < 12 := fun i hi => (hIT i hi).2.2.2.2.1
          have hhl : hg < 12 := by rw [hhg]; exact hiS_lt k (fun i hi => hs12 i (by omega)) (by omega)
          refine lv_iload hx hb dL_tapes_1074 (lv_at hl 11 rfl) ?_
          refine lv_aload_n hx hb dL_tapes_1076 rfl (lv_at hl 4 rfl) ?_
          refine lv_iconst (v := nI (0)) hx hb dL_tapes_1077 (by decide) ?_
          refine va_iald hx hb hZ.1 hP 0 0 rfl rfl (vp_in_nI (show 0 < 4 by omega) (by omega)) dL_tapes_1078 ?_
          rw [nI_clamp (show 0 < 2 ^ 31 by omega)]
          refine zx_val (y := nI (n)) (c0) ?_
          refine zc_ge (tgt := 1127) hx hb (by omega) (by omega) dL_tapes_1079 (by decide) (fun c_8 => ?_) (fun c_8 => ?_)
          · have hhg2 : hg = hiS sl mo n := by rw [hhg, show k = n by omega]
            refine lv_iconst (v := nI (2)) hx hb dL_tapes_1127 (by decide) ?_
            refine lv_iload hx hb dL_tapes_1128 (lv_at hl 10 rfl) ?_
            refine zo_mul hx hb dL_tapes_1130 ?_
            refine lv_iconst (v := nI (5)) hx hb dL_tapes_1131 (by decide) ?_
            refine lv_aload_n hx hb dL_tapes_1132 rfl (lv_at hl 4 rfl) ?_
            refine lv_aload hx hb dL_tapes_1133 (lv_at hl 5 rfl) ?_
            refine zk_S_i (n := 2) (As := [.ref (g 0), .ref (g 1)]) (rest := [.int (nI (5)), .int (nI (2 * hg))]) hx hb hml hts hown hZ hP (c_L_lost l D cA ((g 0, zInts cA 4 cf) :: (g 1, zInts cA 24 tf) :: (g 2, zInts cA 24 ff) :: (g 3, zInts cA 10 vf) :: (g 4, zInts cA 40 jj) :: (g 5, zInts cA 20 lt) :: (g 6, zInts cA 20 dd) :: cw) 0 (g 0) cf rfl 1 (g 1) tf rfl n la c0 hn4 (fun i hi => (qT i hi).2.2.2.2.1)) gL_tapes_L_lost rfl ⟨rfl, rfl⟩ ⟨by decide +kernel, (Nat.le_of_ble_eq_true rfl), (Nat.le_of_ble_eq_true rfl)⟩ hl.1 rfl (Nat.le_of_ble_eq_true rfl) ⟨(Nat.le_of_ble_eq_true rfl), (Nat.le_of_ble_eq_true rfl)⟩ rfl dL_tapes_1135 (fun r5 hr5 => ?_)
            obtain rfl := show r5 = nI (cnt (fun i => !la i) n) from hr5
            refine zo_mul hx hb dL_tapes_1138 ?_
            refine zo_add hx hb dL_tapes_1139 ?_
            refine lv_istore (lv' := [(11, .int (nI ((2 * hg) + (5 * (cnt (fun i => !la i) n))))), (9, .int (bI (bD))), (0, .ref (ad 0)), (1, .int (nI (7))), (2, .int (y)), (3, .ref (g 0)), (4, .ref (g 1)), (5, .ref (g 3)), (6, .int (va)), (7, .int (bI (bA))), (8, .int (nI (q4))), (10, .int (nI (hg)))]) hx hb dL_tapes_1140 hl (by decide) rfl (fun ls hl => ?_)
            refine lv_iconst (v := nI (0)) hx hb dL_tapes_1142 (by decide) ?_
            refine lv_istore (lv' := [(12, .int (nI (0))), (11, .int (nI ((2 * hg) + (5 * (cnt (fun i => !la i) n))))), (9, .int (bI (bD))), (0, .ref (ad 0)), (1, .int (nI (7))), (2, .int (y)), (3, .ref (g 0)), (4, .ref (g 1)), (5, .ref (g 3)), (6, .int (va)), (7, .int (bI (bA))), (8, .int (nI (q4))), (10, .int (nI (hg)))]) hx hb dL_tapes_1143 hl (by decide) rfl (fun ls hl => ?_)
            refine z_loopW (α := Nat × (Nat → Int32)) (fun v => 4 - v.1) (fun v H locs ls => lv_has ls 14 [(11, .int (nI ((2 * hg) + (5 * (cnt (fun i => !la i) n))))), (9, .int (bI (bD))), (0, .ref (ad 0)), (1, .int (nI (7))), (2, .int (y)), (3, .ref (g 0)), (4, .ref (g 1)), (5, .ref (g 3)), (6, .int (va)), (7, .int (bI (bA))), (8, .int (nI (q4))), (10, .int (nI (hg))), (12, .int (nI (v.1)))] ∧ va_P D vwCl ((g 0, zInts cA 4 cf) :: (g 1, zInts cA 24 v.2) :: (g 2, zInts cA 24 ff) :: (g 3, zInts cA 10 vf) :: (g 4, zInts cA 40 jj) :: (g 5, zInts cA 20 lt) :: (g 6, zInts cA 20 dd) :: cw) H ∧ va_D A ((g 0, zInts cA 4 cf) :: (g 1, zInts cA 24 v.2) :: (g 2, zInts cA 24 ff) :: (g 3, zInts cA 10 vf) :: (g 4, zInts cA 40 jj) :: (g 5, zInts cA 20 lt) :: (g 6, zInts cA 20 dd) :: cw) ∧ va_S A s.heap H locs ∧ v.1 ≤ 4 ∧ (∀ i, i < v.1 → v.2 (16 + i) = nI 0) ∧ (∀ i, i < 16 ∨ 20 ≤ i → v.2 i = tf i)) (fun _ => []) (0, tf) ⟨lv_sub hl [1, 2, 3, 4, 5, 6, 7, 8, 9, 10, 11, 12, 0] rfl, hP, hD, hS, ⟨Nat.zero_le _, fun i h => absurd h (Nat.not_lt_zero i), fun _ _ => rfl⟩⟩ ?_
            intro v ih1145 H locs ls hv
            obtain ⟨kz, tg⟩ := v
            obtain ⟨hl, hP, hD, hS, hI⟩ := hv
            have hP : va_P D vwCl ((g 0, zInts cA 4 cf) :: (g 1, zInts cA 24 tg) :: (g 2, zInts cA 24 ff) :: (g 3, zInts cA 10 vf) :: (g 4, zInts cA 40 jj) :: (g 5, zInts cA 20 lt) :: (g 6, zInts cA 20 dd) :: cw) H := hP
            have hD : va_D A ((g 0, zInts cA 4 cf) :: (g 1, zInts cA 24 tg) :: (g 2, zInts cA 24 ff) :: (g 3, zInts cA 10 vf) :: (g 4, zInts cA 40 jj) :: (g 5, zInts cA 20 lt) :: (g 6, zInts cA 20 dd) :: cw) := hD
            have hl : lv_has ls 14 [(11, .int (nI ((2 * hg) + (5 * (cnt (fun i => !la i) n))))), (9, .int (bI (bD))), (0, .ref (ad 0)), (1, .int (nI (7))), (2, .int (y)), (3, .ref (g 0)), (4, .ref (g 1)), (5, .ref (g 3)), (6, .int (va)), (7, .int (bI (bA))), (8, .int (nI (q4))), (10, .int (nI (hg))), (12, .int (nI (kz)))] := hl
            have hI : kz ≤ 4 ∧ (∀ i, i < kz → tg (16 + i) = nI 0) ∧ (∀ i, i < 16 ∨ 20 ≤ i → tg i = tf i) := hI
            obtain ⟨hk4, hz4, ho4⟩ := hI
            have hI := hIk
            refine lv_iload hx hb dL_tapes_1145 (lv_at hl 12 rfl) ?_
            refine lv_iconst (v := nI (4)) hx hb dL_tapes_1147 (by decide) ?_
            refine zc_ge (tgt := 1166) hx hb (by omega) (by omega) dL_tapes_1148 (by decide) (fun c_9 => ?_) (fun c_9 => ?_)
            · obtain ⟨hI2, hp2⟩ := J_inv (t9 := tg) hI hp (fun i hi => hz4 i (by omega)) ho4
              have hcl := cnt_le (p := fun i => !la i) n
              refine lv_aload_n hx hb dL_tapes_1166 rfl (lv_at hl 2 rfl) ?_
              refine ze_V_i (n := 0) (mc := 0) (ms := 0) (ws := cw) (es := [(g 0, zInts cA 4 cf), (g 1, zInts cA 24 tg), (g 2, zInts cA 24 ff), (g 3, zInts cA 10 vf), (g 4, zInts cA 40 jj), (g 5, zInts cA 20 lt), (g 6, zInts cA 20 dd)]) (As := []) (rest := []) hx hb hml hts hown hZ [0, 1, 2, 3, 4, 5, 6] rfl rfl hP hD hS hA (c_X4_inventory l D cA _ cw ad T Bd E PT PB PE n tr le sl mo la fc bo nd mk ck ct hd pq nj fw jf dl dn oc s8 s9 s10 s11 s12 hL hI) gL_tapes_X4_inventory rfl rfl ⟨rfl, rfl⟩ ⟨by decide +kernel, (Nat.le_of_ble_eq_true rfl), (Nat.le_of_ble_eq_true rfl)⟩ l0 rfl hl.1 rfl (Nat.le_of_ble_eq_true rfl) ⟨(Nat.le_of_ble_eq_true rfl), (Nat.le_of_ble_eq_true rfl)⟩ rfl dL_tapes_1167 (fun r9 w1 H locs hp9 hP hD hS hz => ?_)
              obtain ⟨hr9, hkp, hL1⟩ := hp9
              subst hr9
              have hP : va_P D vwCl ((g 0, zInts cA 4 cf) :: (g 1, zInts cA 24 tg) :: (g 2, zInts cA 24 ff) :: (g 3, zInts cA 10 vf) :: (g 4, zInts cA 40 jj) :: (g 5, zInts cA 20 lt) :: (g 6, zInts cA 20 dd) :: w1) H := hP
              have hD : va_D A ((g 0, zInts cA 4 cf) :: (g 1, zInts cA 24 tg) :: (g 2, zInts cA 24 ff) :: (g 3, zInts cA 10 vf) :: (g 4, zInts cA 40 jj) :: (g 5, zInts cA 20 lt) :: (g 6, zInts cA 20 dd) :: w1) := hD
              refine lv_iload hx hb dL_tapes_1170 (lv_at hl 0 rfl) ?_
              refine zc_ne (tgt := 1179) hx hb (by omega) (by omega) dL_tapes_1172 (by decide) (fun c_10 => False.elim (by omega)) (fun c_10 => ?_)
              refine lv_iconst (v := bI (true)) hx hb dL_tapes_1175 (by decide) ?_
              refine lv_goto (tgt := 1180) hx hb dL_tapes_1176 (by decide) ?_
              exact W.widen (k := 8) (n := 64) (by omega) (by omega) (zr_qz (S := va_W) (post := (fun (r : Int32) (u : va_W) => r = bI true ∧ LV cA ad g u)) (w1 := fun u => u) ((g 0, zInts cA 4 cf) :: (g 1, zInts cA 24 tg) :: (g 2, zInts cA 24 ff) :: (g 3, zInts cA 10 vf) :: (g 4, zInts cA 40 jj) :: (g 5, zInts cA 20 lt) :: (g 6, zInts cA 20 dd) :: w1) hx hb hr hlocks ⟨rfl, ⟨_, _, _, _, _, _, _, _, _, _, _, _, _, _, _, _, _, _, _, _, _, _, _, _, _, _, _, _, _, _, _, _, _, _, _, _, _, _, _, _, w1, rfl, hL1, hI2, hp2⟩⟩ hP hD hS rfl dL_tapes_1180)
            · refine lv_aload hx hb dL_tapes_1151 (lv_at hl 6 rfl) ?_
              refine lv_bipush (v := nI (16)) hx hb dL_tapes_1153 (by decide) ?_
              refine lv_iload hx hb dL_tapes_1155 (lv_at hl 12 rfl) ?_
              refine zo_add hx hb dL_tapes_1157 ?_
              refine lv_iconst (v := nI (0)) hx hb dL_tapes_1158 (by decide) ?_
              refine va_iast hx hb hZ.1 hP hD hS 1 0 rfl rfl (vp_in_nI (show 16 + kz < 24 by omega) (by omega)) dL_tapes_1159 (fun H locs hP hD hS => ?_)
              rw [nI_clamp (show 16 + kz < 2 ^ 31 by omega)] at hP hD
              have hP : va_P D vwCl ((g 0, zInts cA 4 cf) :: (g 1, zInts cA 24 (upd tg (16 + kz) (nI (0)))) :: (g 2, zInts cA 24 ff) :: (g 3, zInts cA 10 vf) :: (g 4, zInts cA 40 jj) :: (g 5, zInts cA 20 lt) :: (g 6, zInts cA 20 dd) :: cw) H := hP
              have hD : va_D A ((g 0, zInts cA 4 cf) :: (g 1, zInts cA 24 (upd tg (16 + kz) (nI (0)))) :: (g 2, zInts cA 24 ff) :: (g 3, zInts cA 10 vf) :: (g 4, zInts cA 40 jj) :: (g 5, zInts cA 20 lt) :: (g 6, zInts cA 20 dd) :: cw) := hD
              refine lv_iinc (v := nI (kz + 1)) (lv' := [(12, .int (nI (kz + 1))), (11, .int (nI ((2 * hg) + (5 * (cnt (fun i => !la i) n))))), (9, .int (bI (bD))), (0, .ref (ad 0)), (1, .int (nI (7))), (2, .int (y)), (3, .ref (g 0)), (4, .ref (g 1)), (5, .ref (g 3)), (6, .int (va)), (7, .int (bI (bA))), (8, .int (nI (q4))), (10, .int (nI (hg)))]) hx hb dL_tapes_1160 hl (k := 12) rfl (zinc 1 _) (by decide) rfl (fun ls hl => ?_)
              refine lv_goto (tgt := 1145) hx hb dL_tapes_1163 (by decide) ?_
              exact ih1145 (kz + 1, (upd tg (16 + kz) (nI (0)))) H locs ls (by first | omega | (dsimp only; omega)) ⟨lv_sub hl [1, 2, 3, 4, 5, 6, 7, 8, 9, 10, 11, 12, 0] rfl, hP, hD, hS, ⟨by dsimp only; omega, fun i h7 => by
                        dsimp only at h7 ⊢
                        by_cases e : i = kz
                        · rw [e, pk_us]
                        · rw [pk_un (by first | omega | (dsimp only; omega) | (dsimp only at *; omega))]; exact hz4 i (by first | omega | (dsimp only; omega) | (dsimp only at *; omega)), fun i h7 => by dsimp only; rw [pk_un (by first | omega | (dsimp only; omega) | (dsimp only at *; omega))]; exact ho4 i h7⟩⟩
          · refine z_join (α := Nat) (pc' := 1119) (fun v ls => lv_has ls 14 [(9, .int (bI (bD))), (0, .ref (ad 0)), (1, .int (nI (7))), (2, .int (y)), (3, .ref (g 0)), (4, .ref (g 1)), (5, .ref (g 3)), (6, .int (va)), (7, .int (bI (bA))), (8, .int (nI (q4))), (11, .int (nI (k)))] ∧ v = hiS sl mo (k + 1)) (fun v => [.int (nI (v))]) ?_ (fun J1119 => ?_)
            · intro hh ls hv
              obtain ⟨hl, hI1119⟩ := hv
              have hl : lv_has ls 14 [(9, .int (bI (bD))), (0, .ref (ad 0)), (1, .int (nI (7))), (2, .int (y)), (3, .ref (g 0)), (4, .ref (g 1)), (5, .ref (g 3)), (6, .int (va)), (7, .int (bI (bA))), (8, .int (nI (q4))), (11, .int (nI (k)))] := hl
              have hI1119 : hh = hiS sl mo (k + 1) := hI1119
              refine lv_istore (lv' := [(10, .int (nI (hh))), (9, .int (bI (bD))), (0, .ref (ad 0)), (1, .int (nI (7))), (2, .int (y)), (3, .ref (g 0)), (4, .ref (g 1)), (5, .ref (g 3)), (6, .int (va)), (7, .int (bI (bA))), (8, .int (nI (q4))), (11, .int (nI (k)))]) hx hb dL_tapes_1119 hl (by decide) rfl (fun ls hl => ?_)
              refine lv_iinc (v := nI (k + 1)) (lv' := [(11, .int (nI (k + 1))), (10, .int (nI (hh))), (9, .int (bI (bD))), (0, .ref (ad 0)), (1, .int (nI (7))), (2, .int (y)), (3, .ref (g 0)), (4, .ref (g 1)), (5, .ref (g 3)), (6, .int (va)), (7, .int (bI (bA))), (8, .int (nI (q4)))]) hx hb dL_tapes_1121 hl (k := 11) rfl (zinc 1 _) (by decide) rfl (fun ls hl => ?_)
              refine lv_goto (tgt := 1074) hx hb dL_tapes_1124 (by decide) ?_
              exact ih1074 (hh, k + 1) ls (by first | omega | (dsimp only; omega)) ⟨lv_sub hl [2, 3, 4, 5, 6, 7, 8, 9, 10, 11, 1, 0] rfl, ⟨by first | omega | (dsimp only; omega) | (dsimp only at *; omega), hI1119⟩⟩
            · skip
              obtain ⟨qa1, qa2, qa3, qa4, qa5, qa6, qa7⟩ := qT k (by omega)
              have hsk := hs12 k (by omega)
              rcases hmo : mo k with _ | j0
              · have qm : tf (12 + k) = -1 := by rw [qa4, hmo]; rfl
                refine lv_aload hx hb dL_tapes_1082 (lv_at hl 5 rfl) ?_
                refine lv_bipush (v := nI (12)) hx hb dL_tapes_1084 (by decide) ?_
                refine lv_iload hx hb dL_tapes_1086 (lv_at hl 11 rfl) ?_
                refine zo_add hx hb dL_tapes_1088 ?_
                refine va_iald hx hb hZ.1 hP 1 0 rfl rfl (vp_in_nI (show 12 + k < 24 by omega) (by omega)) dL_tapes_1089 ?_
                rw [nI_clamp (show 12 + k < 2 ^ 31 by omega)]
                refine zx_val (y := (-1)) (qm) ?_
                refine lv_if_ge (tgt := 1117) hx hb dL_tapes_1090 (by decide) (fun c_11 => absurd c_11 (by decide)) (fun c_11 => ?_)
                refine lv_aload hx hb dL_tapes_1093 (lv_at hl 5 rfl) ?_
                refine lv_bipush (v := nI (8)) hx hb dL_tapes_1095 (by decide) ?_
                refine lv_iload hx hb dL_tapes_1097 (lv_at hl 11 rfl) ?_
                refine zo_add hx hb dL_tapes_1099 ?_
                refine va_iald hx hb hZ.1 hP 1 0 rfl rfl (vp_in_nI (show 8 + k < 24 by omega) (by omega)) dL_tapes_1100 ?_
                rw [nI_clamp (show 8 + k < 2 ^ 31 by omega)]
                refine zx_val (y := nI (sl k)) (qa3) ?_
                refine lv_iload hx hb dL_tapes_1101 (lv_at hl 10 rfl) ?_
                refine zc_le (tgt := 1117) hx hb (by omega) (by omega) dL_tapes_1103 (by decide) (fun c_12 => ?_) (fun c_12 => ?_)
                · refine lv_iload hx hb dL_tapes_1117 (lv_at hl 10 rfl) ?_
                  exact J1119 (hg) ls ⟨lv_sub hl [0, 1, 2, 3, 4, 5, 6, 7, 8, 9, 11] rfl, by rw [hiS, hmo, ← hhg]; show _ = max hg (sl k); omega⟩
                · refine lv_aload hx hb dL_tapes_1106 (lv_at hl 5 rfl) ?_
                  refine lv_bipush (v := nI (8)) hx hb dL_tapes_1108 (by decide) ?_
                  refine lv_iload hx hb dL_tapes_1110 (lv_at hl 11 rfl) ?_
                  refine zo_add hx hb dL_tapes_1112 ?_
                  refine va_iald hx hb hZ.1 hP 1 0 rfl rfl (vp_in_nI (show 8 + k < 24 by omega) (by omega)) dL_tapes_1113 ?_
                  rw [nI_clamp (show 8 + k < 2 ^ 31 by omega)]
                  refine zx_val (y := nI (sl k)) (qa3) ?_
                  refine lv_goto (tgt := 1119) hx hb dL_tapes_1114 (by decide) ?_
                  exact J1119 (sl k) ls ⟨lv_sub hl [0, 1, 2, 3, 4, 5, 6, 7, 8, 9, 11] rfl, by rw [hiS, hmo, ← hhg]; show _ = max hg (sl k); omega⟩
              · have qm : tf (12 + k) = nI j0 := by rw [qa4, hmo]; rfl
                have hj9 := ((hIT k (by omega)).2.2.2.2.2.1 j0 hmo).1
                refine lv_aload hx hb dL_tapes_1082 (lv_at hl 5 rfl) ?_
                refine lv_bipush (v := nI (12)) hx hb dL_tapes_1084 (by decide) ?_
                refine lv_iload hx hb dL_tapes_1086 (lv_at hl 11 rfl) ?_
                refine zo_add hx hb dL_tapes_1088 ?_
                refine va_iald hx hb hZ.1 hP 1 0 rfl rfl (vp_in_nI (show 12 + k < 24 by omega) (by omega)) dL_tapes_1089 ?_
                rw [nI_clamp (show 12 + k < 2 ^ 31 by omega)]
                refine zx_val (y := nI (j0)) (qm) ?_
                refine zf_ge (tgt := 1117) hx hb (by omega) dL_tapes_1090 (by decide) ?_
                refine lv_iload hx hb dL_tapes_1117 (lv_at hl 10 rfl) ?_
                exact J1119 (hg) ls ⟨lv_sub hl [0, 1, 2, 3, 4, 5, 6, 7, 8, 9, 11] rfl, by rw [hiS, hmo, ← hhg]; rfl⟩
        · skip
          refine lv_iload hx hb dL_tapes_84 (lv_at hl 0 rfl) ?_
          refine lv_aload_n hx hb dL_tapes_86 rfl (lv_at hl 4 rfl) ?_
          refine lv_iconst (v := nI (1)) hx hb dL_tapes_87 (by decide) ?_
          refine va_iald hx hb hZ.1 hP 0 0 rfl rfl (vp_in_nI (show 1 < 4 by omega) (by omega)) dL_tapes_88 ?_
          rw [nI_clamp (show 1 < 2 ^ 31 by omega)]
          refine zx_val (y := nI (nd)) (c1) ?_
          refine zc_ge (tgt := 96) hx hb (by omega) (by omega) dL_tapes_89 (by decide) (fun c_14 => ?_) (fun c_14 => ?_)
          · refine lv_iconst (v := bI (false)) hx hb dL_tapes_96 (by decide) ?_
            exact J97 (false) ls ⟨lv_sub hl [1, 2, 3, 4, 5, 6, 7, 8, 0] rfl, (decide_eq_false (by omega)).symm⟩
          · refine lv_iconst (v := bI (true)) hx hb dL_tapes_92 (by decide) ?_
            refine lv_goto (tgt := 97) hx hb dL_tapes_93 (by decide) ?_
            exact J97 (true) ls ⟨lv_sub hl [1, 2, 3, 4, 5, 6, 7, 8, 0] rfl, (decide_eq_true (by omega)).symm⟩
      · skip
        refine zf_eq (tgt := 73) hx hb (by omega) dL_tapes_64 (by decide) (fun c_15 => ?_) (fun c_15 => ?_)
        · refine lv_iconst (v := nI (1)) hx hb dL_tapes_73 (by decide) ?_
          refine lv_goto (tgt := 78) hx hb dL_tapes_74 (by decide) ?_
          exact J78 (1) ls ⟨lv_sub hl [1, 2, 3, 4, 5, 6, 7, 0] rfl, by omega⟩
        · refine lv_aload_n hx hb dL_tapes_67 rfl (lv_at hl 4 rfl) ?_
          refine lv_iconst (v := nI (1)) hx hb dL_tapes_68 (by decide) ?_
          refine va_iald hx hb hZ.1 hP 0 0 rfl rfl (vp_in_nI (show 1 < 4 by omega) (by omega)) dL_tapes_69 ?_
          rw [nI_clamp (show 1 < 2 ^ 31 by omega)]
          refine zx_val (y := nI (nd)) (c1) ?_
          refine zf_ne (tgt := 77) hx hb (by omega) dL_tapes_70 (by decide) (fun c_16 => ?_) (fun c_16 => ?_)
          · refine lv_iconst (v := nI (0)) hx hb dL_tapes_77 (by decide) ?_
            exact J78 (0) ls ⟨lv_sub hl [1, 2, 3, 4, 5, 6, 7, 0] rfl, by omega⟩
          · refine lv_iconst (v := nI (1)) hx hb dL_tapes_73 (by decide) ?_
            refine lv_goto (tgt := 78) hx hb dL_tapes_74 (by decide) ?_
            exact J78 (1) ls ⟨lv_sub hl [1, 2, 3, 4, 5, 6, 7, 0] rfl, by omega⟩
    · skip
      rcases hAq with ⟨a, han, hva1⟩ | ⟨hAn, hva1 | hva1⟩
      · rw [hva1] at hl
        refine lv_iload hx hb dL_tapes_29 (lv_at hl 0 rfl) ?_
        refine zf_lt (tgt := 46) hx hb (by omega) dL_tapes_31 (by decide) ?_
        refine lv_iload hx hb dL_tapes_34 (lv_at hl 0 rfl) ?_
        refine lv_aload_n hx hb dL_tapes_36 rfl (lv_at hl 4 rfl) ?_
        refine lv_iconst (v := nI (0)) hx hb dL_tapes_37 (by decide) ?_
        refine va_iald hx hb hZ.1 hP 0 0 rfl rfl (vp_in_nI (show 0 < 4 by omega) (by omega)) dL_tapes_38 ?_
        rw [nI_clamp (show 0 < 2 ^ 31 by omega)]
        refine zx_val (y := nI (n)) (c0) ?_
        refine zc_ge (tgt := 46) hx hb (by omega) (by omega) dL_tapes_39 (by decide) (fun c_18 => False.elim (by omega)) (fun c_18 => ?_)
        refine lv_iconst (v := bI (true)) hx hb dL_tapes_42 (by decide) ?_
        refine lv_goto (tgt := 47) hx hb dL_tapes_43 (by decide) ?_
        rw [← hva1] at hl
        exact J47 true ls ⟨lv_sub hl [1, 2, 3, 4, 5, 6, 0] rfl, Or.inl ⟨rfl, a, han, hva1⟩⟩
      · rw [hva1] at hl
        refine lv_iload hx hb dL_tapes_29 (lv_at hl 0 rfl) ?_
        refine lv_if_lt (tgt := 46) hx hb dL_tapes_31 (by decide) (fun c_19 => ?_) (fun c_19 => absurd (by decide) c_19)
        refine lv_iconst (v := bI (false)) hx hb dL_tapes_46 (by decide) ?_
        rw [← hva1] at hl
        exact J47 false ls ⟨lv_sub hl [1, 2, 3, 4, 5, 6, 0] rfl, Or.inr ⟨rfl, hAn⟩⟩
      · rw [hva1] at hl
        refine lv_iload hx hb dL_tapes_29 (lv_at hl 0 rfl) ?_
        refine zf_lt (tgt := 46) hx hb (by omega) dL_tapes_31 (by decide) ?_
        refine lv_iload hx hb dL_tapes_34 (lv_at hl 0 rfl) ?_
        refine lv_aload_n hx hb dL_tapes_36 rfl (lv_at hl 4 rfl) ?_
        refine lv_iconst (v := nI (0)) hx hb dL_tapes_37 (by decide) ?_
        refine va_iald hx hb hZ.1 hP 0 0 rfl rfl (vp_in_nI (show 0 < 4 by omega) (by omega)) dL_tapes_38 ?_
        rw [nI_clamp (show 0 < 2 ^ 31 by omega)]
        refine zx_val (y := nI (n)) (c0) ?_
        refine zc_ge (tgt := 46) hx hb (by omega) (by omega) dL_tapes_39 (by decide) (fun c_21 => ?_) (fun c_21 => False.elim (by omega))
        refine lv_iconst (v := bI (false)) hx hb dL_tapes_46 (by decide) ?_
        rw [← hva1] at hl
        exact J47 false ls ⟨lv_sub hl [1, 2, 3, 4, 5, 6, 0] rfl, Or.inr ⟨rfl, hAn⟩⟩
  · skip
    refine zf_ne (tgt := 25) hx hb (by omega) dL_tapes_18 (by decide) (fun c_22 => ?_) (fun c_22 => ?_)
    · refine lv_iconst (v := nI (0)) hx hb dL_tapes_25 (by decide) ?_
      exact J26 (0) ls ⟨lv_sub hl [0, 1, 2, 3, 4, 5] rfl, by omega⟩
    · refine lv_iconst (v := nI (1)) hx hb dL_tapes_21 (by decide) ?_
      refine lv_goto (tgt := 26) hx hb dL_tapes_22 (by decide) ?_
      exact J26 (1) ls ⟨lv_sub hl [0, 1, 2, 3, 4, 5] rfl, by omega⟩
