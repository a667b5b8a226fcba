set_option maxHeartbeats 4000000 in
set_option maxRecDepth 100000 in
theorem c_L_tapes_0 (l : Launch) (hlt : l.stackTraces = false) (D : va_G) (cA : Nat → ClassId) (sz : Nat) (ad : Nat → Nat) (T : Nat → Nat) (Bd : Nat → Nat) (E : Nat → Nat) (PT : Nat → Nat) (PB : Nat → Nat) (PE : Nat → Nat) (n : Nat) (tr : Nat → Nat) (le : Nat → Nat) (sl : Nat → Nat) (mo : Nat → Option Nat) (la : Nat → Bool) (fc : Nat → Nat) (bo : Nat → Nat → Nat) (nd : Nat) (mk : Nat → Nat) (ck : Nat → Int32) (ct : Nat → Nat) (hd : Nat → Option Nat) (pq : Nat → Int32) (nj : Nat) (fw : Nat → Int32) (jf : Nat → Nat) (dl : Nat → Nat) (dn : Nat) (oc : Nat) (s8 : Nat → Int32) (s9 : Nat → Int32) (s10 : Nat → Int32) (s11 : Nat → Int32) (s12 : Nat → Int32) (cf : Nat → Int32) (tf : Nat → Int32) (ff : Nat → Int32) (vf : Nat → Int32) (jj : Nat → Int32) (lt : Nat → Int32) (dd : Nat → Int32) (jt : Nat → Nat) (fin : Nat → Bool) (g : Nat → Nat) (cw : va_W) (hL : zL cA cw ad T Bd E PT PB PE n tr le sl mo la fc bo nd mk ck ct hd pq nj fw jf dl dn oc s8 s9 s10 s11 s12) (hI : zI n tr le sl mo fc bo nd mk ct hd pq nj fw jf dl) (hp : pL n tr le sl mo la fc bo nd mk ck ct hd pq nj fw jf dl dn cf tf ff vf jj lt dd jt fin) (y : Int32) : Met l yL_tapes wsL_tapes ({ frames := 10, cells := 8, slots := 64, locals := 194 }) (va_Pc [.ref (ad 0), .int (nI (0)), .int (y), .ref (g 0), .ref (g 1), .ref (g 3)] (zMW D cA ((g 0, zInts cA 4 cf) :: (g 1, zInts cA 24 tf) :: (g 2, zInts cA 24 ff) :: (g 3, zInts cA 10 vf) :: (g 4, zInts cA 40 jj) :: (g 5, zInts cA 20 lt) :: (g 6, zInts cA 20 dd) :: cw) sz)) (va_Qi (fun (r : Int32) (u : va_W) => r = bI true ∧ LV cA ad g u) (fun u => zB D (va_A ((g 0, zInts cA 4 cf) :: (g 1, zInts cA 24 tf) :: (g 2, zInts cA 24 ff) :: (g 3, zInts cA 10 vf) :: (g 4, zInts cA 40 jj) :: (g 5, zInts cA 20 lt) :: (g 6, zInts cA 20 dd) :: cw) sz) u) (va_A ((g 0, zInts cA 4 cf) :: (g 1, zInts cA 24 tf) :: (g 2, zInts cA 24 ff) :: (g 3, zInts cA 10 vf) :: (g 4, zInts cA 40 jj) :: (g 5, zInts cA 20 lt) :: (g 6, zInts cA 20 dd) :: cw) sz)) 8 64 (va_A ((g 0, zInts cA 4 cf) :: (g 1, zInts cA 24 tf) :: (g 2, zInts cA 24 ff) :: (g 3, zInts cA 10 vf) :: (g 4, zInts cA 40 jj) :: (g 5, zInts cA 20 lt) :: (g 6, zInts cA 20 dd) :: cw) sz) := by
  refine zOpen (cc := cL_tapes) (maxL := 14) (ret := (some .boolean)) (own := RL) (by decide) rfl rfl (Nat.le_of_ble_eq_true rfl) ?_
  intro p e s m below meth c ls hx hb hr hml hts hown hlocks hnm ⟨⟨⟨hZ, hP, hD0, hsz⟩, hX⟩, hN⟩ hl
  subst hsz
  have hD := hD0.self (sz := s.heap.size)
  generalize hAe : va_A ((g 0, zInts cA 4 cf) :: (g 1, zInts cA 24 tf) :: (g 2, zInts cA 24 ff) :: (g 3, zInts cA 10 vf) :: (g 4, zInts cA 40 jj) :: (g 5, zInts cA 20 lt) :: (g 6, zInts cA 20 dd) :: cw) s.heap.size = A at hD hX ⊢
  have hA : ∀ q : Nat, s.heap.size ≤ q → A q := fun q h => by rw [← hAe]; exact Or.inr h
  have hS : va_S A s.heap s.heap [] := va_S.rf
  have hl : lv_has ls 14 [(0, .ref (ad 0)), (1, .int (nI (0))), (2, .int (y)), (3, .ref (g 0)), (4, .ref (g 1)), (5, .ref (g 3))] := hl
  have hL0 := hL
  have l0 := hL.1.1
  obtain ⟨hn8, hd3, hj60, hIT, hID, hIJ, hIdl, hIw⟩ := id hI
  obtain ⟨⟨hn4, hd2, hj20⟩, ⟨c0, c1, c2, c3⟩, qT, qT0, qF, qV, qV0, qJ, qJ0, qW⟩ := id hp
  have hIk := hI
  refine lv_iload_n hx hb dL_tapes_0 rfl (lv_at hl 2 rfl) ?_
  refine lv_aload_n hx hb dL_tapes_1 rfl (lv_at hl 3 rfl) ?_
  refine lv_iconst (v := nI (0)) hx hb dL_tapes_2 (by decide) ?_
  refine va_iald hx hb hZ.1 hP 0 0 rfl rfl (vp_in_nI (show 0 < 4 by omega) (by omega)) dL_tapes_3 ?_
  rw [nI_clamp (show 0 < 2 ^ 31 by omega)]
  refine zx_val (y := nI (n)) (c0) ?_
  refine lv_iconst (v := nI (1)) hx hb dL_tapes_4 (by decide) ?_
  refine zo_add hx hb dL_tapes_5 ?_
  refine zk_S_i (n := 2) (As := [.int (y), .int (nI (n + 1))]) (rest := []) hx hb hml hts hown hZ hP (c_L_some l D cA _ y (n + 1) (by omega) (by omega)) gL_tapes_L_some rfl ⟨rfl, rfl⟩ ⟨by decide +kernel, (Nat.le_of_ble_eq_true rfl), (Nat.le_of_ble_eq_true rfl)⟩ hl.1 rfl (Nat.le_of_ble_eq_true rfl) ⟨(Nat.le_of_ble_eq_true rfl), (Nat.le_of_ble_eq_true rfl)⟩ rfl dL_tapes_6 (fun r1 hr1 => ?_)
  obtain ⟨q1, hq1, hb1⟩ : ∃ z, r1 = nI z ∧ z < (n + 1) := ⟨_, hr1, sm_lt (by omega)⟩
  subst hq1
  refine lv_iload_n hx hb dL_tapes_9 rfl (lv_at hl 2 rfl) ?_
  refine lv_bipush (v := nI (9)) hx hb dL_tapes_10 (by decide) ?_
  refine lv_ishr hx hb dL_tapes_12 ?_
  refine lv_bipush (v := nI (19)) hx hb dL_tapes_13 (by decide) ?_
  refine zk_S_i (n := 2) (As := [.int ((y) >>> ((nI (9)) &&& 31)), .int (nI (19))]) (rest := [.int (nI (q1))]) hx hb hml hts hown hZ hP (c_L_some l D cA _ ((y) >>> ((nI (9)) &&& 31)) 19 (by omega) (by omega)) gL_tapes_L_some rfl ⟨rfl, rfl⟩ ⟨by decide +kernel, (Nat.le_of_ble_eq_true rfl), (Nat.le_of_ble_eq_true rfl)⟩ hl.1 rfl (Nat.le_of_ble_eq_true rfl) ⟨(Nat.le_of_ble_eq_true rfl), (Nat.le_of_ble_eq_true rfl)⟩ rfl dL_tapes_15 (fun r2 hr2 => ?_)
  obtain ⟨q2, hq2, hb2⟩ : ∃ z, r2 = nI z ∧ z < 19 := ⟨_, hr2, sm_lt (by omega)⟩
  subst hq2
  refine z_join (α := Nat) (pc' := 26) (fun v ls => lv_has ls 14 [(0, .ref (ad 0)), (1, .int (nI (0))), (2, .int (y)), (3, .ref (g 0)), (4, .ref (g 1)), (5, .ref (g 3))] ∧ v ≤ 1) (fun v => [.int (nI (v)), .int (nI (q1))]) ?_ (fun J26 => ?_)
  · intro x1 ls hv
    obtain ⟨hl, hI26⟩ := hv
    have hl : lv_has ls 14 [(0, .ref (ad 0)), (1, .int (nI (0))), (2, .int (y)), (3, .ref (g 0)), (4, .ref (g 1)), (5, .ref (g 3))] := hl
    have hI26 : x1 ≤ 1 := hI26
    obtain ⟨va, hva, hAq⟩ := tapes_va hn4 hb1 hI26
    refine lv_isub hx hb dL_tapes_26 ?_
    refine zx_val (y := va) hva ?_
    refine lv_istore (lv' := [(6, .int (va)), (0, .ref (ad 0)), (1, .int (nI (0))), (2, .int (y)), (3, .ref (g 0)), (4, .ref (g 1)), (5, .ref (g 3))]) hx hb dL_tapes_27 hl (by decide) rfl (fun ls hl => ?_)
    refine z_join (α := Bool) (pc' := 47) (fun bA ls => lv_has ls 14 [(0, .ref (ad 0)), (1, .int (nI (0))), (2, .int (y)), (3, .ref (g 0)), (4, .ref (g 1)), (5, .ref (g 3)), (6, .int (va))] ∧ ((bA = true ∧ ∃ a, a < n ∧ va = nI a) ∨ (bA = false ∧ ∀ j, j < n → va ≠ nI j))) (fun bA => [.int (bI bA)]) ?_ (fun J47 => ?_)
    · intro bA ls hv
      obtain ⟨hl, hAA⟩ := hv
      have hl : lv_has ls 14 [(0, .ref (ad 0)), (1, .int (nI (0))), (2, .int (y)), (3, .ref (g 0)), (4, .ref (g 1)), (5, .ref (g 3)), (6, .int (va))] := hl
      refine lv_istore (lv' := [(7, .int (bI (bA))), (0, .ref (ad 0)), (1, .int (nI (0))), (2, .int (y)), (3, .ref (g 0)), (4, .ref (g 1)), (5, .ref (g 3)), (6, .int (va))]) hx hb dL_tapes_47 hl (by decide) rfl (fun ls hl => ?_)
      refine lv_iload_n hx hb dL_tapes_49 rfl (lv_at hl 3 rfl) ?_
      refine lv_iconst (v := nI (3)) hx hb dL_tapes_50 (by decide) ?_
      refine lv_ishr hx hb dL_tapes_51 ?_
      refine lv_aload_n hx hb dL_tapes_52 rfl (lv_at hl 4 rfl) ?_
      refine lv_iconst (v := nI (1)) hx hb dL_tapes_53 (by decide) ?_
      refine va_iald hx hb hZ.1 hP 0 0 rfl rfl (vp_in_nI (show 1 < 4 by omega) (by omega)) dL_tapes_54 ?_
      rw [nI_clamp (show 1 < 2 ^ 31 by omega)]
      refine zx_val (y := nI (nd)) (c1) ?_
      refine lv_iload_n hx hb dL_tapes_55 rfl (lv_at hl 3 rfl) ?_
      refine lv_bipush (v := nI (7)) hx hb dL_tapes_56 (by decide) ?_
      refine lv_ishr hx hb dL_tapes_58 ?_
      refine lv_bipush (v := nI (9)) hx hb dL_tapes_59 (by decide) ?_
      refine zk_S_i (n := 2) (As := [.int ((y) >>> ((nI (7)) &&& 31)), .int (nI (9))]) (rest := [.int (nI (nd)), .int ((y) >>> ((nI (3)) &&& 31))]) hx hb hml hts hown hZ hP (c_L_some l D cA _ ((y) >>> ((nI (7)) &&& 31)) 9 (by omega) (by omega)) gL_tapes_L_some rfl ⟨rfl, rfl⟩ ⟨by decide +kernel, (Nat.le_of_ble_eq_true rfl), (Nat.le_of_ble_eq_true rfl)⟩ hl.1 rfl (Nat.le_of_ble_eq_true rfl) ⟨(Nat.le_of_ble_eq_true rfl), (Nat.le_of_ble_eq_true rfl)⟩ rfl dL_tapes_61 (fun r3 hr3 => ?_)
      obtain ⟨q3, hq3, hb3⟩ : ∃ z, r3 = nI z ∧ z < 9 := ⟨_, hr3, sm_lt (by omega)⟩
      subst hq3
      refine z_join (α := Nat) (pc' := 78) (fun v ls => lv_has ls 14 [(0, .ref (ad 0)), (1, .int (nI (0))), (2, .int (y)), (3, .ref (g 0)), (4, .ref (g 1)), (5, .ref (g 3)), (6, .int (va)), (7, .int (bI (bA)))] ∧ v ≤ 1 ∧ (nd = 0 → v = 1)) (fun v => [.int (nI (v)), .int (nI (nd)), .int ((y) >>> ((nI (3)) &&& 31))]) ?_ (fun J78 => ?_)
      · intro x2 ls hv
        obtain ⟨hl, hI78⟩ := hv
        have hl : lv_has ls 14 [(0, .ref (ad 0)), (1, .int (nI (0))), (2, .int (y)), (3, .ref (g 0)), (4, .ref (g 1)), (5, .ref (g 3)), (6, .int (va)), (7, .int (bI (bA)))] := hl
        have hI78 : x2 ≤ 1 ∧ (nd = 0 → x2 = 1) := hI78
        refine zo_add hx hb dL_tapes_78 ?_
        obtain ⟨hx2, hx20⟩ := hI78
        refine zk_S_i (n := 2) (As := [.int ((y) >>> ((nI (3)) &&& 31)), .int (nI (nd + x2))]) (rest := []) hx hb hml hts hown hZ hP (c_L_some l D cA _ ((y) >>> ((nI (3)) &&& 31)) (nd + x2) (by omega) (by omega)) gL_tapes_L_some rfl ⟨rfl, rfl⟩ ⟨by decide +kernel, (Nat.le_of_ble_eq_true rfl), (Nat.le_of_ble_eq_true rfl)⟩ hl.1 rfl (Nat.le_of_ble_eq_true rfl) ⟨(Nat.le_of_ble_eq_true rfl), (Nat.le_of_ble_eq_true rfl)⟩ rfl dL_tapes_79 (fun r4 hr4 => ?_)
        obtain ⟨q4, hq4, hb4⟩ : ∃ z, r4 = nI z ∧ z < (nd + x2) := ⟨_, hr4, sm_lt (by omega)⟩
        subst hq4
        refine lv_istore (lv' := [(8, .int (nI (q4))), (0, .ref (ad 0)), (1, .int (nI (0))), (2, .int (y)), (3, .ref (g 0)), (4, .ref (g 1)), (5, .ref (g 3)), (6, .int (va)), (7, .int (bI (bA)))]) hx hb dL_tapes_82 hl (by decide) rfl (fun ls hl => ?_)
        refine z_join (α := Bool) (pc' := 97) (fun v ls => lv_has ls 14 [(0, .ref (ad 0)), (1, .int (nI (0))), (2, .int (y)), (3, .ref (g 0)), (4, .ref (g 1)), (5, .ref (g 3)), (6, .int (va)), (7, .int (bI (bA))), (8, .int (nI (q4)))] ∧ v = decide (q4 < nd)) (fun v => [.int (bI (v))]) ?_ (fun J97 => ?_)
        · intro bD ls hv
          obtain ⟨hl, hI97⟩ := hv
          have hl : lv_has ls 14 [(0, .ref (ad 0)), (1, .int (nI (0))), (2, .int (y)), (3, .ref (g 0)), (4, .ref (g 1)), (5, .ref (g 3)), (6, .int (va)), (7, .int (bI (bA))), (8, .int (nI (q4)))] := hl
          have hI97 : bD = decide (q4 < nd) := hI97
          have hDd : q4 ≤ nd := by omega
          refine lv_istore (lv' := [(9, .int (bI (bD))), (0, .ref (ad 0)), (1, .int (nI (0))), (2, .int (y)), (3, .ref (g 0)), (4, .ref (g 1)), (5, .ref (g 3)), (6, .int (va)), (7, .int (bI (bA))), (8, .int (nI (q4)))]) hx hb dL_tapes_97 hl (by decide) rfl (fun ls hl => ?_)
          refine lv_iload_n hx hb dL_tapes_99 rfl (lv_at hl 2 rfl) ?_
          refine zf_ne (tgt := 290) hx hb (by omega) dL_tapes_100 (by decide) (fun c_1 => False.elim (by omega)) (fun c_1 => ?_)
          refine lv_iload_n hx hb dL_tapes_103 rfl (lv_at hl 3 rfl) ?_
          refine lv_bipush (v := nI (30)) hx hb dL_tapes_104 (by decide) ?_
          refine zk_S_i (n := 2) (As := [.int (y), .int (nI (30))]) (rest := []) hx hb hml hts hown hZ hP (c_L_some l D cA _ y 30 (by omega) (by omega)) gL_tapes_L_some rfl ⟨rfl, rfl⟩ ⟨by decide +kernel, (Nat.le_of_ble_eq_true rfl), (Nat.le_of_ble_eq_true rfl)⟩ hl.1 rfl (Nat.le_of_ble_eq_true rfl) ⟨(Nat.le_of_ble_eq_true rfl), (Nat.le_of_ble_eq_true rfl)⟩ rfl dL_tapes_106 (fun r5 hr5 => ?_)
          obtain ⟨q5, hq5, hb5⟩ : ∃ z, r5 = nI z ∧ z < 30 := ⟨_, hr5, sm_lt (by omega)⟩
          subst hq5
          refine z_join (α := Nat) (pc' := 124) (fun v ls => lv_has ls 14 [(0, .ref (ad 0)), (1, .int (nI (0))), (2, .int (y)), (3, .ref (g 0)), (4, .ref (g 1)), (5, .ref (g 3)), (6, .int (va)), (7, .int (bI (bA))), (8, .int (nI (q4))), (9, .int (bI (bD)))] ∧ 1 ≤ v ∧ v ≤ 9) (fun v => [.int (nI (v))]) ?_ (fun J124 => ?_)
          · intro tk ls hv
            obtain ⟨hl, hI124⟩ := hv
            have hl : lv_has ls 14 [(0, .ref (ad 0)), (1, .int (nI (0))), (2, .int (y)), (3, .ref (g 0)), (4, .ref (g 1)), (5, .ref (g 3)), (6, .int (va)), (7, .int (bI (bA))), (8, .int (nI (q4))), (9, .int (bI (bD)))] := hl
            have hI124 : 1 ≤ tk ∧ tk ≤ 9 := hI124
            refine lv_istore (lv' := [(10, .int (nI (tk))), (0, .ref (ad 0)), (1, .int (nI (0))), (2, .int (y)), (3, .ref (g 0)), (4, .ref (g 1)), (5, .ref (g 3)), (6, .int (va)), (7, .int (bI (bA))), (8, .int (nI (q4))), (9, .int (bI (bD)))]) hx hb dL_tapes_124 hl (by decide) rfl (fun ls hl => ?_)
            refine lv_iload_n hx hb dL_tapes_126 rfl (lv_at hl 3 rfl) ?_
            refine lv_iconst (v := nI (4)) hx hb dL_tapes_127 (by decide) ?_
            refine lv_ishr hx hb dL_tapes_128 ?_
            refine lv_bipush (v := nI (30)) hx hb dL_tapes_129 (by decide) ?_
            refine zk_S_i (n := 2) (As := [.int ((y) >>> ((nI (4)) &&& 31)), .int (nI (30))]) (rest := []) hx hb hml hts hown hZ hP (c_L_some l D cA _ ((y) >>> ((nI (4)) &&& 31)) 30 (by omega) (by omega)) gL_tapes_L_some rfl ⟨rfl, rfl⟩ ⟨by decide +kernel, (Nat.le_of_ble_eq_true rfl), (Nat.le_of_ble_eq_true rfl)⟩ hl.1 rfl (Nat.le_of_ble_eq_true rfl) ⟨(Nat.le_of_ble_eq_true rfl), (Nat.le_of_ble_eq_true rfl)⟩ rfl dL_tapes_131 (fun r6 hr6 => ?_)
            obtain ⟨q6, hq6, hb6⟩ : ∃ z, r6 = nI z ∧ z < 30 := ⟨_, hr6, sm_lt (by omega)⟩
            subst hq6
            refine z_join (α := Nat) (pc' := 151) (fun v ls => lv_has ls 14 [(0, .ref (ad 0)), (1, .int (nI (0))), (2, .int (y)), (3, .ref (g 0)), (4, .ref (g 1)), (5, .ref (g 3)), (6, .int (va)), (7, .int (bI (bA))), (8, .int (nI (q4))), (9, .int (bI (bD))), (10, .int (nI (tk)))] ∧ 3 ≤ v ∧ v ≤ 12) (fun v => [.int (nI (v))]) ?_ (fun J151 => ?_)
            · intro ln ls hv
              obtain ⟨hl, hI151⟩ := hv
              have hl : lv_has ls 14 [(0, .ref (ad 0)), (1, .int (nI (0))), (2, .int (y)), (3, .ref (g 0)), (4, .ref (g 1)), (5, .ref (g 3)), (6, .int (va)), (7, .int (bI (bA))), (8, .int (nI (q4))), (9, .int (bI (bD))), (10, .int (nI (tk)))] := hl
              have hI151 : 3 ≤ ln ∧ ln ≤ 12 := hI151
              refine lv_istore (lv' := [(11, .int (nI (ln))), (0, .ref (ad 0)), (1, .int (nI (0))), (2, .int (y)), (3, .ref (g 0)), (4, .ref (g 1)), (5, .ref (g 3)), (6, .int (va)), (7, .int (bI (bA))), (8, .int (nI (q4))), (9, .int (bI (bD))), (10, .int (nI (tk)))]) hx hb dL_tapes_151 hl (by decide) rfl (fun ls hl => ?_)
              rcases (by omega : (tk < 9 ∧ 3 < ln ∧ n = 4) ∨ (tk < 9 ∧ 3 < ln ∧ n < 4) ∨ 9 ≤ tk ∨ (tk < 9 ∧ ln ≤ 3)) with ⟨hk1, hk2, hk3⟩ | ⟨hk1, hk2, hk3⟩ | hk1 | ⟨hk1, hk2⟩
              · refine lv_iload hx hb dL_tapes_153 (lv_at hl 11 rfl) ?_
                refine lv_bipush (v := nI (9)) hx hb dL_tapes_155 (by decide) ?_
                refine zc_ge (tgt := 170) hx hb (by omega) (by omega) dL_tapes_157 (by decide) (fun c_2 => False.elim (by omega)) (fun c_2 => ?_)
                refine lv_iload hx hb dL_tapes_160 (lv_at hl 0 rfl) ?_
                refine lv_iconst (v := nI (3)) hx hb dL_tapes_162 (by decide) ?_
                refine zc_le (tgt := 170) hx hb (by omega) (by omega) dL_tapes_163 (by decide) (fun c_3 => False.elim (by omega)) (fun c_3 => ?_)
                refine lv_iconst (v := bI (true)) hx hb dL_tapes_166 (by decide) ?_
                refine lv_goto (tgt := 171) hx hb dL_tapes_167 (by decide) ?_
                refine lv_istore (lv' := [(12, .int (bI (true))), (11, .int (nI (ln))), (0, .ref (ad 0)), (1, .int (nI (0))), (2, .int (y)), (3, .ref (g 0)), (4, .ref (g 1)), (5, .ref (g 3)), (6, .int (va)), (7, .int (bI (bA))), (8, .int (nI (q4))), (9, .int (bI (bD))), (10, .int (nI (tk)))]) hx hb dL_tapes_171 hl (by decide) rfl (fun ls hl => ?_)
                refine lv_iload hx hb dL_tapes_173 (lv_at hl 0 rfl) ?_
                refine zb_eq (tgt := 187) hx hb dL_tapes_175 (by decide) (fun c_4 => Bool.noConfusion c_4) (fun c_4 => ?_)
                refine lv_aload_n hx hb dL_tapes_178 rfl (lv_at hl 5 rfl) ?_
                refine lv_iconst (v := nI (0)) hx hb dL_tapes_179 (by decide) ?_
                refine va_iald hx hb hZ.1 hP 0 0 rfl rfl (vp_in_nI (show 0 < 4 by omega) (by omega)) dL_tapes_180 ?_
                rw [nI_clamp (show 0 < 2 ^ 31 by omega)]
                refine zx_val (y := nI (n)) (c0) ?_
                refine lv_iconst (v := nI (4)) hx hb dL_tapes_181 (by decide) ?_
                refine zc_ne (tgt := 187) hx hb (by omega) (by omega) dL_tapes_182 (by decide) (fun c_5 => False.elim (by omega)) (fun c_5 => ?_)
                refine lv_iconst (v := bI (true)) hx hb dL_tapes_185 (by decide) ?_
                exact W.widen (k := 8) (n := 64) (by omega) (by omega) (zr_qz (S := va_W) (post := (fun (r : Int32) (u : va_W) => r = bI true ∧ LV cA ad g u)) (w1 := fun u => u) ((g 0, zInts cA 4 cf) :: (g 1, zInts cA 24 tf) :: (g 2, zInts cA 24 ff) :: (g 3, zInts cA 10 vf) :: (g 4, zInts cA 40 jj) :: (g 5, zInts cA 20 lt) :: (g 6, zInts cA 20 dd) :: cw) hx hb hr hlocks ⟨rfl, ⟨_, _, _, _, _, _, _, _, _, _, _, _, _, _, _, _, _, _, _, _, _, _, _, _, _, _, _, _, _, _, _, _, _, _, _, _, _, _, _, _, cw, rfl, hL, hI, hp⟩⟩ hP hD hS rfl dL_tapes_186)
              · refine lv_iload hx hb dL_tapes_153 (lv_at hl 11 rfl) ?_
                refine lv_bipush (v := nI (9)) hx hb dL_tapes_155 (by decide) ?_
                refine zc_ge (tgt := 170) hx hb (by omega) (by omega) dL_tapes_157 (by decide) (fun c_6 => False.elim (by omega)) (fun c_6 => ?_)
                refine lv_iload hx hb dL_tapes_160 (lv_at hl 0 rfl) ?_
                refine lv_iconst (v := nI (3)) hx hb dL_tapes_162 (by decide) ?_
                refine zc_le (tgt := 170) hx hb (by omega) (by omega) dL_tapes_163 (by decide) (fun c_7 => False.elim (by omega)) (fun c_7 => ?_)
                refine lv_iconst (v := bI (true)) hx hb dL_tapes_166 (by decide) ?_
                refine lv_goto (tgt := 171) hx hb dL_tapes_167 (by decide) ?_
                refine lv_istore (lv' := [(12, .int (bI (true))), (11, .int (nI (ln))), (0, .ref (ad 0)), (1, .int (nI (0))), (2, .int (y)), (3, .ref (g 0)), (4, .ref (g 1)), (5, .ref (g 3)), (6, .int (va)), (7, .int (bI (bA))), (8, .int (nI (q4))), (9, .int (bI (bD))), (10, .int (nI (tk)))]) hx hb dL_tapes_171 hl (by decide) rfl (fun ls hl => ?_)
                refine lv_iload hx hb dL_tapes_173 (lv_at hl 0 rfl) ?_
                refine zb_eq (tgt := 187) hx hb dL_tapes_175 (by decide) (fun c_8 => Bool.noConfusion c_8) (fun c_8 => ?_)
                refine lv_aload_n hx hb dL_tapes_178 rfl (lv_at hl 5 rfl) ?_
                refine lv_iconst (v := nI (0)) hx hb dL_tapes_179 (by decide) ?_
                refine va_iald hx hb hZ.1 hP 0 0 rfl rfl (vp_in_nI (show 0 < 4 by omega) (by omega)) dL_tapes_180 ?_
                rw [nI_clamp (show 0 < 2 ^ 31 by omega)]
                refine zx_val (y := nI (n)) (c0) ?_
                refine lv_iconst (v := nI (4)) hx hb dL_tapes_181 (by decide) ?_
                refine zc_ne (tgt := 187) hx hb (by omega) (by omega) dL_tapes_182 (by decide) (fun c_9 => ?_) (fun c_9 => False.elim (by omega))
                refine lv_iload hx hb dL_tapes_187 (lv_at hl 0 rfl) ?_
                refine zb_eq (tgt := 258) hx hb dL_tapes_189 (by decide) (fun c_10 => Bool.noConfusion c_10) (fun c_10 => ?_)
                refine lv_iconst (v := nI (0)) hx hb dL_tapes_192 (by decide) ?_
                refine lv_istore (lv' := [(13, .int (nI (0))), (12, .int (bI (true))), (11, .int (nI (ln))), (0, .ref (ad 0)), (1, .int (nI (0))), (2, .int (y)), (3, .ref (g 0)), (4, .ref (g 1)), (5, .ref (g 3)), (6, .int (va)), (7, .int (bI (bA))), (8, .int (nI (q4))), (9, .int (bI (bD))), (10, .int (nI (tk)))]) hx hb dL_tapes_193 hl (by decide) rfl (fun ls hl => ?_)
                refine z_loop (α := Nat) (fun v => 12 - v) (fun v ls => lv_has ls 14 [(12, .int (bI (true))), (11, .int (nI (ln))), (0, .ref (ad 0)), (1, .int (nI (0))), (2, .int (y)), (3, .ref (g 0)), (4, .ref (g 1)), (5, .ref (g 3)), (6, .int (va)), (7, .int (bI (bA))), (8, .int (nI (q4))), (9, .int (bI (bD))), (10, .int (nI (tk))), (13, .int (nI (v)))] ∧ v < 12 ∧ ∀ j, j < v → fre sl j n = false) (fun _ => []) (0) ⟨lv_sub hl [1, 2, 3, 4, 5, 6, 7, 8, 9, 10, 11, 12, 13, 0] rfl, ⟨by decide, fun j hj => absurd hj (Nat.not_lt_zero j)⟩⟩ ?_
                intro v ih195 ls hv
                obtain ⟨so, rfl⟩ : ∃ z, z = v := ⟨_, rfl⟩
                obtain ⟨hl, hI⟩ := hv
                have hl : lv_has ls 14 [(12, .int (bI (true))), (11, .int (nI (ln))), (0, .ref (ad 0)), (1, .int (nI (0))), (2, .int (y)), (3, .ref (g 0)), (4, .ref (g 1)), (5, .ref (g 3)), (6, .int (va)), (7, .int (bI (bA))), (8, .int (nI (q4))), (9, .int (bI (bD))), (10, .int (nI (tk))), (13, .int (nI (so)))] := hl
                have hI : so < 12 ∧ ∀ j, j < so → fre sl j n = false := hI
                obtain ⟨hso, hall⟩ := hI
                have hI := hIk
                refine lv_aload_n hx hb dL_tapes_195 rfl (lv_at hl 5 rfl) ?_
                refine lv_aload hx hb dL_tapes_196 (lv_at hl 6 rfl) ?_
                refine lv_iload hx hb dL_tapes_198 (lv_at hl 13 rfl) ?_
                refine zk_S_i (n := 3) (As := [.ref (g 0), .ref (g 1), .int (nI (so))]) (rest := []) hx hb hml hts hown hZ hP (c_L_isFree l D cA ((g 0, zInts cA 4 cf) :: (g 1, zInts cA 24 tf) :: (g 2, zInts cA 24 ff) :: (g 3, zInts cA 10 vf) :: (g 4, zInts cA 40 jj) :: (g 5, zInts cA 20 lt) :: (g 6, zInts cA 20 dd) :: cw) 0 (g 0) cf rfl 1 (g 1) tf rfl n sl c0 hn4 (fun i hi => ⟨(qT i hi).2.2.1, (hIT i hi).2.2.2.2.1⟩) so (by omega)) gL_tapes_L_isFree rfl ⟨rfl, rfl⟩ ⟨by decide +kernel, (Nat.le_of_ble_eq_true rfl), (Nat.le_of_ble_eq_true rfl)⟩ hl.1 rfl (Nat.le_of_ble_eq_true rfl) ⟨(Nat.le_of_ble_eq_true rfl), (Nat.le_of_ble_eq_true rfl)⟩ rfl dL_tapes_200 (fun r7 hr7 => ?_)
                obtain rfl := show r7 = bI (fre sl so n) from hr7
                refine zb_ne (tgt := 212) hx hb dL_tapes_203 (by decide) (fun c_11 => ?_) (fun c_11 => ?_)
                · have hso9 : fstF (fun g => fre sl g n) 12 = so := fst_of hso hall (by assumption)
                  obtain ⟨hI2, hp2⟩ := J_tape (a := tk) (b := ln) (g := so) hI hp hk3 (by omega) (by omega) hso
                  refine lv_aload hx hb dL_tapes_212 (lv_at hl 6 rfl) ?_
                  refine lv_aload_n hx hb dL_tapes_214 rfl (lv_at hl 5 rfl) ?_
                  refine lv_iconst (v := nI (0)) hx hb dL_tapes_215 (by decide) ?_
                  refine va_iald hx hb hZ.1 hP 0 0 rfl rfl (vp_in_nI (show 0 < 4 by omega) (by omega)) dL_tapes_216 ?_
                  rw [nI_clamp (show 0 < 2 ^ 31 by omega)]
                  refine zx_val (y := nI (n)) (c0) ?_
                  refine lv_iload hx hb dL_tapes_217 (lv_at hl 12 rfl) ?_
                  refine va_iast hx hb hZ.1 hP hD hS 1 0 rfl rfl (vp_in_nI (show n < 24 by omega) (by omega)) dL_tapes_219 (fun H locs hP hD hS => ?_)
                  rw [nI_clamp (show n < 2 ^ 31 by omega)] at hP hD
                  have hP : va_P D vwCl ((g 0, zInts cA 4 cf) :: (g 1, zInts cA 24 (upd tf n (nI (tk)))) :: (g 2, zInts cA 24 ff) :: (g 3, zInts cA 10 vf) :: (g 4, zInts cA 40 jj) :: (g 5, zInts cA 20 lt) :: (g 6, zInts cA 20 dd) :: cw) H := hP
                  have hD : va_D A ((g 0, zInts cA 4 cf) :: (g 1, zInts cA 24 (upd tf n (nI (tk)))) :: (g 2, zInts cA 24 ff) :: (g 3, zInts cA 10 vf) :: (g 4, zInts cA 40 jj) :: (g 5, zInts cA 20 lt) :: (g 6, zInts cA 20 dd) :: cw) := hD
                  refine lv_aload hx hb dL_tapes_220 (lv_at hl 6 rfl) ?_
                  refine lv_iconst (v := nI (4)) hx hb dL_tapes_222 (by decide) ?_
                  refine lv_aload_n hx hb dL_tapes_223 rfl (lv_at hl 5 rfl) ?_
                  refine lv_iconst (v := nI (0)) hx hb dL_tapes_224 (by decide) ?_
                  refine va_iald hx hb hZ.1 hP 0 0 rfl rfl (vp_in_nI (show 0 < 4 by omega) (by omega)) dL_tapes_225 ?_
                  rw [nI_clamp (show 0 < 2 ^ 31 by omega)]
                  refine zx_val (y := nI (n)) (c0) ?_
                  refine zo_add hx hb dL_tapes_226 ?_
                  refine lv_iload hx hb dL_tapes_227 (lv_at hl 1 rfl) ?_
                  refine va_iast hx hb hZ.1 hP hD hS 1 0 rfl rfl (vp_in_nI (show 4 + n < 24 by omega) (by omega)) dL_tapes_229 (fun H locs hP hD hS => ?_)
                  rw [nI_clamp (show 4 + n < 2 ^ 31 by omega)] at hP hD
                  have hP : va_P D vwCl ((g 0, zInts cA 4 cf) :: (g 1, zInts cA 24 (upd (upd tf n (nI (tk))) (4 + n) (nI (ln)))) :: (g 2, zInts cA 24 ff) :: (g 3, zInts cA 10 vf) :: (g 4, zInts cA 40 jj) :: (g 5, zInts cA 20 lt) :: (g 6, zInts cA 20 dd) :: cw) H := hP
                  have hD : va_D A ((g 0, zInts cA 4 cf) :: (g 1, zInts cA 24 (upd (upd tf n (nI (tk))) (4 + n) (nI (ln)))) :: (g 2, zInts cA 24 ff) :: (g 3, zInts cA 10 vf) :: (g 4, zInts cA 40 jj) :: (g 5, zInts cA 20 lt) :: (g 6, zInts cA 20 dd) :: cw) := hD
                  refine lv_aload hx hb dL_tapes_230 (lv_at hl 6 rfl) ?_
                  refine lv_bipush (v := nI (8)) hx hb dL_tapes_232 (by decide) ?_
                  refine lv_aload_n hx hb dL_tapes_234 rfl (lv_at hl 5 rfl) ?_
                  refine lv_iconst (v := nI (0)) hx hb dL_tapes_235 (by decide) ?_
                  refine va_iald hx hb hZ.1 hP 0 0 rfl rfl (vp_in_nI (show 0 < 4 by omega) (by omega)) dL_tapes_236 ?_
                  rw [nI_clamp (show 0 < 2 ^ 31 by omega)]
                  refine zx_val (y := nI (n)) (c0) ?_
                  refine zo_add hx hb dL_tapes_237 ?_
                  refine lv_iload hx hb dL_tapes_238 (lv_at hl 13 rfl) ?_
                  refine va_iast hx hb hZ.1 hP hD hS 1 0 rfl rfl (vp_in_nI (show 8 + n < 24 by omega) (by omega)) dL_tapes_240 (fun H locs hP hD hS => ?_)
                  rw [nI_clamp (show 8 + n < 2 ^ 31 by omega)] at hP hD
                  have hP : va_P D vwCl ((g 0, zInts cA 4 cf) :: (g 1, zInts cA 24 (upd (upd (upd tf n (nI (tk))) (4 + n) (nI (ln))) (8 + n) (nI (so)))) :: (g 2, zInts cA 24 ff) :: (g 3, zInts cA 10 vf) :: (g 4, zInts cA 40 jj) :: (g 5, zInts cA 20 lt) :: (g 6, zInts cA 20 dd) :: cw) H := hP
                  have hD : va_D A ((g 0, zInts cA 4 cf) :: (g 1, zInts cA 24 (upd (upd (upd tf n (nI (tk))) (4 + n) (nI (ln))) (8 + n) (nI (so)))) :: (g 2, zInts cA 24 ff) :: (g 3, zInts cA 10 vf) :: (g 4, zInts cA 40 jj) :: (g 5, zInts cA 20 lt) :: (g 6, zInts cA 20 dd) :: cw) := hD
                  refine lv_aload hx hb dL_tapes_241 (lv_at hl 6 rfl) ?_
                  refine lv_bipush (v := nI (12)) hx hb dL_tapes_243 (by decide) ?_
                  refine lv_aload_n hx hb dL_tapes_245 rfl (lv_at hl 5 rfl) ?_
                  refine lv_iconst (v := nI (0)) hx hb dL_tapes_246 (by decide) ?_
                  refine va_iald hx hb hZ.1 hP 0 0 rfl rfl (vp_in_nI (show 0 < 4 by omega) (by omega)) dL_tapes_247 ?_
                  rw [nI_clamp (show 0 < 2 ^ 31 by omega)]
                  refine zx_val (y := nI (n)) (c0) ?_
                  refine zo_add hx hb dL_tapes_248 ?_
                  refine lv_iconst (v := (-1)) hx hb dL_tapes_249 (by decide) ?_
                  refine va_iast hx hb hZ.1 hP hD hS 1 0 rfl rfl (vp_in_nI (show 12 + n < 24 by omega) (by omega)) dL_tapes_250 (fun H locs hP hD hS => ?_)
                  rw [nI_clamp (show 12 + n < 2 ^ 31 by omega)] at hP hD
                  have hP : va_P D vwCl ((g 0, zInts cA 4 cf) :: (g 1, zInts cA 24 (upd (upd (upd (upd tf n (nI (tk))) (4 + n) (nI (ln))) (8 + n) (nI (so))) (12 + n) ((-1)))) :: (g 2, zInts cA 24 ff) :: (g 3, zInts cA 10 vf) :: (g 4, zInts cA 40 jj) :: (g 5, zInts cA 20 lt) :: (g 6, zInts cA 20 dd) :: cw) H := hP
                  have hD : va_D A ((g 0, zInts cA 4 cf) :: (g 1, zInts cA 24 (upd (upd (upd (upd tf n (nI (tk))) (4 + n) (nI (ln))) (8 + n) (nI (so))) (12 + n) ((-1)))) :: (g 2, zInts cA 24 ff) :: (g 3, zInts cA 10 vf) :: (g 4, zInts cA 40 jj) :: (g 5, zInts cA 20 lt) :: (g 6, zInts cA 20 dd) :: cw) := hD
                  refine lv_aload_n hx hb dL_tapes_251 rfl (lv_at hl 5 rfl) ?_
                  refine lv_iconst (v := nI (0)) hx hb dL_tapes_252 (by decide) ?_
                  refine lv_dup2_11 hx hb dL_tapes_253 rfl rfl ?_
                  refine va_iald hx hb hZ.1 hP 0 0 rfl rfl (vp_in_nI (show 0 < 4 by omega) (by omega)) dL_tapes_254 ?_
                  rw [nI_clamp (show 0 < 2 ^ 31 by omega)]
                  refine zx_val (y := nI (n)) (c0) ?_
                  refine lv_iconst (v := nI (1)) hx hb dL_tapes_255 (by decide) ?_
                  refine zo_add hx hb dL_tapes_256 ?_
                  refine va_iast hx hb hZ.1 hP hD hS 0 0 rfl rfl (vp_in_nI (show 0 < 4 by omega) (by omega)) dL_tapes_257 (fun H locs hP hD hS => ?_)
                  rw [nI_clamp (show 0 < 2 ^ 31 by omega)] at hP hD
                  have hP : va_P D vwCl ((g 0, zInts cA 4 (upd cf 0 (nI (n + 1)))) :: (g 1, zInts cA 24 (upd (upd (upd (upd tf n (nI (tk))) (4 + n) (nI (ln))) (8 + n) (nI (so))) (12 + n) ((-1)))) :: (g 2, zInts cA 24 ff) :: (g 3, zInts cA 10 vf) :: (g 4, zInts cA 40 jj) :: (g 5, zInts cA 20 lt) :: (g 6, zInts cA 20 dd) :: cw) H := hP
                  have hD : va_D A ((g 0, zInts cA 4 (upd cf 0 (nI (n + 1)))) :: (g 1, zInts cA 24 (upd (upd (upd (upd tf n (nI (tk))) (4 + n) (nI (ln))) (8 + n) (nI (so))) (12 + n) ((-1)))) :: (g 2, zInts cA 24 ff) :: (g 3, zInts cA 10 vf) :: (g 4, zInts cA 40 jj) :: (g 5, zInts cA 20 lt) :: (g 6, zInts cA 20 dd) :: cw) := hD
                  refine lv_aload_n hx hb dL_tapes_258 rfl (lv_at hl 2 rfl) ?_
                  refine lv_iload hx hb dL_tapes_259 (lv_at hl 12 rfl) ?_
                  refine lv_iload hx hb dL_tapes_261 (lv_at hl 1 rfl) ?_
                  refine ze_H_i (n := 3) (mc := 2) (ms := 19) (ws := cw) (es := [(g 0, zInts cA 4 (upd cf 0 (nI (n + 1)))), (g 1, zInts cA 24 (upd (upd (upd (upd tf n (nI (tk))) (4 + n) (nI (ln))) (8 + n) (nI (so))) (12 + n) ((-1)))), (g 2, zInts cA 24 ff), (g 3, zInts cA 10 vf), (g 4, zInts cA 40 jj), (g 5, zInts cA 20 lt), (g 6, zInts cA 20 dd)]) (As := [.ref (ad 0), .int (nI (tk)), .int (nI (ln))]) (rest := []) hx hb hml hts hown hZ hX hN [0, 1, 2, 3, 4, 5, 6] rfl rfl hP hD hS hA (c_L_taped l D cA _ cw (ad 0) _ l0 _ _ _ _ (k2 (rg (nI (tk)) 1 8) (rg (nI (ln)) 4 200) (fun _ _ => decide (n < 8))) (nI (tk)) (nI (ln)) (fun sz9 => c_X4_tape l hlt D cA sz9 cw ad T Bd E PT PB PE n tr le sl mo la fc bo nd mk ck ct hd pq nj fw jf dl dn oc s8 s9 s10 s11 s12 hL hI (nI (tk)) (nI (ln))) (fun _ _ h => zexA_of h (by rw [show (k2 (rg (nI (tk)) 1 8) (rg (nI (ln)) 4 200) (fun _ _ => decide (n < 8))) = 0 from k2_y (rg_in (by omega) (by omega) (by omega)) (rg_in (by omega) (by omega) (by omega)) (decide_eq_true (by omega))]; decide))) gL_tapes_L_taped rfl ⟨rfl, rfl⟩ ⟨by decide +kernel, (Nat.le_of_ble_eq_true rfl), (Nat.le_of_ble_eq_true rfl)⟩ hl.1 rfl (Nat.le_of_ble_eq_true rfl) ⟨(Nat.le_of_ble_eq_true rfl), (Nat.le_of_ble_eq_true rfl)⟩ rfl dL_tapes_263 (fun r9 u9 H locs hp9 hP hD hS hz => ?_)
                  rcases u9 with ⟨a9, b9, w1⟩ | u9
                  · dsimp only [zwP] at hp9
                    obtain ⟨hn8x, ha9, hb9, hv0, hv1, hr9, hkp, T9, Bd9, PT9, PB9, hL1⟩ := hp9
                    have e9 := (nI_eq (by omega) (by omega)).mp hv0
                    have e8 := (nI_eq (by omega) (by omega)).mp hv1
                    subst e9; subst e8; subst hr9
                    rw [hso9] at hL1
                    have hP : va_P D vwCl ((g 0, zInts cA 4 (upd cf 0 (nI (n + 1)))) :: (g 1, zInts cA 24 (upd (upd (upd (upd tf n (nI (tk))) (4 + n) (nI (ln))) (8 + n) (nI (so))) (12 + n) ((-1)))) :: (g 2, zInts cA 24 ff) :: (g 3, zInts cA 10 vf) :: (g 4, zInts cA 40 jj) :: (g 5, zInts cA 20 lt) :: (g 6, zInts cA 20 dd) :: w1) H := hP
                    have hD : va_D A ((g 0, zInts cA 4 (upd cf 0 (nI (n + 1)))) :: (g 1, zInts cA 24 (upd (upd (upd (upd tf n (nI (tk))) (4 + n) (nI (ln))) (8 + n) (nI (so))) (12 + n) ((-1)))) :: (g 2, zInts cA 24 ff) :: (g 3, zInts cA 10 vf) :: (g 4, zInts cA 40 jj) :: (g 5, zInts cA 20 lt) :: (g 6, zInts cA 20 dd) :: w1) := hD
                    refine lv_iload hx hb dL_tapes_266 (lv_at hl 0 rfl) ?_
                    refine zb_eq (tgt := 279) hx hb dL_tapes_268 (by decide) (fun c_12 => Bool.noConfusion c_12) (fun c_12 => ?_)
                    refine lv_aload_n hx hb dL_tapes_271 rfl (lv_at hl 5 rfl) ?_
                    refine lv_iconst (v := nI (0)) hx hb dL_tapes_272 (by decide) ?_
                    refine va_iald hx hb hZ.1 hP 0 0 rfl rfl (vp_in_nI (show 0 < 4 by omega) (by omega)) dL_tapes_273 ?_
                    rw [nI_clamp (show 0 < 2 ^ 31 by omega)]
                    refine zx_val (y := nI (n + 1)) (pk_us) ?_
                    refine lv_iconst (v := nI (1)) hx hb dL_tapes_274 (by decide) ?_
                    refine zo_sub hx hb (by omega) dL_tapes_275 ?_
                    refine lv_goto (tgt := 281) hx hb dL_tapes_276 (by decide) ?_
                    refine zc_ne (tgt := 288) hx hb (by omega) (by omega) dL_tapes_281 (by decide) (fun c_13 => False.elim (by omega)) (fun c_13 => ?_)
                    refine lv_iconst (v := bI (true)) hx hb dL_tapes_284 (by decide) ?_
                    refine lv_goto (tgt := 289) hx hb dL_tapes_285 (by decide) ?_
                    exact W.widen (k := 8) (n := 64) (by omega) (by omega) (zr_qz (S := va_W) (post := (fun (r : Int32) (u : va_W) => r = bI true ∧ LV cA ad g u)) (w1 := fun u => u) ((g 0, zInts cA 4 (upd cf 0 (nI (n + 1)))) :: (g 1, zInts cA 24 (upd (upd (upd (upd tf n (nI (tk))) (4 + n) (nI (ln))) (8 + n) (nI (so))) (12 + n) ((-1)))) :: (g 2, zInts cA 24 ff) :: (g 3, zInts cA 10 vf) :: (g 4, zInts cA 40 jj) :: (g 5, zInts cA 20 lt) :: (g 6, zInts cA 20 dd) :: w1) hx hb hr hlocks ⟨rfl, ⟨_, _, _, _, _, _, _, _, _, _, _, _, _, _, _, _, _, _, _, _, _, _, _, _, _, _, _, _, _, _, _, _, _, _, _, _, _, _, _, _, w1, rfl, hL1, hI2, hp2⟩⟩ hP hD hS rfl dL_tapes_289)
                  · exact absurd (show (k2 (rg (nI (tk)) 1 8) (rg (nI (ln)) 4 200) (fun _ _ => decide (n < 8))) = 0 from k2_y (rg_in (by omega) (by omega) (by omega)) (rg_in (by omega) (by omega) (by omega)) (decide_eq_true (by omega))) hp9.2.1
                · refine lv_iinc (v := nI (so + 1)) (lv' := [(13, .int (nI (so + 1))), (12, .int (bI (true))), (11, .int (nI (ln))), (0, .ref (ad 0)), (1, .int (nI (0))), (2, .int (y)), (3, .ref (g 0)), (4, .ref (g 1)), (5, .ref (g 3)), (6, .int (va)), (7, .int (bI (bA))), (8, .int (nI (q4))), (9, .int (bI (bD))), (10, .int (nI (tk)))]) hx hb dL_tapes_206 hl (k := 13) rfl (zinc 1 _) (by decide) rfl (fun ls hl => ?_)
                  refine lv_goto (tgt := 195) hx hb dL_tapes_209 (by decide) ?_
                  exact ih195 (so + 1) ls (by first | omega | (dsimp only; omega)) ⟨lv_sub hl [1, 2, 3, 4, 5, 6, 7, 8, 9, 10, 11, 12, 13, 0] rfl, ⟨fst_step hn8 hso hall (by assumption), fun j hj => by
                            by_cases e : j = so
                            · rw [e]; assumption
                            · exact hall j (by first | omega | (dsimp only; omega) | (dsimp only at *; omega))⟩⟩
              · refine lv_iload hx hb dL_tapes_153 (lv_at hl 11 rfl) ?_
                refine lv_bipush (v := nI (9)) hx hb dL_tapes_155 (by decide) ?_
                refine zc_ge (tgt := 170) hx hb (by omega) (by omega) dL_tapes_157 (by decide) (fun c_14 => ?_) (fun c_14 => False.elim (by omega))
                refine lv_iconst (v := bI (false)) hx hb dL_tapes_170 (by decide) ?_
                refine lv_istore (lv' := [(12, .int (bI (false))), (11, .int (nI (ln))), (0, .ref (ad 0)), (1, .int (nI (0))), (2, .int (y)), (3, .ref (g 0)), (4, .ref (g 1)), (5, .ref (g 3)), (6, .int (va)), (7, .int (bI (bA))), (8, .int (nI (q4))), (9, .int (bI (bD))), (10, .int (nI (tk)))]) hx hb dL_tapes_171 hl (by decide) rfl (fun ls hl => ?_)
                refine lv_iload hx hb dL_tapes_173 (lv_at hl 0 rfl) ?_
                refine zb_eq (tgt := 187) hx hb dL_tapes_175 (by decide) (fun c_15 => ?_) (fun c_15 => Bool.noConfusion c_15)
                refine lv_iload hx hb dL_tapes_187 (lv_at hl 0 rfl) ?_
                refine zb_eq (tgt := 258) hx hb dL_tapes_189 (by decide) (fun c_16 => ?_) (fun c_16 => Bool.noConfusion c_16)
                refine lv_aload_n hx hb dL_tapes_258 rfl (lv_at hl 2 rfl) ?_
                refine lv_iload hx hb dL_tapes_259 (lv_at hl 12 rfl) ?_
                refine lv_iload hx hb dL_tapes_261 (lv_at hl 1 rfl) ?_
                refine ze_H_i (n := 3) (mc := 2) (ms := 19) (ws := cw) (es := [(g 0, zInts cA 4 cf), (g 1, zInts cA 24 tf), (g 2, zInts cA 24 ff), (g 3, zInts cA 10 vf), (g 4, zInts cA 40 jj), (g 5, zInts cA 20 lt), (g 6, zInts cA 20 dd)]) (As := [.ref (ad 0), .int (nI (tk)), .int (nI (ln))]) (rest := []) hx hb hml hts hown hZ hX hN [0, 1, 2, 3, 4, 5, 6] rfl rfl hP hD hS hA (c_L_taped l D cA _ cw (ad 0) _ l0 _ _ _ _ (k2 (rg (nI (tk)) 1 8) (rg (nI (ln)) 4 200) (fun _ _ => decide (n < 8))) (nI (tk)) (nI (ln)) (fun sz9 => c_X4_tape l hlt D cA sz9 cw ad T Bd E PT PB PE n tr le sl mo la fc bo nd mk ck ct hd pq nj fw jf dl dn oc s8 s9 s10 s11 s12 hL hI (nI (tk)) (nI (ln))) (fun _ _ h => zexA_of h (by rw [show (k2 (rg (nI (tk)) 1 8) (rg (nI (ln)) 4 200) (fun _ _ => decide (n < 8))) = 1 from k2_l (rg_out (by omega) (Or.inr (by omega)))]; decide))) gL_tapes_L_taped rfl ⟨rfl, rfl⟩ ⟨by decide +kernel, (Nat.le_of_ble_eq_true rfl), (Nat.le_of_ble_eq_true rfl)⟩ hl.1 rfl (Nat.le_of_ble_eq_true rfl) ⟨(Nat.le_of_ble_eq_true rfl), (Nat.le_of_ble_eq_true rfl)⟩ rfl dL_tapes_263 (fun r9 u9 H locs hp9 hP hD hS hz => ?_)
                rcases u9 with ⟨a9, b9, w1⟩ | u9
                · dsimp only [zwP] at hp9
                  obtain ⟨hn8x, ha9, hb9, hv0, hv1, hr9, hkp, T9, Bd9, PT9, PB9, hL1⟩ := hp9
                  have e9 := (nI_eq (by omega) (by omega)).mp hv0
                  omega
                · dsimp only [zwP] at hp9
                  obtain ⟨hr9, hK9, E9, hE9⟩ := hp9
                  have hr9 : r9 = (-101) := by rw [hr9, show (k2 (rg (nI (tk)) 1 8) (rg (nI (ln)) 4 200) (fun _ _ => decide (n < 8))) = 1 from k2_l (rg_out (by omega) (Or.inr (by omega)))]; rfl
                  subst hr9
                  have hP : va_P D vwCl ((g 0, zInts cA 4 cf) :: (g 1, zInts cA 24 tf) :: (g 2, zInts cA 24 ff) :: (g 3, zInts cA 10 vf) :: (g 4, zInts cA 40 jj) :: (g 5, zInts cA 20 lt) :: (g 6, zInts cA 20 dd) :: cw) H := hP
                  have hD : va_D A ((g 0, zInts cA 4 cf) :: (g 1, zInts cA 24 tf) :: (g 2, zInts cA 24 ff) :: (g 3, zInts cA 10 vf) :: (g 4, zInts cA 40 jj) :: (g 5, zInts cA 20 lt) :: (g 6, zInts cA 20 dd) :: cw) := hD
                  refine lv_iload hx hb dL_tapes_266 (lv_at hl 0 rfl) ?_
                  refine zb_eq (tgt := 279) hx hb dL_tapes_268 (by decide) (fun c_17 => ?_) (fun c_17 => Bool.noConfusion c_17)
                  refine lv_bipush (v := (-101)) hx hb dL_tapes_279 (by decide) ?_
                  refine lv_icmp_ne (tgt := 288) hx hb dL_tapes_281 (by decide) (fun c_18 => absurd rfl c_18) (fun c_18 => ?_)
                  refine lv_iconst (v := bI (true)) hx hb dL_tapes_284 (by decide) ?_
                  refine lv_goto (tgt := 289) hx hb dL_tapes_285 (by decide) ?_
                  exact W.widen (k := 8) (n := 64) (by omega) (by omega) (zr_qz (S := va_W) (post := (fun (r : Int32) (u : va_W) => r = bI true ∧ LV cA ad g u)) (w1 := fun u => u) ((g 0, zInts cA 4 cf) :: (g 1, zInts cA 24 tf) :: (g 2, zInts cA 24 ff) :: (g 3, zInts cA 10 vf) :: (g 4, zInts cA 40 jj) :: (g 5, zInts cA 20 lt) :: (g 6, zInts cA 20 dd) :: cw) hx hb hr hlocks ⟨rfl, ⟨_, _, _, _, _, _, _, _, _, _, _, _, _, _, _, _, _, _, _, _, _, _, _, _, _, _, _, _, _, _, _, _, _, _, _, _, _, _, _, _, cw, rfl, hL, hI, hp⟩⟩ hP hD hS rfl dL_tapes_289)
              · refine lv_iload hx hb dL_tapes_153 (lv_at hl 11 rfl) ?_
                refine lv_bipush (v := nI (9)) hx hb dL_tapes_155 (by decide) ?_
                refine zc_ge (tgt := 170) hx hb (by omega) (by omega) dL_tapes_157 (by decide) (fun c_19 => False.elim (by omega)) (fun c_19 => ?_)
                refine lv_iload hx hb dL_tapes_160 (lv_at hl 0 rfl) ?_
                refine lv_iconst (v := nI (3)) hx hb dL_tapes_162 (by decide) ?_
                refine zc_le (tgt := 170) hx hb (by omega) (by omega) dL_tapes_163 (by decide) (fun c_20 => ?_) (fun c_20 => False.elim (by omega))
                refine lv_iconst (v := bI (false)) hx hb dL_tapes_170 (by decide) ?_
                refine lv_istore (lv' := [(12, .int (bI (false))), (11, .int (nI (ln))), (0, .ref (ad 0)), (1, .int (nI (0))), (2, .int (y)), (3, .ref (g 0)), (4, .ref (g 1)), (5, .ref (g 3)), (6, .int (va)), (7, .int (bI (bA))), (8, .int (nI (q4))), (9, .int (bI (bD))), (10, .int (nI (tk)))]) hx hb dL_tapes_171 hl (by decide) rfl (fun ls hl => ?_)
                refine lv_iload hx hb dL_tapes_173 (lv_at hl 0 rfl) ?_
                refine zb_eq (tgt := 187) hx hb dL_tapes_175 (by decide) (fun c_21 => ?_) (fun c_21 => Bool.noConfusion c_21)
                refine lv_iload hx hb dL_tapes_187 (lv_at hl 0 rfl) ?_
                refine zb_eq (tgt := 258) hx hb dL_tapes_189 (by decide) (fun c_22 => ?_) (fun c_22 => Bool.noConfusion c_22)
                refine lv_aload_n hx hb dL_tapes_258 rfl (lv_at hl 2 rfl) ?_
                refine lv_iload hx hb dL_tapes_259 (lv_at hl 12 rfl) ?_
                refine lv_iload hx hb dL_tapes_261 (lv_at hl 1 rfl) ?_
                refine ze_H_i (n := 3) (mc := 2) (ms := 19) (ws := cw) (es := [(g 0, zInts cA 4 cf), (g 1, zInts cA 24 tf), (g 2, zInts cA 24 ff), (g 3, zInts cA 10 vf), (g 4, zInts cA 40 jj), (g 5, zInts cA 20 lt), (g 6, zInts cA 20 dd)]) (As := [.ref (ad 0), .int (nI (tk)), .int (nI (ln))]) (rest := []) hx hb hml hts hown hZ hX hN [0, 1, 2, 3, 4, 5, 6] rfl rfl hP hD hS hA (c_L_taped l D cA _ cw (ad 0) _ l0 _ _ _ _ (k2 (rg (nI (tk)) 1 8) (rg (nI (ln)) 4 200) (fun _ _ => decide (n < 8))) (nI (tk)) (nI (ln)) (fun sz9 => c_X4_tape l hlt D cA sz9 cw ad T Bd E PT PB PE n tr le sl mo la fc bo nd mk ck ct hd pq nj fw jf dl dn oc s8 s9 s10 s11 s12 hL hI (nI (tk)) (nI (ln))) (fun _ _ h => zexA_of h (by rw [show (k2 (rg (nI (tk)) 1 8) (rg (nI (ln)) 4 200) (fun _ _ => decide (n < 8))) = 1 from k2_r (rg_out (by omega) (Or.inl (by omega)))]; decide))) gL_tapes_L_taped rfl ⟨rfl, rfl⟩ ⟨by decide +kernel, (Nat.le_of_ble_eq_true rfl), (Nat.le_of_ble_eq_true rfl)⟩ hl.1 rfl (Nat.le_of_ble_eq_true rfl) ⟨(Nat.le_of_ble_eq_true rfl), (Nat.le_of_ble_eq_true rfl)⟩ rfl dL_tapes_263 (fun r9 u9 H locs hp9 hP hD hS hz => ?_)
                rcases u9 with ⟨a9, b9, w1⟩ | u9
                · dsimp only [zwP] at hp9
                  obtain ⟨hn8x, ha9, hb9, hv0, hv1, hr9, hkp, T9, Bd9, PT9, PB9, hL1⟩ := hp9
                  have e8 := (nI_eq (by omega) (by omega)).mp hv1
                  omega
                · dsimp only [zwP] at hp9
                  obtain ⟨hr9, hK9, E9, hE9⟩ := hp9
                  have hr9 : r9 = (-101) := by rw [hr9, show (k2 (rg (nI (tk)) 1 8) (rg (nI (ln)) 4 200) (fun _ _ => decide (n < 8))) = 1 from k2_r (rg_out (by omega) (Or.inl (by omega)))]; rfl
                  subst hr9
                  have hP : va_P D vwCl ((g 0, zInts cA 4 cf) :: (g 1, zInts cA 24 tf) :: (g 2, zInts cA 24 ff) :: (g 3, zInts cA 10 vf) :: (g 4, zInts cA 40 jj) :: (g 5, zInts cA 20 lt) :: (g 6, zInts cA 20 dd) :: cw) H := hP
                  have hD : va_D A ((g 0, zInts cA 4 cf) :: (g 1, zInts cA 24 tf) :: (g 2, zInts cA 24 ff) :: (g 3, zInts cA 10 vf) :: (g 4, zInts cA 40 jj) :: (g 5, zInts cA 20 lt) :: (g 6, zInts cA 20 dd) :: cw) := hD
                  refine lv_iload hx hb dL_tapes_266 (lv_at hl 0 rfl) ?_
                  refine zb_eq (tgt := 279) hx hb dL_tapes_268 (by decide) (fun c_23 => ?_) (fun c_23 => Bool.noConfusion c_23)
                  refine lv_bipush (v := (-101)) hx hb dL_tapes_279 (by decide) ?_
                  refine lv_icmp_ne (tgt := 288) hx hb dL_tapes_281 (by decide) (fun c_24 => absurd rfl c_24) (fun c_24 => ?_)
                  refine lv_iconst (v := bI (true)) hx hb dL_tapes_284 (by decide) ?_
                  refine lv_goto (tgt := 289) hx hb dL_tapes_285 (by decide) ?_
                  exact W.widen (k := 8) (n := 64) (by omega) (by omega) (zr_qz (S := va_W) (post := (fun (r : Int32) (u : va_W) => r = bI true ∧ LV cA ad g u)) (w1 := fun u => u) ((g 0, zInts cA 4 cf) :: (g 1, zInts cA 24 tf) :: (g 2, zInts cA 24 ff) :: (g 3, zInts cA 10 vf) :: (g 4, zInts cA 40 jj) :: (g 5, zInts cA 20 lt) :: (g 6, zInts cA 20 dd) :: cw) hx hb hr hlocks ⟨rfl, ⟨_, _, _, _, _, _, _, _, _, _, _, _, _, _, _, _, _, _, _, _, _, _, _, _, _, _, _, _, _, _, _, _, _, _, _, _, _, _, _, _, cw, rfl, hL, hI, hp⟩⟩ hP hD hS rfl dL_tapes_289)
            · skip
              refine zf_ne (tgt := 141) hx hb (by omega) dL_tapes_134 (by decide) (fun c_25 => ?_) (fun c_25 => ?_)
              · refine lv_iconst (v := nI (4)) hx hb dL_tapes_141 (by decide) ?_
                refine lv_iload_n hx hb dL_tapes_142 rfl (lv_at hl 3 rfl) ?_
                refine lv_iconst (v := nI (4)) hx hb dL_tapes_143 (by decide) ?_
                refine lv_ishr hx hb dL_tapes_144 ?_
                refine lv_bipush (v := nI (9)) hx hb dL_tapes_145 (by decide) ?_
                refine zk_S_i (n := 2) (As := [.int ((y) >>> ((nI (4)) &&& 31)), .int (nI (9))]) (rest := [.int (nI (4))]) hx hb hml hts hown hZ hP (c_L_some l D cA _ ((y) >>> ((nI (4)) &&& 31)) 9 (by omega) (by omega)) gL_tapes_L_some rfl ⟨rfl, rfl⟩ ⟨by decide +kernel, (Nat.le_of_ble_eq_true rfl), (Nat.le_of_ble_eq_true rfl)⟩ hl.1 rfl (Nat.le_of_ble_eq_true rfl) ⟨(Nat.le_of_ble_eq_true rfl), (Nat.le_of_ble_eq_true rfl)⟩ rfl dL_tapes_147 (fun r8 hr8 => ?_)
                obtain ⟨q8, hq8, hb8⟩ : ∃ z, r8 = nI z ∧ z < 9 := ⟨_, hr8, sm_lt (by omega)⟩
                subst hq8
                refine zo_add hx hb dL_tapes_150 ?_
                exact J151 (4 + q8) ls ⟨lv_sub hl [1, 2, 3, 4, 5, 6, 7, 8, 9, 10, 0] rfl, by omega⟩
              · refine lv_iconst (v := nI (3)) hx hb dL_tapes_137 (by decide) ?_
                refine lv_goto (tgt := 151) hx hb dL_tapes_138 (by decide) ?_
                exact J151 (3) ls ⟨lv_sub hl [1, 2, 3, 4, 5, 6, 7, 8, 9, 10, 0] rfl, by omega⟩
          · skip
            refine zf_ne (tgt := 117) hx hb (by omega) dL_tapes_109 (by decide) (fun c_26 => ?_) (fun c_26 => ?_)
            · refine lv_iconst (v := nI (1)) hx hb dL_tapes_117 (by decide) ?_
              refine lv_iload_n hx hb dL_tapes_118 rfl (lv_at hl 3 rfl) ?_
              refine lv_iconst (v := nI (4)) hx hb dL_tapes_119 (by decide) ?_
              refine zk_S_i (n := 2) (As := [.int (y), .int (nI (4))]) (rest := [.int (nI (1))]) hx hb hml hts hown hZ hP (c_L_some l D cA _ y 4 (by omega) (by omega)) gL_tapes_L_some rfl ⟨rfl, rfl⟩ ⟨by decide +kernel, (Nat.le_of_ble_eq_true rfl), (Nat.le_of_ble_eq_true rfl)⟩ hl.1 rfl (Nat.le_of_ble_eq_true rfl) ⟨(Nat.le_of_ble_eq_true rfl), (Nat.le_of_ble_eq_true rfl)⟩ rfl dL_tapes_120 (fun r9 hr9 => ?_)
              obtain ⟨q9, hq9, hb9⟩ : ∃ z, r9 = nI z ∧ z < 4 := ⟨_, hr9, sm_lt (by omega)⟩
              subst hq9
              refine zo_add hx hb dL_tapes_123 ?_
              exact J124 (1 + q9) ls ⟨lv_sub hl [1, 2, 3, 4, 5, 6, 7, 8, 9, 0] rfl, by omega⟩
            · refine lv_bipush (v := nI (9)) hx hb dL_tapes_112 (by decide) ?_
              refine lv_goto (tgt := 124) hx hb dL_tapes_114 (by decide) ?_
              exact J124 (9) ls ⟨lv_sub hl [1, 2, 3, 4, 5, 6, 7, 8, 9, 0] rfl, by omega⟩
        · skip
          refine lv_iload hx hb dL_tapes_84 (lv_at hl 0 rfl) ?_
          refine lv_aload_n hx hb dL_tapes_86 rfl (lv_at hl 4 rfl) ?_
          refine lv_iconst (v := nI (1)) hx hb dL_tapes_87 (by decide) ?_
          refine va_iald hx hb hZ.1 hP 0 0 rfl rfl (vp_in_nI (show 1 < 4 by omega) (by omega)) dL_tapes_88 ?_
          rw [nI_clamp (show 1 < 2 ^ 31 by omega)]
          refine zx_val (y := nI (nd)) (c1) ?_
          refine zc_ge (tgt := 96) hx hb (by omega) (by omega) dL_tapes_89 (by decide) (fun c_27 => ?_) (fun c_27 => ?_)
          · refine lv_iconst (v := bI (false)) hx hb dL_tapes_96 (by decide) ?_
            exact J97 (false) ls ⟨lv_sub hl [1, 2, 3, 4, 5, 6, 7, 8, 0] rfl, (decide_eq_false (by omega)).symm⟩
          · refine lv_iconst (v := bI (true)) hx hb dL_tapes_92 (by decide) ?_
            refine lv_goto (tgt := 97) hx hb dL_tapes_93 (by decide) ?_
            exact J97 (true) ls ⟨lv_sub hl [1, 2, 3, 4, 5, 6, 7, 8, 0] rfl, (decide_eq_true (by omega)).symm⟩
      · skip
        refine zf_eq (tgt := 73) hx hb (by omega) dL_tapes_64 (by decide) (fun c_28 => ?_) (fun c_28 => ?_)
        · refine lv_iconst (v := nI (1)) hx hb dL_tapes_73 (by decide) ?_
          refine lv_goto (tgt := 78) hx hb dL_tapes_74 (by decide) ?_
          exact J78 (1) ls ⟨lv_sub hl [1, 2, 3, 4, 5, 6, 7, 0] rfl, by omega⟩
        · refine lv_aload_n hx hb dL_tapes_67 rfl (lv_at hl 4 rfl) ?_
          refine lv_iconst (v := nI (1)) hx hb dL_tapes_68 (by decide) ?_
          refine va_iald hx hb hZ.1 hP 0 0 rfl rfl (vp_in_nI (show 1 < 4 by omega) (by omega)) dL_tapes_69 ?_
          rw [nI_clamp (show 1 < 2 ^ 31 by omega)]
          refine zx_val (y := nI (nd)) (c1) ?_
          refine zf_ne (tgt := 77) hx hb (by omega) dL_tapes_70 (by decide) (fun c_29 => ?_) (fun c_29 => ?_)
          · refine lv_iconst (v := nI (0)) hx hb dL_tapes_77 (by decide) ?_
            exact J78 (0) ls ⟨lv_sub hl [1, 2, 3, 4, 5, 6, 7, 0] rfl, by omega⟩
          · refine lv_iconst (v := nI (1)) hx hb dL_tapes_73 (by decide) ?_
            refine lv_goto (tgt := 78) hx hb dL_tapes_74 (by decide) ?_
            exact J78 (1) ls ⟨lv_sub hl [1, 2, 3, 4, 5, 6, 7, 0] rfl, by omega⟩
    · skip
      rcases hAq with ⟨a, han, hva1⟩ | ⟨hAn, hva1 | hva1⟩
      · rw [hva1] at hl
        refine lv_iload hx hb dL_tapes_29 (lv_at hl 0 rfl) ?_
        refine zf_lt (tgt := 46) hx hb (by omega) dL_tapes_31 (by decide) ?_
        refine lv_iload hx hb dL_tapes_34 (lv_at hl 0 rfl) ?_
        refine lv_aload_n hx hb dL_tapes_36 rfl (lv_at hl 4 rfl) ?_
        refine lv_iconst (v := nI (0)) hx hb dL_tapes_37 (by decide) ?_
        refine va_iald hx hb hZ.1 hP 0 0 rfl rfl (vp_in_nI (show 0 < 4 by omega) (by omega)) dL_tapes_38 ?_
        rw [nI_clamp (show 0 < 2 ^ 31 by omega)]
        refine zx_val (y := nI (n)) (c0) ?_
        refine zc_ge (tgt := 46) hx hb (by omega) (by omega) dL_tapes_39 (by decide) (fun c_31 => False.elim (by omega)) (fun c_31 => ?_)
        refine lv_iconst (v := bI (true)) hx hb dL_tapes_42 (by decide) ?_
        refine lv_goto (tgt := 47) hx hb dL_tapes_43 (by decide) ?_
        rw [← hva1] at hl
        exact J47 true ls ⟨lv_sub hl [1, 2, 3, 4, 5, 6, 0] rfl, Or.inl ⟨rfl, a, han, hva1⟩⟩
      · rw [hva1] at hl
        refine lv_iload hx hb dL_tapes_29 (lv_at hl 0 rfl) ?_
        refine lv_if_lt (tgt := 46) hx hb dL_tapes_31 (by decide) (fun c_32 => ?_) (fun c_32 => absurd (by decide) c_32)
        refine lv_iconst (v := bI (false)) hx hb dL_tapes_46 (by decide) ?_
        rw [← hva1] at hl
        exact J47 false ls ⟨lv_sub hl [1, 2, 3, 4, 5, 6, 0] rfl, Or.inr ⟨rfl, hAn⟩⟩
      · rw [hva1] at hl
        refine lv_iload hx hb dL_tapes_29 (lv_at hl 0 rfl) ?_
        refine zf_lt (tgt := 46) hx hb (by omega) dL_tapes_31 (by decide) ?_
        refine lv_iload hx hb dL_tapes_34 (lv_at hl 0 rfl) ?_
        refine lv_aload_n hx hb dL_tapes_36 rfl (lv_at hl 4 rfl) ?_
        refine lv_iconst (v := nI (0)) hx hb dL_tapes_37 (by decide) ?_
        refine va_iald hx hb hZ.1 hP 0 0 rfl rfl (vp_in_nI (show 0 < 4 by omega) (by omega)) dL_tapes_38 ?_
        rw [nI_clamp (show 0 < 2 ^ 31 by omega)]
        refine zx_val (y := nI (n)) (c0) ?_
        refine zc_ge (tgt := 46) hx hb (by omega) (by omega) dL_tapes_39 (by decide) (fun c_34 => ?_) (fun c_34 => False.elim (by omega))
        refine lv_iconst (v := bI (false)) hx hb dL_tapes_46 (by decide) ?_
        rw [← hva1] at hl
        exact J47 false ls ⟨lv_sub hl [1, 2, 3, 4, 5, 6, 0] rfl, Or.inr ⟨rfl, hAn⟩⟩
  · skip
    refine zf_ne (tgt := 25) hx hb (by omega) dL_tapes_18 (by decide) (fun c_35 => ?_) (fun c_35 => ?_)
    · refine lv_iconst (v := nI (0)) hx hb dL_tapes_25 (by decide) ?_
      exact J26 (0) ls ⟨lv_sub hl [0, 1, 2, 3, 4, 5] rfl, by omega⟩
    · refine lv_iconst (v := nI (1)) hx hb dL_tapes_21 (by decide) ?_
      refine lv_goto (tgt := 26) hx hb dL_tapes_22 (by decide) ?_
      exact J26 (1) ls ⟨lv_sub hl [0, 1, 2, 3, 4, 5] rfl, by omega⟩

set_option maxHeartbeats 4000000 in
set_option maxRecDepth 100000 in
theorem c_L_tapes_1 (l : Launch) (hlt : l.stackTraces = false) (D : va_G) (cA : Nat → ClassId) (sz : Nat) (ad : Nat → Nat) (T : Nat → Nat) (Bd : Nat → Nat) (E : Nat → Nat) (PT : Nat → Nat) (PB : Nat → Nat) (PE : Nat → Nat) (n : Nat) (tr : Nat → Nat) (le : Nat → Nat) (sl : Nat → Nat) (mo : Nat → Option Nat) (la : Nat → Bool) (fc : Nat → Nat) (bo : Nat → Nat → Nat) (nd : Nat) (mk : Nat → Nat) (ck : Nat → Int32) (ct : Nat → Nat) (hd : Nat → Option Nat) (pq : Nat → Int32) (nj : Nat) (fw : Nat → Int32) (jf : Nat → Nat) (dl : Nat → Nat) (dn : Nat) (oc : Nat) (s8 : Nat → Int32) (s9 : Nat → Int32) (s10 : Nat → Int32) (s11 : Nat → Int32) (s12 : Nat → Int32) (cf : Nat → Int32) (tf : Nat → Int32) (ff : Nat → Int32) (vf : Nat → Int32) (jj : Nat → Int32) (lt : Nat → Int32) (dd : Nat → Int32) (jt : Nat → Nat) (fin : Nat → Bool) (g : Nat → Nat) (cw : va_W) (hL : zL cA cw ad T Bd E PT PB PE n tr le sl mo la fc bo nd mk ck ct hd pq nj fw jf dl dn oc s8 s9 s10 s11 s12) (hI : zI n tr le sl mo fc bo nd mk ct hd pq nj fw jf dl) (hp : pL n tr le sl mo la fc bo nd mk ck ct hd pq nj fw jf dl dn cf tf ff vf jj lt dd jt fin) (y : Int32) : Met l yL_tapes wsL_tapes ({ frames := 10, cells := 8, slots := 64, locals := 194 }) (va_Pc [.ref (ad 0), .int (nI (1)), .int (y), .ref (g 0), .ref (g 1), .ref (g 3)] (zMW D cA ((g 0, zInts cA 4 cf) :: (g 1, zInts cA 24 tf) :: (g 2, zInts cA 24 ff) :: (g 3, zInts cA 10 vf) :: (g 4, zInts cA 40 jj) :: (g 5, zInts cA 20 lt) :: (g 6, zInts cA 20 dd) :: cw) sz)) (va_Qi (fun (r : Int32) (u : va_W) => r = bI true ∧ LV cA ad g u) (fun u => zB D (va_A ((g 0, zInts cA 4 cf) :: (g 1, zInts cA 24 tf) :: (g 2, zInts cA 24 ff) :: (g 3, zInts cA 10 vf) :: (g 4, zInts cA 40 jj) :: (g 5, zInts cA 20 lt) :: (g 6, zInts cA 20 dd) :: cw) sz) u) (va_A ((g 0, zInts cA 4 cf) :: (g 1, zInts cA 24 tf) :: (g 2, zInts cA 24 ff) :: (g 3, zInts cA 10 vf) :: (g 4, zInts cA 40 jj) :: (g 5, zInts cA 20 lt) :: (g 6, zInts cA 20 dd) :: cw) sz)) 8 64 (va_A ((g 0, zInts cA 4 cf) :: (g 1, zInts cA 24 tf) :: (g 2, zInts cA 24 ff) :: (g 3, zInts cA 10 vf) :: (g 4, zInts cA 40 jj) :: (g 5, zInts cA 20 lt) :: (g 6, zInts cA 20 dd) :: cw) sz) := by
  refine zOpen (cc := cL_tapes) (maxL := 14) (ret := (some .boolean)) (own := RL) (by decide) rfl rfl (Nat.le_of_ble_eq_true rfl) ?_
  intro p e s m below meth c ls hx hb hr hml hts hown hlocks hnm ⟨⟨⟨hZ, hP, hD0, hsz⟩, hX⟩, hN⟩ hl
  subst hsz
  have hD := hD0.self (sz := s.heap.size)
  generalize hAe : va_A ((g 0, zInts cA 4 cf) :: (g 1, zInts cA 24 tf) :: (g 2, zInts cA 24 ff) :: (g 3, zInts cA 10 vf) :: (g 4, zInts cA 40 jj) :: (g 5, zInts cA 20 lt) :: (g 6, zInts cA 20 dd) :: cw) s.heap.size = A at hD hX ⊢
  have hA : ∀ q : Nat, s.heap.size ≤ q → A q := fun q h => by rw [← hAe]; exact Or.inr h
  have hS : va_S A s.heap s.heap [] := va_S.rf
  have hl : lv_has ls 14 [(0, .ref (ad 0)), (1, .int (nI (1))), (2, .int (y)), (3, .ref (g 0)), (4, .ref (g 1)), (5, .ref (g 3))] := hl
  have hL0 := hL
  have l0 := hL.1.1
  obtain ⟨hn8, hd3, hj60, hIT, hID, hIJ, hIdl, hIw⟩ := id hI
  obtain ⟨⟨hn4, hd2, hj20⟩, ⟨c0, c1, c2, c3⟩, qT, qT0, qF, qV, qV0, qJ, qJ0, qW⟩ := id hp
  refine lv_iload_n hx hb dL_tapes_0 rfl (lv_at hl 2 rfl) ?_
  refine lv_aload_n hx hb dL_tapes_1 rfl (lv_at hl 3 rfl) ?_
  refine lv_iconst (v := nI (0)) hx hb dL_tapes_2 (by decide) ?_
  refine va_iald hx hb hZ.1 hP 0 0 rfl rfl (vp_in_nI (show 0 < 4 by omega) (by omega)) dL_tapes_3 ?_
  rw [nI_clamp (show 0 < 2 ^ 31 by omega)]
  refine zx_val (y := nI (n)) (c0) ?_
  refine lv_iconst (v := nI (1)) hx hb dL_tapes_4 (by decide) ?_
  refine zo_add hx hb dL_tapes_5 ?_
  refine zk_S_i (n := 2) (As := [.int (y), .int (nI (n + 1))]) (rest := []) hx hb hml hts hown hZ hP (c_L_some l D cA _ y (n + 1) (by omega) (by omega)) gL_tapes_L_some rfl ⟨rfl, rfl⟩ ⟨by decide +kernel, (Nat.le_of_ble_eq_true rfl), (Nat.le_of_ble_eq_true rfl)⟩ hl.1 rfl (Nat.le_of_ble_eq_true rfl) ⟨(Nat.le_of_ble_eq_true rfl), (Nat.le_of_ble_eq_true rfl)⟩ rfl dL_tapes_6 (fun r1 hr1 => ?_)
  obtain ⟨q1, hq1, hb1⟩ : ∃ z, r1 = nI z ∧ z < (n + 1) := ⟨_, hr1, sm_lt (by omega)⟩
  subst hq1
  refine lv_iload_n hx hb dL_tapes_9 rfl (lv_at hl 2 rfl) ?_
  refine lv_bipush (v := nI (9)) hx hb dL_tapes_10 (by decide) ?_
  refine lv_ishr hx hb dL_tapes_12 ?_
  refine lv_bipush (v := nI (19)) hx hb dL_tapes_13 (by decide) ?_
  refine zk_S_i (n := 2) (As := [.int ((y) >>> ((nI (9)) &&& 31)), .int (nI (19))]) (rest := [.int (nI (q1))]) hx hb hml hts hown hZ hP (c_L_some l D cA _ ((y) >>> ((nI (9)) &&& 31)) 19 (by omega) (by omega)) gL_tapes_L_some rfl ⟨rfl, rfl⟩ ⟨by decide +kernel, (Nat.le_of_ble_eq_true rfl), (Nat.le_of_ble_eq_true rfl)⟩ hl.1 rfl (Nat.le_of_ble_eq_true rfl) ⟨(Nat.le_of_ble_eq_true rfl), (Nat.le_of_ble_eq_true rfl)⟩ rfl dL_tapes_15 (fun r2 hr2 => ?_)
  obtain ⟨q2, hq2, hb2⟩ : ∃ z, r2 = nI z ∧ z < 19 := ⟨_, hr2, sm_lt (by omega)⟩
  subst hq2
  refine z_join (α := Nat) (pc' := 26) (fun v ls => lv_has ls 14 [(0, .ref (ad 0)), (1, .int (nI (1))), (2, .int (y)), (3, .ref (g 0)), (4, .ref (g 1)), (5, .ref (g 3))] ∧ v ≤ 1) (fun v => [.int (nI (v)), .int (nI (q1))]) ?_ (fun J26 => ?_)
  · intro x1 ls hv
    obtain ⟨hl, hI26⟩ := hv
    have hl : lv_has ls 14 [(0, .ref (ad 0)), (1, .int (nI (1))), (2, .int (y)), (3, .ref (g 0)), (4, .ref (g 1)), (5, .ref (g 3))] := hl
    have hI26 : x1 ≤ 1 := hI26
    obtain ⟨va, hva, hAq⟩ := tapes_va hn4 hb1 hI26
    refine lv_isub hx hb dL_tapes_26 ?_
    refine zx_val (y := va) hva ?_
    refine lv_istore (lv' := [(6, .int (va)), (0, .ref (ad 0)), (1, .int (nI (1))), (2, .int (y)), (3, .ref (g 0)), (4, .ref (g 1)), (5, .ref (g 3))]) hx hb dL_tapes_27 hl (by decide) rfl (fun ls hl => ?_)
    refine z_join (α := Bool) (pc' := 47) (fun bA ls => lv_has ls 14 [(0, .ref (ad 0)), (1, .int (nI (1))), (2, .int (y)), (3, .ref (g 0)), (4, .ref (g 1)), (5, .ref (g 3)), (6, .int (va))] ∧ ((bA = true ∧ ∃ a, a < n ∧ va = nI a) ∨ (bA = false ∧ ∀ j, j < n → va ≠ nI j))) (fun bA => [.int (bI bA)]) ?_ (fun J47 => ?_)
    · intro bA ls hv
      obtain ⟨hl, hAA⟩ := hv
      have hl : lv_has ls 14 [(0, .ref (ad 0)), (1, .int (nI (1))), (2, .int (y)), (3, .ref (g 0)), (4, .ref (g 1)), (5, .ref (g 3)), (6, .int (va))] := hl
      refine lv_istore (lv' := [(7, .int (bI (bA))), (0, .ref (ad 0)), (1, .int (nI (1))), (2, .int (y)), (3, .ref (g 0)), (4, .ref (g 1)), (5, .ref (g 3)), (6, .int (va))]) hx hb dL_tapes_47 hl (by decide) rfl (fun ls hl => ?_)
      refine lv_iload_n hx hb dL_tapes_49 rfl (lv_at hl 3 rfl) ?_
      refine lv_iconst (v := nI (3)) hx hb dL_tapes_50 (by decide) ?_
      refine lv_ishr hx hb dL_tapes_51 ?_
      refine lv_aload_n hx hb dL_tapes_52 rfl (lv_at hl 4 rfl) ?_
      refine lv_iconst (v := nI (1)) hx hb dL_tapes_53 (by decide) ?_
      refine va_iald hx hb hZ.1 hP 0 0 rfl rfl (vp_in_nI (show 1 < 4 by omega) (by omega)) dL_tapes_54 ?_
      rw [nI_clamp (show 1 < 2 ^ 31 by omega)]
      refine zx_val (y := nI (nd)) (c1) ?_
      refine lv_iload_n hx hb dL_tapes_55 rfl (lv_at hl 3 rfl) ?_
      refine lv_bipush (v := nI (7)) hx hb dL_tapes_56 (by decide) ?_
      refine lv_ishr hx hb dL_tapes_58 ?_
      refine lv_bipush (v := nI (9)) hx hb dL_tapes_59 (by decide) ?_
      refine zk_S_i (n := 2) (As := [.int ((y) >>> ((nI (7)) &&& 31)), .int (nI (9))]) (rest := [.int (nI (nd)), .int ((y) >>> ((nI (3)) &&& 31))]) hx hb hml hts hown hZ hP (c_L_some l D cA _ ((y) >>> ((nI (7)) &&& 31)) 9 (by omega) (by omega)) gL_tapes_L_some rfl ⟨rfl, rfl⟩ ⟨by decide +kernel, (Nat.le_of_ble_eq_true rfl), (Nat.le_of_ble_eq_true rfl)⟩ hl.1 rfl (Nat.le_of_ble_eq_true rfl) ⟨(Nat.le_of_ble_eq_true rfl), (Nat.le_of_ble_eq_true rfl)⟩ rfl dL_tapes_61 (fun r3 hr3 => ?_)
      obtain ⟨q3, hq3, hb3⟩ : ∃ z, r3 = nI z ∧ z < 9 := ⟨_, hr3, sm_lt (by omega)⟩
      subst hq3
      refine z_join (α := Nat) (pc' := 78) (fun v ls => lv_has ls 14 [(0, .ref (ad 0)), (1, .int (nI (1))), (2, .int (y)), (3, .ref (g 0)), (4, .ref (g 1)), (5, .ref (g 3)), (6, .int (va)), (7, .int (bI (bA)))] ∧ v ≤ 1 ∧ (nd = 0 → v = 1)) (fun v => [.int (nI (v)), .int (nI (nd)), .int ((y) >>> ((nI (3)) &&& 31))]) ?_ (fun J78 => ?_)
      · intro x2 ls hv
        obtain ⟨hl, hI78⟩ := hv
        have hl : lv_has ls 14 [(0, .ref (ad 0)), (1, .int (nI (1))), (2, .int (y)), (3, .ref (g 0)), (4, .ref (g 1)), (5, .ref (g 3)), (6, .int (va)), (7, .int (bI (bA)))] := hl
        have hI78 : x2 ≤ 1 ∧ (nd = 0 → x2 = 1) := hI78
        refine zo_add hx hb dL_tapes_78 ?_
        obtain ⟨hx2, hx20⟩ := hI78
        refine zk_S_i (n := 2) (As := [.int ((y) >>> ((nI (3)) &&& 31)), .int (nI (nd + x2))]) (rest := []) hx hb hml hts hown hZ hP (c_L_some l D cA _ ((y) >>> ((nI (3)) &&& 31)) (nd + x2) (by omega) (by omega)) gL_tapes_L_some rfl ⟨rfl, rfl⟩ ⟨by decide +kernel, (Nat.le_of_ble_eq_true rfl), (Nat.le_of_ble_eq_true rfl)⟩ hl.1 rfl (Nat.le_of_ble_eq_true rfl) ⟨(Nat.le_of_ble_eq_true rfl), (Nat.le_of_ble_eq_true rfl)⟩ rfl dL_tapes_79 (fun r4 hr4 => ?_)
        obtain ⟨q4, hq4, hb4⟩ : ∃ z, r4 = nI z ∧ z < (nd + x2) := ⟨_, hr4, sm_lt (by omega)⟩
        subst hq4
        refine lv_istore (lv' := [(8, .int (nI (q4))), (0, .ref (ad 0)), (1, .int (nI (1))), (2, .int (y)), (3, .ref (g 0)), (4, .ref (g 1)), (5, .ref (g 3)), (6, .int (va)), (7, .int (bI (bA)))]) hx hb dL_tapes_82 hl (by decide) rfl (fun ls hl => ?_)
        refine z_join (α := Bool) (pc' := 97) (fun v ls => lv_has ls 14 [(0, .ref (ad 0)), (1, .int (nI (1))), (2, .int (y)), (3, .ref (g 0)), (4, .ref (g 1)), (5, .ref (g 3)), (6, .int (va)), (7, .int (bI (bA))), (8, .int (nI (q4)))] ∧ v = decide (q4 < nd)) (fun v => [.int (bI (v))]) ?_ (fun J97 => ?_)
        · intro bD ls hv
          obtain ⟨hl, hI97⟩ := hv
          have hl : lv_has ls 14 [(0, .ref (ad 0)), (1, .int (nI (1))), (2, .int (y)), (3, .ref (g 0)), (4, .ref (g 1)), (5, .ref (g 3)), (6, .int (va)), (7, .int (bI (bA))), (8, .int (nI (q4)))] := hl
          have hI97 : bD = decide (q4 < nd) := hI97
          have hDd : q4 ≤ nd := by omega
          refine lv_istore (lv' := [(9, .int (bI (bD))), (0, .ref (ad 0)), (1, .int (nI (1))), (2, .int (y)), (3, .ref (g 0)), (4, .ref (g 1)), (5, .ref (g 3)), (6, .int (va)), (7, .int (bI (bA))), (8, .int (nI (q4)))]) hx hb dL_tapes_97 hl (by decide) rfl (fun ls hl => ?_)
          refine lv_iload_n hx hb dL_tapes_99 rfl (lv_at hl 2 rfl) ?_
          refine zf_ne (tgt := 290) hx hb (by omega) dL_tapes_100 (by decide) (fun c_1 => ?_) (fun c_1 => False.elim (by omega))
          refine lv_iload_n hx hb dL_tapes_290 rfl (lv_at hl 2 rfl) ?_
          refine lv_iconst (v := nI (1)) hx hb dL_tapes_291 (by decide) ?_
          refine lv_icmp_ne (tgt := 392) hx hb dL_tapes_292 (by decide) (fun c_2 => absurd rfl c_2) (fun c_2 => ?_)
          refine lv_iload_n hx hb dL_tapes_295 rfl (lv_at hl 3 rfl) ?_
          refine lv_bipush (v := nI (20)) hx hb dL_tapes_296 (by decide) ?_
          refine zk_S_i (n := 2) (As := [.int (y), .int (nI (20))]) (rest := []) hx hb hml hts hown hZ hP (c_L_some l D cA _ y 20 (by omega) (by omega)) gL_tapes_L_some rfl ⟨rfl, rfl⟩ ⟨by decide +kernel, (Nat.le_of_ble_eq_true rfl), (Nat.le_of_ble_eq_true rfl)⟩ hl.1 rfl (Nat.le_of_ble_eq_true rfl) ⟨(Nat.le_of_ble_eq_true rfl), (Nat.le_of_ble_eq_true rfl)⟩ rfl dL_tapes_298 (fun r5 hr5 => ?_)
          obtain ⟨q5, hq5, hb5⟩ : ∃ z, r5 = nI z ∧ z < 20 := ⟨_, hr5, sm_lt (by omega)⟩
          subst hq5
          refine z_join (α := Nat) (pc' := 313) (fun v ls => lv_has ls 14 [(0, .ref (ad 0)), (1, .int (nI (1))), (2, .int (y)), (3, .ref (g 0)), (4, .ref (g 1)), (5, .ref (g 3)), (6, .int (va)), (7, .int (bI (bA))), (8, .int (nI (q4))), (9, .int (bI (bD)))] ∧ v ≤ 2) (fun v => [.int (nI (v))]) ?_ (fun J313 => ?_)
          · intro ma ls hv
            obtain ⟨hl, hI313⟩ := hv
            have hl : lv_has ls 14 [(0, .ref (ad 0)), (1, .int (nI (1))), (2, .int (y)), (3, .ref (g 0)), (4, .ref (g 1)), (5, .ref (g 3)), (6, .int (va)), (7, .int (bI (bA))), (8, .int (nI (q4))), (9, .int (bI (bD)))] := hl
            have hI313 : ma ≤ 2 := hI313
            refine lv_istore (lv' := [(10, .int (nI (ma))), (0, .ref (ad 0)), (1, .int (nI (1))), (2, .int (y)), (3, .ref (g 0)), (4, .ref (g 1)), (5, .ref (g 3)), (6, .int (va)), (7, .int (bI (bA))), (8, .int (nI (q4))), (9, .int (bI (bD)))]) hx hb dL_tapes_313 hl (by decide) rfl (fun ls hl => ?_)
            rcases (by omega : 2 ≤ ma ∨ (ma < 2 ∧ nd = 2) ∨ (ma < 2 ∧ nd < 2)) with hm9 | ⟨hm9, hn2⟩ | ⟨hm9, hn2⟩
            · refine lv_iload hx hb dL_tapes_315 (lv_at hl 0 rfl) ?_
              refine lv_iconst (v := nI (2)) hx hb dL_tapes_317 (by decide) ?_
              refine zc_ge (tgt := 330) hx hb (by omega) (by omega) dL_tapes_318 (by decide) (fun c_3 => ?_) (fun c_3 => False.elim (by omega))
              refine lv_iload hx hb dL_tapes_330 (lv_at hl 0 rfl) ?_
              refine lv_iconst (v := nI (2)) hx hb dL_tapes_332 (by decide) ?_
              refine zc_ge (tgt := 361) hx hb (by omega) (by omega) dL_tapes_333 (by decide) (fun c_4 => ?_) (fun c_4 => False.elim (by omega))
              refine lv_aload_n hx hb dL_tapes_361 rfl (lv_at hl 1 rfl) ?_
              refine lv_iload hx hb dL_tapes_362 (lv_at hl 0 rfl) ?_
              refine ze_H_i (n := 2) (mc := 1) (ms := 7) (ws := cw) (es := [(g 0, zInts cA 4 cf), (g 1, zInts cA 24 tf), (g 2, zInts cA 24 ff), (g 3, zInts cA 10 vf), (g 4, zInts cA 40 jj), (g 5, zInts cA 20 lt), (g 6, zInts cA 20 dd)]) (As := [.ref (ad 0), .int (nI (ma))]) (rest := []) hx hb hml hts hown hZ hX hN [0, 1, 2, 3, 4, 5, 6] rfl rfl hP hD hS hA (c_L_added l D cA _ cw (ad 0) _ l0 _ _ _ _ (kS (ix (nI (ma)) 2) (fun _ => decide (nd < 3))) (nI (ma)) (fun sz9 => c_X4_drive l hlt D cA sz9 cw ad T Bd E PT PB PE n tr le sl mo la fc bo nd mk ck ct hd pq nj fw jf dl dn oc s8 s9 s10 s11 s12 hL hI (nI (ma))) (fun _ _ h => zexA_of h (by rw [show (kS (ix (nI (ma)) 2) (fun _ => decide (nd < 3))) = 1 from kS_1 (by rw [ix_nI (by omega), if_neg (by omega)])]; decide))) gL_tapes_L_added rfl ⟨rfl, rfl⟩ ⟨by decide +kernel, (Nat.le_of_ble_eq_true rfl), (Nat.le_of_ble_eq_true rfl)⟩ hl.1 rfl (Nat.le_of_ble_eq_true rfl) ⟨(Nat.le_of_ble_eq_true rfl), (Nat.le_of_ble_eq_true rfl)⟩ rfl dL_tapes_364 (fun r9 u9 H locs hp9 hP hD hS hz => ?_)
              rcases u9 with ⟨a9, w1⟩ | u9
              · dsimp only [zwP] at hp9
                obtain ⟨hn3, ha9, hv0, hr9, hkp, E9, PE9, hL1⟩ := hp9
                have e9 := (nI_eq (by omega) (by omega)).mp hv0
                omega
              · dsimp only [zwP] at hp9
                obtain ⟨hr9, hK9, E9, hE9⟩ := hp9
                have hr9 : r9 = (-101) := by rw [hr9, show (kS (ix (nI (ma)) 2) (fun _ => decide (nd < 3))) = 1 from kS_1 (by rw [ix_nI (by omega), if_neg (by omega)])]; rfl
                subst hr9
                have hP : va_P D vwCl ((g 0, zInts cA 4 cf) :: (g 1, zInts cA 24 tf) :: (g 2, zInts cA 24 ff) :: (g 3, zInts cA 10 vf) :: (g 4, zInts cA 40 jj) :: (g 5, zInts cA 20 lt) :: (g 6, zInts cA 20 dd) :: cw) H := hP
                have hD : va_D A ((g 0, zInts cA 4 cf) :: (g 1, zInts cA 24 tf) :: (g 2, zInts cA 24 ff) :: (g 3, zInts cA 10 vf) :: (g 4, zInts cA 40 jj) :: (g 5, zInts cA 20 lt) :: (g 6, zInts cA 20 dd) :: cw) := hD
                refine lv_iload hx hb dL_tapes_367 (lv_at hl 0 rfl) ?_
                refine lv_iconst (v := nI (2)) hx hb dL_tapes_369 (by decide) ?_
                refine zc_ge (tgt := 381) hx hb (by omega) (by omega) dL_tapes_370 (by decide) (fun c_5 => ?_) (fun c_5 => False.elim (by omega))
                refine lv_bipush (v := (-101)) hx hb dL_tapes_381 (by decide) ?_
                refine lv_icmp_ne (tgt := 390) hx hb dL_tapes_383 (by decide) (fun c_6 => absurd rfl c_6) (fun c_6 => ?_)
                refine lv_iconst (v := bI (true)) hx hb dL_tapes_386 (by decide) ?_
                refine lv_goto (tgt := 391) hx hb dL_tapes_387 (by decide) ?_
                exact W.widen (k := 8) (n := 64) (by omega) (by omega) (zr_qz (S := va_W) (post := (fun (r : Int32) (u : va_W) => r = bI true ∧ LV cA ad g u)) (w1 := fun u => u) ((g 0, zInts cA 4 cf) :: (g 1, zInts cA 24 tf) :: (g 2, zInts cA 24 ff) :: (g 3, zInts cA 10 vf) :: (g 4, zInts cA 40 jj) :: (g 5, zInts cA 20 lt) :: (g 6, zInts cA 20 dd) :: cw) hx hb hr hlocks ⟨rfl, ⟨_, _, _, _, _, _, _, _, _, _, _, _, _, _, _, _, _, _, _, _, _, _, _, _, _, _, _, _, _, _, _, _, _, _, _, _, _, _, _, _, cw, rfl, hL, hI, hp⟩⟩ hP hD hS rfl dL_tapes_391)
            · refine lv_iload hx hb dL_tapes_315 (lv_at hl 0 rfl) ?_
              refine lv_iconst (v := nI (2)) hx hb dL_tapes_317 (by decide) ?_
              refine zc_ge (tgt := 330) hx hb (by omega) (by omega) dL_tapes_318 (by decide) (fun c_7 => False.elim (by omega)) (fun c_7 => ?_)
              refine lv_aload_n hx hb dL_tapes_321 rfl (lv_at hl 4 rfl) ?_
              refine lv_iconst (v := nI (1)) hx hb dL_tapes_322 (by decide) ?_
              refine va_iald hx hb hZ.1 hP 0 0 rfl rfl (vp_in_nI (show 1 < 4 by omega) (by omega)) dL_tapes_323 ?_
              rw [nI_clamp (show 1 < 2 ^ 31 by omega)]
              refine zx_val (y := nI (nd)) (c1) ?_
              refine lv_iconst (v := nI (2)) hx hb dL_tapes_324 (by decide) ?_
              refine zc_ne (tgt := 330) hx hb (by omega) (by omega) dL_tapes_325 (by decide) (fun c_8 => False.elim (by omega)) (fun c_8 => ?_)
              refine lv_iconst (v := bI (true)) hx hb dL_tapes_328 (by decide) ?_
              exact W.widen (k := 8) (n := 64) (by omega) (by omega) (zr_qz (S := va_W) (post := (fun (r : Int32) (u : va_W) => r = bI true ∧ LV cA ad g u)) (w1 := fun u => u) ((g 0, zInts cA 4 cf) :: (g 1, zInts cA 24 tf) :: (g 2, zInts cA 24 ff) :: (g 3, zInts cA 10 vf) :: (g 4, zInts cA 40 jj) :: (g 5, zInts cA 20 lt) :: (g 6, zInts cA 20 dd) :: cw) hx hb hr hlocks ⟨rfl, ⟨_, _, _, _, _, _, _, _, _, _, _, _, _, _, _, _, _, _, _, _, _, _, _, _, _, _, _, _, _, _, _, _, _, _, _, _, _, _, _, _, cw, rfl, hL, hI, hp⟩⟩ hP hD hS rfl dL_tapes_329)
            · refine lv_iload hx hb dL_tapes_315 (lv_at hl 0 rfl) ?_
              refine lv_iconst (v := nI (2)) hx hb dL_tapes_317 (by decide) ?_
              refine zc_ge (tgt := 330) hx hb (by omega) (by omega) dL_tapes_318 (by decide) (fun c_9 => False.elim (by omega)) (fun c_9 => ?_)
              refine lv_aload_n hx hb dL_tapes_321 rfl (lv_at hl 4 rfl) ?_
              refine lv_iconst (v := nI (1)) hx hb dL_tapes_322 (by decide) ?_
              refine va_iald hx hb hZ.1 hP 0 0 rfl rfl (vp_in_nI (show 1 < 4 by omega) (by omega)) dL_tapes_323 ?_
              rw [nI_clamp (show 1 < 2 ^ 31 by omega)]
              refine zx_val (y := nI (nd)) (c1) ?_
              refine lv_iconst (v := nI (2)) hx hb dL_tapes_324 (by decide) ?_
              refine zc_ne (tgt := 330) hx hb (by omega) (by omega) dL_tapes_325 (by decide) (fun c_10 => ?_) (fun c_10 => False.elim (by omega))
              refine lv_iload hx hb dL_tapes_330 (lv_at hl 0 rfl) ?_
              refine lv_iconst (v := nI (2)) hx hb dL_tapes_332 (by decide) ?_
              refine zc_ge (tgt := 361) hx hb (by omega) (by omega) dL_tapes_333 (by decide) (fun c_11 => False.elim (by omega)) (fun c_11 => ?_)
              obtain ⟨hI2, hp2⟩ := J_drive (a := ma) hI hp hn2 (by omega)
              refine lv_aload hx hb dL_tapes_336 (lv_at hl 6 rfl) ?_
              refine lv_aload_n hx hb dL_tapes_338 rfl (lv_at hl 4 rfl) ?_
              refine lv_iconst (v := nI (1)) hx hb dL_tapes_339 (by decide) ?_
              refine va_iald hx hb hZ.1 hP 0 0 rfl rfl (vp_in_nI (show 1 < 4 by omega) (by omega)) dL_tapes_340 ?_
              rw [nI_clamp (show 1 < 2 ^ 31 by omega)]
              refine zx_val (y := nI (nd)) (c1) ?_
              refine lv_iload hx hb dL_tapes_341 (lv_at hl 0 rfl) ?_
              refine va_iast hx hb hZ.1 hP hD hS 3 0 rfl rfl (vp_in_nI (show nd < 10 by omega) (by omega)) dL_tapes_343 (fun H locs hP hD hS => ?_)
              rw [nI_clamp (show nd < 2 ^ 31 by omega)] at hP hD
              have hP : va_P D vwCl ((g 0, zInts cA 4 cf) :: (g 1, zInts cA 24 tf) :: (g 2, zInts cA 24 ff) :: (g 3, zInts cA 10 (upd vf nd (nI (ma)))) :: (g 4, zInts cA 40 jj) :: (g 5, zInts cA 20 lt) :: (g 6, zInts cA 20 dd) :: cw) H := hP
              have hD : va_D A ((g 0, zInts cA 4 cf) :: (g 1, zInts cA 24 tf) :: (g 2, zInts cA 24 ff) :: (g 3, zInts cA 10 (upd vf nd (nI (ma)))) :: (g 4, zInts cA 40 jj) :: (g 5, zInts cA 20 lt) :: (g 6, zInts cA 20 dd) :: cw) := hD
              refine lv_aload hx hb dL_tapes_344 (lv_at hl 6 rfl) ?_
              refine lv_bipush (v := nI (6)) hx hb dL_tapes_346 (by decide) ?_
              refine lv_aload_n hx hb dL_tapes_348 rfl (lv_at hl 4 rfl) ?_
              refine lv_iconst (v := nI (1)) hx hb dL_tapes_349 (by decide) ?_
              refine va_iald hx hb hZ.1 hP 0 0 rfl rfl (vp_in_nI (show 1 < 4 by omega) (by omega)) dL_tapes_350 ?_
              rw [nI_clamp (show 1 < 2 ^ 31 by omega)]
              refine zx_val (y := nI (nd)) (c1) ?_
              refine zo_add hx hb dL_tapes_351 ?_
              refine lv_iconst (v := (-1)) hx hb dL_tapes_352 (by decide) ?_
              refine va_iast hx hb hZ.1 hP hD hS 3 0 rfl rfl (vp_in_nI (show 6 + nd < 10 by omega) (by omega)) dL_tapes_353 (fun H locs hP hD hS => ?_)
              rw [nI_clamp (show 6 + nd < 2 ^ 31 by omega)] at hP hD
              have hP : va_P D vwCl ((g 0, zInts cA 4 cf) :: (g 1, zInts cA 24 tf) :: (g 2, zInts cA 24 ff) :: (g 3, zInts cA 10 (upd (upd vf nd (nI (ma))) (6 + nd) ((-1)))) :: (g 4, zInts cA 40 jj) :: (g 5, zInts cA 20 lt) :: (g 6, zInts cA 20 dd) :: cw) H := hP
              have hD : va_D A ((g 0, zInts cA 4 cf) :: (g 1, zInts cA 24 tf) :: (g 2, zInts cA 24 ff) :: (g 3, zInts cA 10 (upd (upd vf nd (nI (ma))) (6 + nd) ((-1)))) :: (g 4, zInts cA 40 jj) :: (g 5, zInts cA 20 lt) :: (g 6, zInts cA 20 dd) :: cw) := hD
              refine lv_aload_n hx hb dL_tapes_354 rfl (lv_at hl 4 rfl) ?_
              refine lv_iconst (v := nI (1)) hx hb dL_tapes_355 (by decide) ?_
              refine lv_dup2_11 hx hb dL_tapes_356 rfl rfl ?_
              refine va_iald hx hb hZ.1 hP 0 0 rfl rfl (vp_in_nI (show 1 < 4 by omega) (by omega)) dL_tapes_357 ?_
              rw [nI_clamp (show 1 < 2 ^ 31 by omega)]
              refine zx_val (y := nI (nd)) (c1) ?_
              refine lv_iconst (v := nI (1)) hx hb dL_tapes_358 (by decide) ?_
              refine zo_add hx hb dL_tapes_359 ?_
              refine va_iast hx hb hZ.1 hP hD hS 0 0 rfl rfl (vp_in_nI (show 1 < 4 by omega) (by omega)) dL_tapes_360 (fun H locs hP hD hS => ?_)
              rw [nI_clamp (show 1 < 2 ^ 31 by omega)] at hP hD
              have hP : va_P D vwCl ((g 0, zInts cA 4 (upd cf 1 (nI (nd + 1)))) :: (g 1, zInts cA 24 tf) :: (g 2, zInts cA 24 ff) :: (g 3, zInts cA 10 (upd (upd vf nd (nI (ma))) (6 + nd) ((-1)))) :: (g 4, zInts cA 40 jj) :: (g 5, zInts cA 20 lt) :: (g 6, zInts cA 20 dd) :: cw) H := hP
              have hD : va_D A ((g 0, zInts cA 4 (upd cf 1 (nI (nd + 1)))) :: (g 1, zInts cA 24 tf) :: (g 2, zInts cA 24 ff) :: (g 3, zInts cA 10 (upd (upd vf nd (nI (ma))) (6 + nd) ((-1)))) :: (g 4, zInts cA 40 jj) :: (g 5, zInts cA 20 lt) :: (g 6, zInts cA 20 dd) :: cw) := hD
              refine lv_aload_n hx hb dL_tapes_361 rfl (lv_at hl 1 rfl) ?_
              refine lv_iload hx hb dL_tapes_362 (lv_at hl 0 rfl) ?_
              refine ze_H_i (n := 2) (mc := 1) (ms := 7) (ws := cw) (es := [(g 0, zInts cA 4 (upd cf 1 (nI (nd + 1)))), (g 1, zInts cA 24 tf), (g 2, zInts cA 24 ff), (g 3, zInts cA 10 (upd (upd vf nd (nI (ma))) (6 + nd) ((-1)))), (g 4, zInts cA 40 jj), (g 5, zInts cA 20 lt), (g 6, zInts cA 20 dd)]) (As := [.ref (ad 0), .int (nI (ma))]) (rest := []) hx hb hml hts hown hZ hX hN [0, 1, 2, 3, 4, 5, 6] rfl rfl hP hD hS hA (c_L_added l D cA _ cw (ad 0) _ l0 _ _ _ _ (kS (ix (nI (ma)) 2) (fun _ => decide (nd < 3))) (nI (ma)) (fun sz9 => c_X4_drive l hlt D cA sz9 cw ad T Bd E PT PB PE n tr le sl mo la fc bo nd mk ck ct hd pq nj fw jf dl dn oc s8 s9 s10 s11 s12 hL hI (nI (ma))) (fun _ _ h => zexA_of h (by rw [show (kS (ix (nI (ma)) 2) (fun _ => decide (nd < 3))) = 0 from kS_y (ix_in (by omega) hm9) (decide_eq_true (by omega))]; decide))) gL_tapes_L_added rfl ⟨rfl, rfl⟩ ⟨by decide +kernel, (Nat.le_of_ble_eq_true rfl), (Nat.le_of_ble_eq_true rfl)⟩ hl.1 rfl (Nat.le_of_ble_eq_true rfl) ⟨(Nat.le_of_ble_eq_true rfl), (Nat.le_of_ble_eq_true rfl)⟩ rfl dL_tapes_364 (fun r9 u9 H locs hp9 hP hD hS hz => ?_)
              rcases u9 with ⟨a9, w1⟩ | u9
              · dsimp only [zwP] at hp9
                obtain ⟨hn3, ha9, hv0, hr9, hkp, E9, PE9, hL1⟩ := hp9
                have e9 := (nI_eq (by omega) (by omega)).mp hv0
                subst e9; subst hr9
                have hP : va_P D vwCl ((g 0, zInts cA 4 (upd cf 1 (nI (nd + 1)))) :: (g 1, zInts cA 24 tf) :: (g 2, zInts cA 24 ff) :: (g 3, zInts cA 10 (upd (upd vf nd (nI (ma))) (6 + nd) ((-1)))) :: (g 4, zInts cA 40 jj) :: (g 5, zInts cA 20 lt) :: (g 6, zInts cA 20 dd) :: w1) H := hP
                have hD : va_D A ((g 0, zInts cA 4 (upd cf 1 (nI (nd + 1)))) :: (g 1, zInts cA 24 tf) :: (g 2, zInts cA 24 ff) :: (g 3, zInts cA 10 (upd (upd vf nd (nI (ma))) (6 + nd) ((-1)))) :: (g 4, zInts cA 40 jj) :: (g 5, zInts cA 20 lt) :: (g 6, zInts cA 20 dd) :: w1) := hD
                refine lv_iload hx hb dL_tapes_367 (lv_at hl 0 rfl) ?_
                refine lv_iconst (v := nI (2)) hx hb dL_tapes_369 (by decide) ?_
                refine zc_ge (tgt := 381) hx hb (by omega) (by omega) dL_tapes_370 (by decide) (fun c_12 => False.elim (by omega)) (fun c_12 => ?_)
                refine lv_aload_n hx hb dL_tapes_373 rfl (lv_at hl 4 rfl) ?_
                refine lv_iconst (v := nI (1)) hx hb dL_tapes_374 (by decide) ?_
                refine va_iald hx hb hZ.1 hP 0 0 rfl rfl (vp_in_nI (show 1 < 4 by omega) (by omega)) dL_tapes_375 ?_
                rw [nI_clamp (show 1 < 2 ^ 31 by omega)]
                refine zx_val (y := nI (nd + 1)) (pk_us) ?_
                refine lv_iconst (v := nI (1)) hx hb dL_tapes_376 (by decide) ?_
                refine zo_sub hx hb (by omega) dL_tapes_377 ?_
                refine lv_goto (tgt := 383) hx hb dL_tapes_378 (by decide) ?_
                refine zc_ne (tgt := 390) hx hb (by omega) (by omega) dL_tapes_383 (by decide) (fun c_13 => False.elim (by omega)) (fun c_13 => ?_)
                refine lv_iconst (v := bI (true)) hx hb dL_tapes_386 (by decide) ?_
                refine lv_goto (tgt := 391) hx hb dL_tapes_387 (by decide) ?_
                exact W.widen (k := 8) (n := 64) (by omega) (by omega) (zr_qz (S := va_W) (post := (fun (r : Int32) (u : va_W) => r = bI true ∧ LV cA ad g u)) (w1 := fun u => u) ((g 0, zInts cA 4 (upd cf 1 (nI (nd + 1)))) :: (g 1, zInts cA 24 tf) :: (g 2, zInts cA 24 ff) :: (g 3, zInts cA 10 (upd (upd vf nd (nI (ma))) (6 + nd) ((-1)))) :: (g 4, zInts cA 40 jj) :: (g 5, zInts cA 20 lt) :: (g 6, zInts cA 20 dd) :: w1) hx hb hr hlocks ⟨rfl, ⟨_, _, _, _, _, _, _, _, _, _, _, _, _, _, _, _, _, _, _, _, _, _, _, _, _, _, _, _, _, _, _, _, _, _, _, _, _, _, _, _, w1, rfl, hL1, hI2, hp2⟩⟩ hP hD hS rfl dL_tapes_391)
              · exact absurd (show (kS (ix (nI (ma)) 2) (fun _ => decide (nd < 3))) = 0 from kS_y (ix_in (by omega) hm9) (decide_eq_true (by omega))) hp9.2.1
          · skip
            refine zf_ne (tgt := 308) hx hb (by omega) dL_tapes_301 (by decide) (fun c_14 => ?_) (fun c_14 => ?_)
            · refine lv_iload_n hx hb dL_tapes_308 rfl (lv_at hl 3 rfl) ?_
              refine lv_iconst (v := nI (2)) hx hb dL_tapes_309 (by decide) ?_
              refine zk_S_i (n := 2) (As := [.int (y), .int (nI (2))]) (rest := []) hx hb hml hts hown hZ hP (c_L_some l D cA _ y 2 (by omega) (by omega)) gL_tapes_L_some rfl ⟨rfl, rfl⟩ ⟨by decide +kernel, (Nat.le_of_ble_eq_true rfl), (Nat.le_of_ble_eq_true rfl)⟩ hl.1 rfl (Nat.le_of_ble_eq_true rfl) ⟨(Nat.le_of_ble_eq_true rfl), (Nat.le_of_ble_eq_true rfl)⟩ rfl dL_tapes_310 (fun r6 hr6 => ?_)
              obtain ⟨q6, hq6, hb6⟩ : ∃ z, r6 = nI z ∧ z < 2 := ⟨_, hr6, sm_lt (by omega)⟩
              subst hq6
              exact J313 (q6) ls ⟨lv_sub hl [1, 2, 3, 4, 5, 6, 7, 8, 9, 0] rfl, by omega⟩
            · refine lv_iconst (v := nI (2)) hx hb dL_tapes_304 (by decide) ?_
              refine lv_goto (tgt := 313) hx hb dL_tapes_305 (by decide) ?_
              exact J313 (2) ls ⟨lv_sub hl [1, 2, 3, 4, 5, 6, 7, 8, 9, 0] rfl, by omega⟩
        · skip
          refine lv_iload hx hb dL_tapes_84 (lv_at hl 0 rfl) ?_
          refine lv_aload_n hx hb dL_tapes_86 rfl (lv_at hl 4 rfl) ?_
          refine lv_iconst (v := nI (1)) hx hb dL_tapes_87 (by decide) ?_
          refine va_iald hx hb hZ.1 hP 0 0 rfl rfl (vp_in_nI (show 1 < 4 by omega) (by omega)) dL_tapes_88 ?_
          rw [nI_clamp (show 1 < 2 ^ 31 by omega)]
          refine zx_val (y := nI (nd)) (c1) ?_
          refine zc_ge (tgt := 96) hx hb (by omega) (by omega) dL_tapes_89 (by decide) (fun c_15 => ?_) (fun c_15 => ?_)
          · refine lv_iconst (v := bI (false)) hx hb dL_tapes_96 (by decide) ?_
            exact J97 (false) ls ⟨lv_sub hl [1, 2, 3, 4, 5, 6, 7, 8, 0] rfl, (decide_eq_false (by omega)).symm⟩
          · refine lv_iconst (v := bI (true)) hx hb dL_tapes_92 (by decide) ?_
            refine lv_goto (tgt := 97) hx hb dL_tapes_93 (by decide) ?_
            exact J97 (true) ls ⟨lv_sub hl [1, 2, 3, 4, 5, 6, 7, 8, 0] rfl, (decide_eq_true (by omega)).symm⟩
      · skip
        refine zf_eq (tgt := 73) hx hb (by omega) dL_tapes_64 (by decide) (fun c_16 => ?_) (fun c_16 => ?_)
        · refine lv_iconst (v := nI (1)) hx hb dL_tapes_73 (by decide) ?_
          refine lv_goto (tgt := 78) hx hb dL_tapes_74 (by decide) ?_
          exact J78 (1) ls ⟨lv_sub hl [1, 2, 3, 4, 5, 6, 7, 0] rfl, by omega⟩
        · refine lv_aload_n hx hb dL_tapes_67 rfl (lv_at hl 4 rfl) ?_
          refine lv_iconst (v := nI (1)) hx hb dL_tapes_68 (by decide) ?_
          refine va_iald hx hb hZ.1 hP 0 0 rfl rfl (vp_in_nI (show 1 < 4 by omega) (by omega)) dL_tapes_69 ?_
          rw [nI_clamp (show 1 < 2 ^ 31 by omega)]
          refine zx_val (y := nI (nd)) (c1) ?_
          refine zf_ne (tgt := 77) hx hb (by omega) dL_tapes_70 (by decide) (fun c_17 => ?_) (fun c_17 => ?_)
          · refine lv_iconst (v := nI (0)) hx hb dL_tapes_77 (by decide) ?_
            exact J78 (0) ls ⟨lv_sub hl [1, 2, 3, 4, 5, 6, 7, 0] rfl, by omega⟩
          · refine lv_iconst (v := nI (1)) hx hb dL_tapes_73 (by decide) ?_
            refine lv_goto (tgt := 78) hx hb dL_tapes_74 (by decide) ?_
            exact J78 (1) ls ⟨lv_sub hl [1, 2, 3, 4, 5, 6, 7, 0] rfl, by omega⟩
    · skip
      rcases hAq with ⟨a, han, hva1⟩ | ⟨hAn, hva1 | hva1⟩
      · rw [hva1] at hl
        refine lv_iload hx hb dL_tapes_29 (lv_at hl 0 rfl) ?_
        refine zf_lt (tgt := 46) hx hb (by omega) dL_tapes_31 (by decide) ?_
        refine lv_iload hx hb dL_tapes_34 (lv_at hl 0 rfl) ?_
        refine lv_aload_n hx hb dL_tapes_36 rfl (lv_at hl 4 rfl) ?_
        refine lv_iconst (v := nI (0)) hx hb dL_tapes_37 (by decide) ?_
        refine va_iald hx hb hZ.1 hP 0 0 rfl rfl (vp_in_nI (show 0 < 4 by omega) (by omega)) dL_tapes_38 ?_
        rw [nI_clamp (show 0 < 2 ^ 31 by omega)]
        refine zx_val (y := nI (n)) (c0) ?_
        refine zc_ge (tgt := 46) hx hb (by omega) (by omega) dL_tapes_39 (by decide) (fun c_19 => False.elim (by omega)) (fun c_19 => ?_)
        refine lv_iconst (v := bI (true)) hx hb dL_tapes_42 (by decide) ?_
        refine lv_goto (tgt := 47) hx hb dL_tapes_43 (by decide) ?_
        rw [← hva1] at hl
        exact J47 true ls ⟨lv_sub hl [1, 2, 3, 4, 5, 6, 0] rfl, Or.inl ⟨rfl, a, han, hva1⟩⟩
      · rw [hva1] at hl
        refine lv_iload hx hb dL_tapes_29 (lv_at hl 0 rfl) ?_
        refine lv_if_lt (tgt := 46) hx hb dL_tapes_31 (by decide) (fun c_20 => ?_) (fun c_20 => absurd (by decide) c_20)
        refine lv_iconst (v := bI (false)) hx hb dL_tapes_46 (by decide) ?_
        rw [← hva1] at hl
        exact J47 false ls ⟨lv_sub hl [1, 2, 3, 4, 5, 6, 0] rfl, Or.inr ⟨rfl, hAn⟩⟩
      · rw [hva1] at hl
        refine lv_iload hx hb dL_tapes_29 (lv_at hl 0 rfl) ?_
        refine zf_lt (tgt := 46) hx hb (by omega) dL_tapes_31 (by decide) ?_
        refine lv_iload hx hb dL_tapes_34 (lv_at hl 0 rfl) ?_
        refine lv_aload_n hx hb dL_tapes_36 rfl (lv_at hl 4 rfl) ?_
        refine lv_iconst (v := nI (0)) hx hb dL_tapes_37 (by decide) ?_
        refine va_iald hx hb hZ.1 hP 0 0 rfl rfl (vp_in_nI (show 0 < 4 by omega) (by omega)) dL_tapes_38 ?_
        rw [nI_clamp (show 0 < 2 ^ 31 by omega)]
        refine zx_val (y := nI (n)) (c0) ?_
        refine zc_ge (tgt := 46) hx hb (by omega) (by omega) dL_tapes_39 (by decide) (fun c_22 => ?_) (fun c_22 => False.elim (by omega))
        refine lv_iconst (v := bI (false)) hx hb dL_tapes_46 (by decide) ?_
        rw [← hva1] at hl
        exact J47 false ls ⟨lv_sub hl [1, 2, 3, 4, 5, 6, 0] rfl, Or.inr ⟨rfl, hAn⟩⟩
  · skip
    refine zf_ne (tgt := 25) hx hb (by omega) dL_tapes_18 (by decide) (fun c_23 => ?_) (fun c_23 => ?_)
    · refine lv_iconst (v := nI (0)) hx hb dL_tapes_25 (by decide) ?_
      exact J26 (0) ls ⟨lv_sub hl [0, 1, 2, 3, 4, 5] rfl, by omega⟩
    · refine lv_iconst (v := nI (1)) hx hb dL_tapes_21 (by decide) ?_
      refine lv_goto (tgt := 26) hx hb dL_tapes_22 (by decide) ?_
      exact J26 (1) ls ⟨lv_sub hl [0, 1, 2, 3, 4, 5] rfl, by omega⟩
