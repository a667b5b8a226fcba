theorem kR0_no {o : Option Nat} {hd : Nat → Option Nat} (h : kR o hd (fun _ => some 0) (fun _ => true) ≠ 0) : (o = none ∧ kR o hd (fun _ => some 0) (fun _ => true) = 1) ∨ ∃ j, o = some j ∧ hd j = none ∧ kR o hd (fun _ => some 0) (fun _ => true) = 2 := by
  rcases kR_no h with h | h | ⟨j, t, -, -, h3, -⟩ | ⟨j, t, f, -, -, -, h4, -⟩
  · exact Or.inl h
  · exact Or.inr h
  · cases h3
  · cases h4
theorem kRq_no {o : Option Nat} {hd q : Nat → Option Nat} (h : kR o hd q (fun _ => true) ≠ 0) : (o = none ∧ kR o hd q (fun _ => true) = 1) ∨ (∃ j, o = some j ∧ hd j = none ∧ kR o hd q (fun _ => true) = 2) ∨ ∃ j t, o = some j ∧ hd j = some t ∧ q t = none ∧ kR o hd q (fun _ => true) = 1 := by
  rcases kR_no h with h | h | h | ⟨j, t, f, -, -, -, h4, -⟩
  · exact Or.inl h
  · exact Or.inr (Or.inl h)
  · exact Or.inr (Or.inr h)
  · cases h4
set_option maxHeartbeats 4000000 in
set_option maxRecDepth 100000 in
theorem c_X5_bestTime_ok (l : Launch) (D : va_G) (cA : Nat → ClassId) (sz : Nat) (ws : va_W) {gd : Nat → Nat} {n : Nat} {tr : Nat → Nat} {le : Nat → Nat} {sl : Nat → Nat} {mo : Nat → Option Nat} {la : Nat → Bool} {fc : Nat → Nat} {sf : Nat → Int32} {bf : Nat → Int32} {nd : Nat} {mk : Nat → Nat} {ck : Nat → Int32} {ct : Nat → Nat} {hd : Nat → Option Nat} {pf : Nat → Int32} {nj : Nat} {jt : Nat → Int32} {jf : Nat → Nat} {dl : Nat → Nat} {fin : Nat → Bool} {my : Nat} {fls : Nat → Int32} {fod : Nat → Int32} {fle : Nat → Int32} {fro : Nat → Int32} {th : Nat} {bo : Nat → Nat → Nat} {pq : Nat → Int32} {fw : Nat → Int32} {dn : Nat} (hm : mL cA ws gd n tr le sl mo la fc sf bf nd mk ck ct hd pf nj jt jf dl fin my fls fod fle fro th) (hI : zI n tr le sl mo fc bo nd mk ct hd pq nj fw jf dl) (hM : mI n la fc bo nd ck ct hd pq pf nj fw jt fin sf bf dn) (j9 t9 P9 : Nat) (hj9 : j9 < nd) (hht : hd j9 = some t9) (hpq : pq j9 = nI P9) (hP9 : P9 ≤ tr t9 * le t9) : Met l yX5_bestTime wsX5_bestTime ({ frames := 5, cells := 0, slots := 0, locals := 124 }) (va_Pc [.ref (gd 0), .int (nI (j9))] (zM D cA (ws) sz)) (va_Qi (fun (r : Int32) (u : va_W) => r = nI (BT (LG mk tr le bo jf j9 t9 P9 (wl fw (nI t9) nj)) (wl fw (nI t9) nj).length (np 0) 7) ∧ mKeep ws u ∧ ∃ my9 fls9 fod9 fle9 fro9, mL cA u gd n tr le sl mo la fc sf bf nd mk ck ct hd pf nj jt jf dl fin my9 fls9 fod9 fle9 fro9 0) (fun u => zB D (va_A (ws) sz) (u)) (va_A (ws) sz)) 0 0 (va_A (ws) sz) := by
  refine zOpen (cc := cX5_bestTime) (maxL := 2) (ret := (some .int)) (own := RX5) (by decide) rfl rfl (Nat.le_of_ble_eq_true rfl) ?_
  intro p e s m below meth c ls hx hb hr hml hts hown hlocks hnm ⟨hZ, hP, hD0, hsz⟩ hl
  subst hsz
  have hD := hD0.self (sz := s.heap.size)
  generalize hAe : va_A (ws) s.heap.size = A at hD ⊢
  have hA : ∀ q : Nat, s.heap.size ≤ q → A q := fun q h => by rw [← hAe]; exact Or.inr h
  have hS : va_S A s.heap s.heap [] := va_S.rf
  have hl : lv_has ls 2 [(0, .ref (gd 0)), (1, .int (nI (j9)))] := hl
  have hm0 := hm
  have hI0 := hI
  have hM0 := hM
  obtain ⟨hn8, hd3, hj60, hIT, hID, hIJ, hIdl, hIw⟩ := hI
  obtain ⟨hM1, hM2, hM3, hM4, hM5, hM6, hM7⟩ := hM
  obtain ⟨m0, m1, m2, m3, m4, m5, m6, m7, m8, m9, m10, m11, m12, m13, m14, m15, m16, m17, m18, m19, m20, m21⟩ := hm
  have hfc10 : ∀ i, i < n → fc i ≤ 10 := fun i hi => (hIT i hi).2.2.2.2.2.2.1
  have hsl12 : ∀ i, i < n → sl i < 12 := fun i hi => (hIT i hi).2.2.2.2.1
  have hH8 : ∀ j, j < nd → ∀ t, hd j = some t → t < 8 := fun j hj t h => by have := ((hID j hj).2.2.2 t h).1; omega
  have hmo3 : ∀ i, i < n → ∀ j, mo i = some j → j < nd := fun i hi j h => ((hIT i hi).2.2.2.2.2.1 j h).1
  have hfw : ∀ k, k < nj → fw k = if fin k then -1 else jt k := fun k hk => (hM5 k hk).1
  refine lv_aload_n hx hb dX5_bestTime_0 rfl (lv_at hl 0 rfl) ?_
  refine lv_aload_n hx hb dX5_bestTime_1 rfl (lv_at hl 0 rfl) ?_
  refine lv_iload_n hx hb dX5_bestTime_2 rfl (lv_at hl 1 rfl) ?_
  refine zk_V_i (n := 1) (As := [.int (nI (j9))]) (rest := [.ref (gd 0)]) hx hb hml hts hown hZ hP (c_X5_isDrive l D cA _ hm0 (by omega) (nI (j9))) gX5_bestTime_X5_isDrive rfl rfl ⟨rfl, rfl⟩ ⟨by decide +kernel, Nat.le_of_ble_eq_true rfl, Nat.le_of_ble_eq_true rfl⟩ m0 rfl hl.1 rfl (Nat.le_of_ble_eq_true rfl) ⟨Nat.le_of_ble_eq_true rfl, Nat.le_of_ble_eq_true rfl⟩ rfl dX5_bestTime_3 (fun r_1 hr_2 => ?_)
  obtain rfl := show r_1 = _ from hr_2
  refine zx_val (y := bI (true)) (by rw [ix_in (by omega) hj9]; rfl) ?_
  refine lv_aload_n hx hb dX5_bestTime_6 rfl (lv_at hl 0 rfl) ?_
  refine lv_iload_n hx hb dX5_bestTime_7 rfl (lv_at hl 1 rfl) ?_
  refine zk_V_i (n := 1) (As := [.int (nI (j9))]) (rest := [.int (bI (true)), .ref (gd 0)]) hx hb hml hts hown hZ hP (c_X5_hasTape l D cA _ hm0 hd3 hH8 (nI (j9))) gX5_bestTime_X5_hasTape rfl rfl ⟨rfl, rfl⟩ ⟨by decide +kernel, Nat.le_of_ble_eq_true rfl, Nat.le_of_ble_eq_true rfl⟩ m0 rfl hl.1 rfl (Nat.le_of_ble_eq_true rfl) ⟨Nat.le_of_ble_eq_true rfl, Nat.le_of_ble_eq_true rfl⟩ rfl dX5_bestTime_8 (fun r_3 hr_4 => ?_)
  obtain rfl := show r_3 = _ from hr_4
  refine zx_val (y := bI (true)) (by rw [ix_in (by omega) hj9]; show bI (hd j9).isSome = _; rw [hht]; rfl) ?_
  refine zw_V_i (n := 2) (mc := 0) (ms := 0) (As := [.int (bI (true)), .int (bI (true))]) (rest := []) (w1 := fun u : Unit => ws.set 0 (gd 0, zMod gd n nd nj my 0)) hx hb hml hts hown hZ hP hD hS hA (c_X5_mayBoth l D cA _ _ gd n nd nj my th true true (m0)) gX5_bestTime_X5_mayBoth rfl rfl ⟨rfl, rfl⟩ ⟨by decide +kernel, Nat.le_of_ble_eq_true rfl, Nat.le_of_ble_eq_true rfl⟩ m0 rfl hl.1 rfl (Nat.le_of_ble_eq_true rfl) ⟨Nat.le_of_ble_eq_true rfl, Nat.le_of_ble_eq_true rfl⟩ rfl dX5_bestTime_11 (fun r_5 u_7 H locs hr_6 hP hD hS hz_7 => ?_)
  obtain rfl := show r_5 = _ from hr_6
  have hP : va_P D vwCl (ws.set 0 (gd 0, zMod gd n nd nj my 0)) H := hP
  have hD : va_D A (ws.set 0 (gd 0, zMod gd n nd nj my 0)) := hD
  refine zb_eq (tgt := 25) hx hb dX5_bestTime_14 (by decide) (fun c_8 => Bool.noConfusion c_8) (fun c_8 => ?_)
  refine lv_aload_n hx hb dX5_bestTime_17 rfl (lv_at hl 0 rfl) ?_
  refine lv_iload_n hx hb dX5_bestTime_18 rfl (lv_at hl 1 rfl) ?_
  refine zw_V_i (n := 1) (mc := 0) (ms := 0) (As := [.int (nI (j9))]) (rest := []) (w1 := fun u : va_W × (Nat → Int32) => u.1) hx hb hml hts hown hZ hP hD hS hA (c_X5_arrange l D cA _ _ ((mL_0 hm0 n nd nj my 0)) hI0 hM0 j9 t9 P9 hj9 hht hpq hP9) gX5_bestTime_X5_arrange rfl rfl ⟨rfl, rfl⟩ ⟨by decide +kernel, Nat.le_of_ble_eq_true rfl, Nat.le_of_ble_eq_true rfl⟩ (zset_s m0) rfl hl.1 rfl (Nat.le_of_ble_eq_true rfl) ⟨Nat.le_of_ble_eq_true rfl, Nat.le_of_ble_eq_true rfl⟩ rfl dX5_bestTime_19 (fun r_9 u_11 H locs hr_10 hP hD hS hz_11 => ?_)
  have hP : va_P D vwCl (u_11.1) H := hP
  have hD : va_D A (u_11.1) := hD
  obtain ⟨w_12, x_13⟩ := u_11
  obtain ⟨rfl, hkp_13, hm_13⟩ := hr_10
  obtain ⟨m0_13, m1_13, m2_13, m3_13, m4_13, m5_13, m6_13, m7_13, m8_13, m9_13, m10_13, m11_13, m12_13, m13_13, m14_13, m15_13, m16_13, m17_13, m18_13, m19_13, m20_13, m21_13⟩ := id hm_13
  have hP : va_P D vwCl (w_12) H := hP
  have hD : va_D A (w_12) := hD
  refine lv_goto (tgt := 26) hx hb dX5_bestTime_22 (by decide) ?_
  exact zr_qi (S := va_W) (w1 := fun u => u) w_12 hx hb hr hlocks (⟨rfl, (mKeep_tr (mKeep_set mKeep_rf (by decide)) hkp_13), _, _, _, _, _, hm_13⟩) hP hD hS (rfl) dX5_bestTime_26

set_option maxHeartbeats 4000000 in
set_option maxRecDepth 100000 in
theorem c_X5_bestTime_no (l : Launch) (D : va_G) (cA : Nat → ClassId) (sz : Nat) (ws : va_W) {gd : Nat → Nat} {n : Nat} {tr : Nat → Nat} {le : Nat → Nat} {sl : Nat → Nat} {mo : Nat → Option Nat} {la : Nat → Bool} {fc : Nat → Nat} {sf : Nat → Int32} {bf : Nat → Int32} {nd : Nat} {mk : Nat → Nat} {ck : Nat → Int32} {ct : Nat → Nat} {hd : Nat → Option Nat} {pf : Nat → Int32} {nj : Nat} {jt : Nat → Int32} {jf : Nat → Nat} {dl : Nat → Nat} {fin : Nat → Bool} {my : Nat} {fls : Nat → Int32} {fod : Nat → Int32} {fle : Nat → Int32} {fro : Nat → Int32} {th : Nat} {bo : Nat → Nat → Nat} {pq : Nat → Int32} {fw : Nat → Int32} {dn : Nat} (hm : mL cA ws gd n tr le sl mo la fc sf bf nd mk ck ct hd pf nj jt jf dl fin my fls fod fle fro th) (hI : zI n tr le sl mo fc bo nd mk ct hd pq nj fw jf dl) (hM : mI n la fc bo nd ck ct hd pq pf nj fw jt fin sf bf dn) (v0 : Int32) (h0 : (kR (ix v0 nd) hd (fun _ => some 0) (fun _ => true)) ≠ 0) : Met l yX5_bestTime wsX5_bestTime ({ frames := 5, cells := 0, slots := 0, locals := 124 }) (va_Pc [.ref (gd 0), .int (v0)] (zM D cA (ws) sz)) (va_Qi (fun (r : Int32) (u : va_W) => mKeep ws u ∧ ∃ my9 fls9 fod9 fle9 fro9, mL cA u gd n tr le sl mo la fc sf bf nd mk ck ct hd pf nj jt jf dl fin my9 fls9 fod9 fle9 fro9 (kR (ix v0 nd) hd (fun _ => some 0) (fun _ => true))) (fun u => zB D (va_A (ws) sz) (u)) (va_A (ws) sz)) 0 0 (va_A (ws) sz) := by
  refine zOpen (cc := cX5_bestTime) (maxL := 2) (ret := (some .int)) (own := RX5) (by decide) rfl rfl (Nat.le_of_ble_eq_true rfl) ?_
  intro p e s m below meth c ls hx hb hr hml hts hown hlocks hnm ⟨hZ, hP, hD0, hsz⟩ hl
  subst hsz
  have hD := hD0.self (sz := s.heap.size)
  generalize hAe : va_A (ws) s.heap.size = A at hD ⊢
  have hA : ∀ q : Nat, s.heap.size ≤ q → A q := fun q h => by rw [← hAe]; exact Or.inr h
  have hS : va_S A s.heap s.heap [] := va_S.rf
  have hl : lv_has ls 2 [(0, .ref (gd 0)), (1, .int (v0))] := hl
  have hm0 := hm
  have hI0 := hI
  have hM0 := hM
  obtain ⟨hn8, hd3, hj60, hIT, hID, hIJ, hIdl, hIw⟩ := hI
  obtain ⟨hM1, hM2, hM3, hM4, hM5, hM6, hM7⟩ := hM
  obtain ⟨m0, m1, m2, m3, m4, m5, m6, m7, m8, m9, m10, m11, m12, m13, m14, m15, m16, m17, m18, m19, m20, m21⟩ := hm
  have hfc10 : ∀ i, i < n → fc i ≤ 10 := fun i hi => (hIT i hi).2.2.2.2.2.2.1
  have hsl12 : ∀ i, i < n → sl i < 12 := fun i hi => (hIT i hi).2.2.2.2.1
  have hH8 : ∀ j, j < nd → ∀ t, hd j = some t → t < 8 := fun j hj t h => by have := ((hID j hj).2.2.2 t h).1; omega
  have hmo3 : ∀ i, i < n → ∀ j, mo i = some j → j < nd := fun i hi j h => ((hIT i hi).2.2.2.2.2.1 j h).1
  have hfw : ∀ k, k < nj → fw k = if fin k then -1 else jt k := fun k hk => (hM5 k hk).1
  rcases kR0_no h0 with ⟨ho, hK⟩ | ⟨j9, ho, hhn, hK⟩
  · refine lv_aload_n hx hb dX5_bestTime_0 rfl (lv_at hl 0 rfl) ?_
    refine lv_aload_n hx hb dX5_bestTime_1 rfl (lv_at hl 0 rfl) ?_
    refine lv_iload_n hx hb dX5_bestTime_2 rfl (lv_at hl 1 rfl) ?_
    refine zk_V_i (n := 1) (As := [.int (v0)]) (rest := [.ref (gd 0)]) hx hb hml hts hown hZ hP (c_X5_isDrive l D cA _ hm0 (by omega) v0) gX5_bestTime_X5_isDrive rfl rfl ⟨rfl, rfl⟩ ⟨by decide +kernel, Nat.le_of_ble_eq_true rfl, Nat.le_of_ble_eq_true rfl⟩ m0 rfl hl.1 rfl (Nat.le_of_ble_eq_true rfl) ⟨Nat.le_of_ble_eq_true rfl, Nat.le_of_ble_eq_true rfl⟩ rfl dX5_bestTime_3 (fun r_1 hr_2 => ?_)
    obtain rfl := show r_1 = _ from hr_2
    refine zx_val (y := bI (false)) (by rw [ho]; rfl) ?_
    refine lv_aload_n hx hb dX5_bestTime_6 rfl (lv_at hl 0 rfl) ?_
    refine lv_iload_n hx hb dX5_bestTime_7 rfl (lv_at hl 1 rfl) ?_
    refine zk_V_i (n := 1) (As := [.int (v0)]) (rest := [.int (bI (false)), .ref (gd 0)]) hx hb hml hts hown hZ hP (c_X5_hasTape l D cA _ hm0 hd3 hH8 v0) gX5_bestTime_X5_hasTape rfl rfl ⟨rfl, rfl⟩ ⟨by decide +kernel, Nat.le_of_ble_eq_true rfl, Nat.le_of_ble_eq_true rfl⟩ m0 rfl hl.1 rfl (Nat.le_of_ble_eq_true rfl) ⟨Nat.le_of_ble_eq_true rfl, Nat.le_of_ble_eq_true rfl⟩ rfl dX5_bestTime_8 (fun r_3 hr_4 => ?_)
    obtain rfl := show r_3 = _ from hr_4
    refine zx_val (y := bI (false)) (by rw [ho]; rfl) ?_
    refine zw_V_i (n := 2) (mc := 0) (ms := 0) (As := [.int (bI (false)), .int (bI (false))]) (rest := []) (w1 := fun u : Unit => ws.set 0 (gd 0, zMod gd n nd nj my 1)) hx hb hml hts hown hZ hP hD hS hA (c_X5_mayBoth l D cA _ _ gd n nd nj my th false false (m0)) gX5_bestTime_X5_mayBoth rfl rfl ⟨rfl, rfl⟩ ⟨by decide +kernel, Nat.le_of_ble_eq_true rfl, Nat.le_of_ble_eq_true rfl⟩ m0 rfl hl.1 rfl (Nat.le_of_ble_eq_true rfl) ⟨Nat.le_of_ble_eq_true rfl, Nat.le_of_ble_eq_true rfl⟩ rfl dX5_bestTime_11 (fun r_5 u_7 H locs hr_6 hP hD hS hz_7 => ?_)
    obtain rfl := show r_5 = _ from hr_6
    have hP : va_P D vwCl (ws.set 0 (gd 0, zMod gd n nd nj my 1)) H := hP
    have hD : va_D A (ws.set 0 (gd 0, zMod gd n nd nj my 1)) := hD
    refine zb_eq (tgt := 25) hx hb dX5_bestTime_14 (by decide) (fun c_8 => ?_) (fun c_8 => Bool.noConfusion c_8)
    refine lv_iconst (v := nI (0)) hx hb dX5_bestTime_25 (by decide) ?_
    exact zr_qi (S := va_W) (w1 := fun u => u) (ws.set 0 (gd 0, zMod gd n nd nj my 1)) hx hb hr hlocks (⟨(mKeep_set mKeep_rf (by decide)), _, _, _, _, _, (by rw [hK]; exact (mL_0 hm0 n nd nj my 1))⟩) hP hD hS (rfl) dX5_bestTime_26
  · obtain ⟨hj9, rfl⟩ := ix_some ho
    have hl : lv_has ls 2 [(0, .ref (gd 0)), (1, .int (nI (j9)))] := hl
    refine lv_aload_n hx hb dX5_bestTime_0 rfl (lv_at hl 0 rfl) ?_
    refine lv_aload_n hx hb dX5_bestTime_1 rfl (lv_at hl 0 rfl) ?_
    refine lv_iload_n hx hb dX5_bestTime_2 rfl (lv_at hl 1 rfl) ?_
    refine zk_V_i (n := 1) (As := [.int (nI (j9))]) (rest := [.ref (gd 0)]) hx hb hml hts hown hZ hP (c_X5_isDrive l D cA _ hm0 (by omega) (nI (j9))) gX5_bestTime_X5_isDrive rfl rfl ⟨rfl, rfl⟩ ⟨by decide +kernel, Nat.le_of_ble_eq_true rfl, Nat.le_of_ble_eq_true rfl⟩ m0 rfl hl.1 rfl (Nat.le_of_ble_eq_true rfl) ⟨Nat.le_of_ble_eq_true rfl, Nat.le_of_ble_eq_true rfl⟩ rfl dX5_bestTime_3 (fun r_9 hr_10 => ?_)
    obtain rfl := show r_9 = _ from hr_10
    refine zx_val (y := bI (true)) (by rw [ix_in (by omega) hj9]; rfl) ?_
    refine lv_aload_n hx hb dX5_bestTime_6 rfl (lv_at hl 0 rfl) ?_
    refine lv_iload_n hx hb dX5_bestTime_7 rfl (lv_at hl 1 rfl) ?_
    refine zk_V_i (n := 1) (As := [.int (nI (j9))]) (rest := [.int (bI (true)), .ref (gd 0)]) hx hb hml hts hown hZ hP (c_X5_hasTape l D cA _ hm0 hd3 hH8 (nI (j9))) gX5_bestTime_X5_hasTape rfl rfl ⟨rfl, rfl⟩ ⟨by decide +kernel, Nat.le_of_ble_eq_true rfl, Nat.le_of_ble_eq_true rfl⟩ m0 rfl hl.1 rfl (Nat.le_of_ble_eq_true rfl) ⟨Nat.le_of_ble_eq_true rfl, Nat.le_of_ble_eq_true rfl⟩ rfl dX5_bestTime_8 (fun r_11 hr_12 => ?_)
    obtain rfl := show r_11 = _ from hr_12
    refine zx_val (y := bI (false)) (by rw [ix_in (by omega) hj9]; show bI (hd j9).isSome = _; rw [hhn]; rfl) ?_
    refine zw_V_i (n := 2) (mc := 0) (ms := 0) (As := [.int (bI (true)), .int (bI (false))]) (rest := []) (w1 := fun u : Unit => ws.set 0 (gd 0, zMod gd n nd nj my 2)) hx hb hml hts hown hZ hP hD hS hA (c_X5_mayBoth l D cA _ _ gd n nd nj my th true false (m0)) gX5_bestTime_X5_mayBoth rfl rfl ⟨rfl, rfl⟩ ⟨by decide +kernel, Nat.le_of_ble_eq_true rfl, Nat.le_of_ble_eq_true rfl⟩ m0 rfl hl.1 rfl (Nat.le_of_ble_eq_true rfl) ⟨Nat.le_of_ble_eq_true rfl, Nat.le_of_ble_eq_true rfl⟩ rfl dX5_bestTime_11 (fun r_13 u_15 H locs hr_14 hP hD hS hz_15 => ?_)
    obtain rfl := show r_13 = _ from hr_14
    have hP : va_P D vwCl (ws.set 0 (gd 0, zMod gd n nd nj my 2)) H := hP
    have hD : va_D A (ws.set 0 (gd 0, zMod gd n nd nj my 2)) := hD
    refine zb_eq (tgt := 25) hx hb dX5_bestTime_14 (by decide) (fun c_16 => ?_) (fun c_16 => Bool.noConfusion c_16)
    refine lv_iconst (v := nI (0)) hx hb dX5_bestTime_25 (by decide) ?_
    exact zr_qi (S := va_W) (w1 := fun u => u) (ws.set 0 (gd 0, zMod gd n nd nj my 2)) hx hb hr hlocks (⟨(mKeep_set mKeep_rf (by decide)), _, _, _, _, _, (by rw [hK]; exact (mL_0 hm0 n nd nj my 2))⟩) hP hD hS (rfl) dX5_bestTime_26

set_option maxHeartbeats 4000000 in
set_option maxRecDepth 100000 in
theorem c_X5_bestJob_ok (l : Launch) (D : va_G) (cA : Nat → ClassId) (sz : Nat) (ws : va_W) {gd : Nat → Nat} {n : Nat} {tr : Nat → Nat} {le : Nat → Nat} {sl : Nat → Nat} {mo : Nat → Option Nat} {la : Nat → Bool} {fc : Nat → Nat} {sf : Nat → Int32} {bf : Nat → Int32} {nd : Nat} {mk : Nat → Nat} {ck : Nat → Int32} {ct : Nat → Nat} {hd : Nat → Option Nat} {pf : Nat → Int32} {nj : Nat} {jt : Nat → Int32} {jf : Nat → Nat} {dl : Nat → Nat} {fin : Nat → Bool} {my : Nat} {fls : Nat → Int32} {fod : Nat → Int32} {fle : Nat → Int32} {fro : Nat → Int32} {th : Nat} {bo : Nat → Nat → Nat} {pq : Nat → Int32} {fw : Nat → Int32} {dn : Nat} (hm : mL cA ws gd n tr le sl mo la fc sf bf nd mk ck ct hd pf nj jt jf dl fin my fls fod fle fro th) (hI : zI n tr le sl mo fc bo nd mk ct hd pq nj fw jf dl) (hM : mI n la fc bo nd ck ct hd pq pf nj fw jt fin sf bf dn) (j9 t9 P9 : Nat) (hj9 : j9 < nd) (hht : hd j9 = some t9) (hpq : pq j9 = nI P9) (hP9 : P9 ≤ tr t9 * le t9) (p9 : Nat) (hp9 : p9 < (wl fw (nI t9) nj).length) : Met l yX5_bestJob wsX5_bestJob ({ frames := 5, cells := 0, slots := 0, locals := 124 }) (va_Pc [.ref (gd 0), .int (nI (j9)), .int (nI (p9))] (zM D cA (ws) sz)) (va_Qi (fun (r : Int32) (u : va_W) => r = nI ((wl fw (nI t9) nj).getD ((BO (LG mk tr le bo jf j9 t9 P9 (wl fw (nI t9) nj)) (wl fw (nI t9) nj).length (np 0) 7).getD p9 0) 0) ∧ mKeep ws u ∧ ∃ my9 fls9 fod9 fle9 fro9, mL cA u gd n tr le sl mo la fc sf bf nd mk ck ct hd pf nj jt jf dl fin my9 fls9 fod9 fle9 fro9 0) (fun u => zB D (va_A (ws) sz) (u)) (va_A (ws) sz)) 0 0 (va_A (ws) sz) := by
  refine zOpen (cc := cX5_bestJob) (maxL := 3) (ret := (some .int)) (own := RX5) (by decide) rfl rfl (Nat.le_of_ble_eq_true rfl) ?_
  intro p e s m below meth c ls hx hb hr hml hts hown hlocks hnm ⟨hZ, hP, hD0, hsz⟩ hl
  subst hsz
  have hD := hD0.self (sz := s.heap.size)
  generalize hAe : va_A (ws) s.heap.size = A at hD ⊢
  have hA : ∀ q : Nat, s.heap.size ≤ q → A q := fun q h => by rw [← hAe]; exact Or.inr h
  have hS : va_S A s.heap s.heap [] := va_S.rf
  have iX5 : ∀ w ∈ wsX50, w ∈ wsX5_bestJob := by decide +kernel
  have hl : lv_has ls 3 [(0, .ref (gd 0)), (1, .int (nI (j9))), (2, .int (nI (p9)))] := hl
  have hm0 := hm
  have hI0 := hI
  have hM0 := hM
  obtain ⟨hn8, hd3, hj60, hIT, hID, hIJ, hIdl, hIw⟩ := hI
  obtain ⟨hM1, hM2, hM3, hM4, hM5, hM6, hM7⟩ := hM
  obtain ⟨m0, m1, m2, m3, m4, m5, m6, m7, m8, m9, m10, m11, m12, m13, m14, m15, m16, m17, m18, m19, m20, m21⟩ := hm
  have hfc10 : ∀ i, i < n → fc i ≤ 10 := fun i hi => (hIT i hi).2.2.2.2.2.2.1
  have hsl12 : ∀ i, i < n → sl i < 12 := fun i hi => (hIT i hi).2.2.2.2.1
  have hH8 : ∀ j, j < nd → ∀ t, hd j = some t → t < 8 := fun j hj t h => by have := ((hID j hj).2.2.2 t h).1; omega
  have hmo3 : ∀ i, i < n → ∀ j, mo i = some j → j < nd := fun i hi j h => ((hIT i hi).2.2.2.2.2.1 j h).1
  have hfw : ∀ k, k < nj → fw k = if fin k then -1 else jt k := fun k hk => (hM5 k hk).1
  obtain ⟨hmk, hct, -, hps⟩ := hID j9 hj9
  obtain ⟨htn, hmoj, -⟩ := hps t9 hht
  have hpf : pf j9 = nI P9 := (hM4 j9 t9 hj9 hht).trans hpq
  obtain ⟨htr1, htr8, hle4, hle200, -⟩ := hIT t9 htn
  have htr : 1 ≤ tr t9 ∧ tr t9 ≤ 8 := ⟨htr1, htr8⟩
  have hle : 4 ≤ le t9 ∧ le t9 ≤ 200 := ⟨hle4, hle200⟩
  have hj3 : j9 < 3 := by omega
  have ht8 : t9 < 8 := by omega
  have hfw : ∀ k, k < nj → fw k = if fin k then -1 else jt k := fun k hk => (hM5 k hk).1
  have hw7 := hIw t9 htn
  have hJ := mJ_of hI0 hM0 htn fls
  have hLGb : ∀ a b, (LG mk tr le bo jf j9 t9 P9 (wl fw (nI t9) nj)) a b ≤ 100000 := fun a b => LG_of hI0 htn j9 P9 a b
  have hBT : ∀ p a, BT (LG mk tr le bo jf j9 t9 P9 (wl fw (nI t9) nj)) (wl fw (nI t9) nj).length p a ≤ 700000 := fun p a => Nat.le_trans (BT_le (fun a b _ => hLGb a b) p a) (by omega)
  refine lv_aload_n hx hb dX5_bestJob_0 rfl (lv_at hl 0 rfl) ?_
  refine lv_aload_n hx hb dX5_bestJob_1 rfl (lv_at hl 0 rfl) ?_
  refine lv_iload_n hx hb dX5_bestJob_2 rfl (lv_at hl 1 rfl) ?_
  refine zk_V_i (n := 1) (As := [.int (nI (j9))]) (rest := [.ref (gd 0)]) hx hb hml hts hown hZ hP (c_X5_isDrive l D cA _ hm0 (by omega) (nI (j9))) gX5_bestJob_X5_isDrive rfl rfl ⟨rfl, rfl⟩ ⟨by decide +kernel, Nat.le_of_ble_eq_true rfl, Nat.le_of_ble_eq_true rfl⟩ m0 rfl hl.1 rfl (Nat.le_of_ble_eq_true rfl) ⟨Nat.le_of_ble_eq_true rfl, Nat.le_of_ble_eq_true rfl⟩ rfl dX5_bestJob_3 (fun r_1 hr_2 => ?_)
  obtain rfl := show r_1 = _ from hr_2
  refine zx_val (y := bI (true)) (by rw [ix_in (by omega) hj9]; rfl) ?_
  refine lv_aload_n hx hb dX5_bestJob_6 rfl (lv_at hl 0 rfl) ?_
  refine lv_iload_n hx hb dX5_bestJob_7 rfl (lv_at hl 1 rfl) ?_
  refine zk_V_i (n := 1) (As := [.int (nI (j9))]) (rest := [.int (bI (true)), .ref (gd 0)]) hx hb hml hts hown hZ hP (c_X5_hasTape l D cA _ hm0 hd3 hH8 (nI (j9))) gX5_bestJob_X5_hasTape rfl rfl ⟨rfl, rfl⟩ ⟨by decide +kernel, Nat.le_of_ble_eq_true rfl, Nat.le_of_ble_eq_true rfl⟩ m0 rfl hl.1 rfl (Nat.le_of_ble_eq_true rfl) ⟨Nat.le_of_ble_eq_true rfl, Nat.le_of_ble_eq_true rfl⟩ rfl dX5_bestJob_8 (fun r_3 hr_4 => ?_)
  obtain rfl := show r_3 = _ from hr_4
  refine zx_val (y := bI (true)) (by rw [ix_in (by omega) hj9]; show bI (hd j9).isSome = _; rw [hht]; rfl) ?_
  refine zw_V_i (n := 2) (mc := 0) (ms := 0) (As := [.int (bI (true)), .int (bI (true))]) (rest := []) (w1 := fun u : Unit => ws.set 0 (gd 0, zMod gd n nd nj my 0)) hx hb hml hts hown hZ hP hD hS hA (c_X5_mayBoth l D cA _ _ gd n nd nj my th true true (m0)) gX5_bestJob_X5_mayBoth rfl rfl ⟨rfl, rfl⟩ ⟨by decide +kernel, Nat.le_of_ble_eq_true rfl, Nat.le_of_ble_eq_true rfl⟩ m0 rfl hl.1 rfl (Nat.le_of_ble_eq_true rfl) ⟨Nat.le_of_ble_eq_true rfl, Nat.le_of_ble_eq_true rfl⟩ rfl dX5_bestJob_11 (fun r_5 u_7 H locs hr_6 hP hD hS hz_7 => ?_)
  obtain rfl := show r_5 = _ from hr_6
  have hP : va_P D vwCl (ws.set 0 (gd 0, zMod gd n nd nj my 0)) H := hP
  have hD : va_D A (ws.set 0 (gd 0, zMod gd n nd nj my 0)) := hD
  refine zb_ne (tgt := 19) hx hb dX5_bestJob_14 (by decide) (fun c_8 => ?_) (fun c_8 => Bool.noConfusion c_8)
  refine lv_aload_n hx hb dX5_bestJob_19 rfl (lv_at hl 0 rfl) ?_
  refine lv_iload_n hx hb dX5_bestJob_20 rfl (lv_at hl 1 rfl) ?_
  refine zw_V_i (n := 1) (mc := 0) (ms := 0) (As := [.int (nI (j9))]) (rest := []) (w1 := fun u : va_W × (Nat → Int32) => u.1) hx hb hml hts hown hZ hP hD hS hA (c_X5_arrange l D cA _ _ ((mL_0 hm0 n nd nj my 0)) hI0 hM0 j9 t9 P9 hj9 hht hpq hP9) gX5_bestJob_X5_arrange rfl rfl ⟨rfl, rfl⟩ ⟨by decide +kernel, Nat.le_of_ble_eq_true rfl, Nat.le_of_ble_eq_true rfl⟩ (zset_s m0) rfl hl.1 rfl (Nat.le_of_ble_eq_true rfl) ⟨Nat.le_of_ble_eq_true rfl, Nat.le_of_ble_eq_true rfl⟩ rfl dX5_bestJob_21 (fun r_9 u_11 H locs hr_10 hP hD hS hz_11 => ?_)
  have hP : va_P D vwCl (u_11.1) H := hP
  have hD : va_D A (u_11.1) := hD
  obtain ⟨w_12, x_13⟩ := u_11
  obtain ⟨rfl, hkp_13, hm_13⟩ := hr_10
  obtain ⟨m0_13, m1_13, m2_13, m3_13, m4_13, m5_13, m6_13, m7_13, m8_13, m9_13, m10_13, m11_13, m12_13, m13_13, m14_13, m15_13, m16_13, m17_13, m18_13, m19_13, m20_13, m21_13⟩ := id hm_13
  have hP : va_P D vwCl (w_12) H := hP
  have hD : va_D A (w_12) := hD
  refine lv_pop hx hb dX5_bestJob_24 rfl ?_
  refine lv_aload_n hx hb dX5_bestJob_25 rfl (lv_at hl 0 rfl) ?_
  refine lv_iload_n hx hb dX5_bestJob_26 rfl (lv_at hl 2 rfl) ?_
  refine lv_iconst (v := nI (0)) hx hb dX5_bestJob_27 (by decide) ?_
  refine lv_aload_n hx hb dX5_bestJob_28 rfl (lv_at hl 0 rfl) ?_
  refine va_get (D := D) (ci := 5) (v := .int (nI ((wl fw (nI t9) nj).length))) (C := RX5) (T := TX5) (N := 26) hx hb hts iX5 hown hZ.1 hP 0 m0_13 rfl 20 (by decide) (hts (.fieldLink RX5 164 "TapeRoboticsModel" "many" "I") (by decide +kernel)) (fun _ h9 => h9) rfl dX5_bestJob_29 ?_
  refine lv_iconst (v := nI (1)) hx hb dX5_bestJob_32 (by decide) ?_
  refine lv_isub hx hb dX5_bestJob_33 ?_
  refine zx_val (y := nI ((wl fw (nI t9) nj).length) - nI 1) (rfl) ?_
  refine zk_S_i (n := 3) (As := [.int (nI (p9)), .int (nI (0)), .int (nI ((wl fw (nI t9) nj).length) - nI 1)]) (rest := [.ref (gd 0)]) hx hb hml hts hown hZ hP (c_X5_isIn l D cA _ (nI (p9)) (nI (0)) (nI ((wl fw (nI t9) nj).length) - nI 1)) gX5_bestJob_X5_isIn rfl ⟨rfl, rfl⟩ ⟨by decide +kernel, Nat.le_of_ble_eq_true rfl, Nat.le_of_ble_eq_true rfl⟩ hl.1 rfl (Nat.le_of_ble_eq_true rfl) ⟨Nat.le_of_ble_eq_true rfl, Nat.le_of_ble_eq_true rfl⟩ rfl dX5_bestJob_34 (fun r_14 hr_15 => ?_)
  obtain rfl := show r_14 = _ from hr_15
  refine zx_val (y := bI (true)) (by rw [show (decide (nI (0) ≤ nI (p9)) && decide (nI (p9) ≤ nI ((wl fw (nI t9) nj).length) - nI 1)) = _ from isin_ix (by omega)]; rw [ix_in (by omega) hp9]; rfl) ?_
  refine zw_V_i (n := 1) (mc := 0) (ms := 0) (As := [.int (bI (true))]) (rest := []) (w1 := fun u : Unit => w_12.set 0 (gd 0, zMod gd n nd nj ((wl fw (nI t9) nj).length) 0)) hx hb hml hts hown hZ hP hD hS hA (c_X5_may l D cA _ _ gd n nd nj ((wl fw (nI t9) nj).length) 0 true (m0_13)) gX5_bestJob_X5_may rfl rfl ⟨rfl, rfl⟩ ⟨by decide +kernel, Nat.le_of_ble_eq_true rfl, Nat.le_of_ble_eq_true rfl⟩ m0_13 rfl hl.1 rfl (Nat.le_of_ble_eq_true rfl) ⟨Nat.le_of_ble_eq_true rfl, Nat.le_of_ble_eq_true rfl⟩ rfl dX5_bestJob_37 (fun r_16 u_18 H locs hr_17 hP hD hS hz_18 => ?_)
  obtain rfl := show r_16 = _ from hr_17
  have hP : va_P D vwCl (w_12.set 0 (gd 0, zMod gd n nd nj ((wl fw (nI t9) nj).length) 0)) H := hP
  have hD : va_D A (w_12.set 0 (gd 0, zMod gd n nd nj ((wl fw (nI t9) nj).length) 0)) := hD
  refine zb_eq (tgt := 57) hx hb dX5_bestJob_40 (by decide) (fun c_19 => Bool.noConfusion c_19) (fun c_19 => ?_)
  have hq9 : (BO (LG mk tr le bo jf j9 t9 P9 (wl fw (nI t9) nj)) (wl fw (nI t9) nj).length (np 0) 7).getD p9 0 < (wl fw (nI t9) nj).length := (BO_mem (getD_mem (by rw [BO_length, np_0, cnt_all]; exact hp9))).1
  refine lv_aload_n hx hb dX5_bestJob_43 rfl (lv_at hl 0 rfl) ?_
  refine va_get (D := D) (ci := 5) (v := .ref (gd 18)) (C := RX5) (T := TX5) (N := 26) hx hb hts iX5 hown hZ.1 hP 0 (zset_s m0_13) rfl 21 (by decide) (hts (.fieldLink RX5 62 "TapeRoboticsModel" "list" "[I") (by decide +kernel)) (fun _ h9 => h9) rfl dX5_bestJob_44 ?_
  refine lv_aload_n hx hb dX5_bestJob_47 rfl (lv_at hl 0 rfl) ?_
  refine va_get (D := D) (ci := 5) (v := .ref (gd 19)) (C := RX5) (T := TX5) (N := 26) hx hb hts iX5 hown hZ.1 hP 0 (zset_s m0_13) rfl 22 (by decide) (hts (.fieldLink RX5 65 "TapeRoboticsModel" "order" "[I") (by decide +kernel)) (fun _ h9 => h9) rfl dX5_bestJob_48 ?_
  refine lv_iload_n hx hb dX5_bestJob_51 rfl (lv_at hl 2 rfl) ?_
  refine va_iald hx hb hZ.1 hP 19 0 (zset_n m19_13 (by decide)) rfl (vp_in_nI (show p9 < 7 by omega) (by omega)) dX5_bestJob_52 ?_
  rw [nI_clamp (show p9 < 2 ^ 31 by omega)]
  refine zx_val (y := nI ((BO (LG mk tr le bo jf j9 t9 P9 (wl fw (nI t9) nj)) (wl fw (nI t9) nj).length (np 0) 7).getD p9 0)) (colF_in (by rw [BO_length, np_0, cnt_all]; exact hp9)) ?_
  refine va_iald hx hb hZ.1 hP 18 0 (zset_n m18_13 (by decide)) rfl (vp_in_nI (show (BO (LG mk tr le bo jf j9 t9 P9 (wl fw (nI t9) nj)) (wl fw (nI t9) nj).length (np 0) 7).getD p9 0 < 7 by omega) (by omega)) dX5_bestJob_53 ?_
  rw [nI_clamp (show (BO (LG mk tr le bo jf j9 t9 P9 (wl fw (nI t9) nj)) (wl fw (nI t9) nj).length (np 0) 7).getD p9 0 < 2 ^ 31 by omega)]
  refine zx_val (y := nI ((wl fw (nI t9) nj).getD ((BO (LG mk tr le bo jf j9 t9 P9 (wl fw (nI t9) nj)) (wl fw (nI t9) nj).length (np 0) 7).getD p9 0) 0)) (colF_in hq9) ?_
  refine lv_goto (tgt := 58) hx hb dX5_bestJob_54 (by decide) ?_
  exact zr_qi (S := va_W) (w1 := fun u => u) (w_12.set 0 (gd 0, zMod gd n nd nj ((wl fw (nI t9) nj).length) 0)) hx hb hr hlocks (⟨rfl, (mKeep_set (mKeep_tr (mKeep_set mKeep_rf (by decide)) hkp_13) (by decide)), _, _, _, _, _, (mL_0 hm_13 n nd nj ((wl fw (nI t9) nj).length) 0)⟩) hP hD hS (rfl) dX5_bestJob_58

set_option maxHeartbeats 4000000 in
set_option maxRecDepth 100000 in
theorem c_X5_bestJob_no (l : Launch) (D : va_G) (cA : Nat → ClassId) (sz : Nat) (ws : va_W) {gd : Nat → Nat} {n : Nat} {tr : Nat → Nat} {le : Nat → Nat} {sl : Nat → Nat} {mo : Nat → Option Nat} {la : Nat → Bool} {fc : Nat → Nat} {sf : Nat → Int32} {bf : Nat → Int32} {nd : Nat} {mk : Nat → Nat} {ck : Nat → Int32} {ct : Nat → Nat} {hd : Nat → Option Nat} {pf : Nat → Int32} {nj : Nat} {jt : Nat → Int32} {jf : Nat → Nat} {dl : Nat → Nat} {fin : Nat → Bool} {my : Nat} {fls : Nat → Int32} {fod : Nat → Int32} {fle : Nat → Int32} {fro : Nat → Int32} {th : Nat} {bo : Nat → Nat → Nat} {pq : Nat → Int32} {fw : Nat → Int32} {dn : Nat} (hm : mL cA ws gd n tr le sl mo la fc sf bf nd mk ck ct hd pf nj jt jf dl fin my fls fod fle fro th) (hI : zI n tr le sl mo fc bo nd mk ct hd pq nj fw jf dl) (hM : mI n la fc bo nd ck ct hd pq pf nj fw jt fin sf bf dn) (v0 : Int32) (v1 : Int32) (h0 : (kR (ix v0 nd) hd (fun t => ix v1 (wl fw (nI t) nj).length) (fun _ => true)) ≠ 0) : Met l yX5_bestJob wsX5_bestJob ({ frames := 5, cells := 0, slots := 0, locals := 124 }) (va_Pc [.ref (gd 0), .int (v0), .int (v1)] (zM D cA (ws) sz)) (va_Qi (fun (r : Int32) (u : va_W) => mKeep ws u ∧ ∃ my9 fls9 fod9 fle9 fro9, mL cA u gd n tr le sl mo la fc sf bf nd mk ck ct hd pf nj jt jf dl fin my9 fls9 fod9 fle9 fro9 (kR (ix v0 nd) hd (fun t => ix v1 (wl fw (nI t) nj).length) (fun _ => true))) (fun u => zB D (va_A (ws) sz) (u)) (va_A (ws) sz)) 0 0 (va_A (ws) sz) := by
  refine zOpen (cc := cX5_bestJob) (maxL := 3) (ret := (some .int)) (own := RX5) (by decide) rfl rfl (Nat.le_of_ble_eq_true rfl) ?_
  intro p e s m below meth c ls hx hb hr hml hts hown hlocks hnm ⟨hZ, hP, hD0, hsz⟩ hl
  subst hsz
  have hD := hD0.self (sz := s.heap.size)
  generalize hAe : va_A (ws) s.heap.size = A at hD ⊢
  have hA : ∀ q : Nat, s.heap.size ≤ q → A q := fun q h => by rw [← hAe]; exact Or.inr h
  have hS : va_S A s.heap s.heap [] := va_S.rf
  have iX5 : ∀ w ∈ wsX50, w ∈ wsX5_bestJob := by decide +kernel
  have hl : lv_has ls 3 [(0, .ref (gd 0)), (1, .int (v0)), (2, .int (v1))] := hl
  have hm0 := hm
  have hI0 := hI
  have hM0 := hM
  obtain ⟨hn8, hd3, hj60, hIT, hID, hIJ, hIdl, hIw⟩ := hI
  obtain ⟨hM1, hM2, hM3, hM4, hM5, hM6, hM7⟩ := hM
  obtain ⟨m0, m1, m2, m3, m4, m5, m6, m7, m8, m9, m10, m11, m12, m13, m14, m15, m16, m17, m18, m19, m20, m21⟩ := hm
  have hfc10 : ∀ i, i < n → fc i ≤ 10 := fun i hi => (hIT i hi).2.2.2.2.2.2.1
  have hsl12 : ∀ i, i < n → sl i < 12 := fun i hi => (hIT i hi).2.2.2.2.1
  have hH8 : ∀ j, j < nd → ∀ t, hd j = some t → t < 8 := fun j hj t h => by have := ((hID j hj).2.2.2 t h).1; omega
  have hmo3 : ∀ i, i < n → ∀ j, mo i = some j → j < nd := fun i hi j h => ((hIT i hi).2.2.2.2.2.1 j h).1
  have hfw : ∀ k, k < nj → fw k = if fin k then -1 else jt k := fun k hk => (hM5 k hk).1
  rcases kRq_no h0 with ⟨ho, hK⟩ | ⟨j9, ho, hhn, hK⟩ | ⟨j9, t9, ho, hht, hq, hK⟩
  · refine lv_aload_n hx hb dX5_bestJob_0 rfl (lv_at hl 0 rfl) ?_
    refine lv_aload_n hx hb dX5_bestJob_1 rfl (lv_at hl 0 rfl) ?_
    refine lv_iload_n hx hb dX5_bestJob_2 rfl (lv_at hl 1 rfl) ?_
    refine zk_V_i (n := 1) (As := [.int (v0)]) (rest := [.ref (gd 0)]) hx hb hml hts hown hZ hP (c_X5_isDrive l D cA _ hm0 (by omega) v0) gX5_bestJob_X5_isDrive rfl rfl ⟨rfl, rfl⟩ ⟨by decide +kernel, Nat.le_of_ble_eq_true rfl, Nat.le_of_ble_eq_true rfl⟩ m0 rfl hl.1 rfl (Nat.le_of_ble_eq_true rfl) ⟨Nat.le_of_ble_eq_true rfl, Nat.le_of_ble_eq_true rfl⟩ rfl dX5_bestJob_3 (fun r_1 hr_2 => ?_)
    obtain rfl := show r_1 = _ from hr_2
    refine zx_val (y := bI (false)) (by rw [ho]; rfl) ?_
    refine lv_aload_n hx hb dX5_bestJob_6 rfl (lv_at hl 0 rfl) ?_
    refine lv_iload_n hx hb dX5_bestJob_7 rfl (lv_at hl 1 rfl) ?_
    refine zk_V_i (n := 1) (As := [.int (v0)]) (rest := [.int (bI (false)), .ref (gd 0)]) hx hb hml hts hown hZ hP (c_X5_hasTape l D cA _ hm0 hd3 hH8 v0) gX5_bestJob_X5_hasTape rfl rfl ⟨rfl, rfl⟩ ⟨by decide +kernel, Nat.le_of_ble_eq_true rfl, Nat.le_of_ble_eq_true rfl⟩ m0 rfl hl.1 rfl (Nat.le_of_ble_eq_true rfl) ⟨Nat.le_of_ble_eq_true rfl, Nat.le_of_ble_eq_true rfl⟩ rfl dX5_bestJob_8 (fun r_3 hr_4 => ?_)
    obtain rfl := show r_3 = _ from hr_4
    refine zx_val (y := bI (false)) (by rw [ho]; rfl) ?_
    refine zw_V_i (n := 2) (mc := 0) (ms := 0) (As := [.int (bI (false)), .int (bI (false))]) (rest := []) (w1 := fun u : Unit => ws.set 0 (gd 0, zMod gd n nd nj my 1)) hx hb hml hts hown hZ hP hD hS hA (c_X5_mayBoth l D cA _ _ gd n nd nj my th false false (m0)) gX5_bestJob_X5_mayBoth rfl rfl ⟨rfl, rfl⟩ ⟨by decide +kernel, Nat.le_of_ble_eq_true rfl, Nat.le_of_ble_eq_true rfl⟩ m0 rfl hl.1 rfl (Nat.le_of_ble_eq_true rfl) ⟨Nat.le_of_ble_eq_true rfl, Nat.le_of_ble_eq_true rfl⟩ rfl dX5_bestJob_11 (fun r_5 u_7 H locs hr_6 hP hD hS hz_7 => ?_)
    obtain rfl := show r_5 = _ from hr_6
    have hP : va_P D vwCl (ws.set 0 (gd 0, zMod gd n nd nj my 1)) H := hP
    have hD : va_D A (ws.set 0 (gd 0, zMod gd n nd nj my 1)) := hD
    refine zb_ne (tgt := 19) hx hb dX5_bestJob_14 (by decide) (fun c_8 => Bool.noConfusion c_8) (fun c_8 => ?_)
    refine lv_iconst (v := nI (0)) hx hb dX5_bestJob_17 (by decide) ?_
    exact zr_qi (S := va_W) (w1 := fun u => u) (ws.set 0 (gd 0, zMod gd n nd nj my 1)) hx hb hr hlocks (⟨(mKeep_set mKeep_rf (by decide)), _, _, _, _, _, (by rw [hK]; exact (mL_0 hm0 n nd nj my 1))⟩) hP hD hS (rfl) dX5_bestJob_18
  · obtain ⟨hj9, rfl⟩ := ix_some ho
    have hl : lv_has ls 3 [(0, .ref (gd 0)), (1, .int (nI (j9))), (2, .int (v1))] := hl
    refine lv_aload_n hx hb dX5_bestJob_0 rfl (lv_at hl 0 rfl) ?_
    refine lv_aload_n hx hb dX5_bestJob_1 rfl (lv_at hl 0 rfl) ?_
    refine lv_iload_n hx hb dX5_bestJob_2 rfl (lv_at hl 1 rfl) ?_
    refine zk_V_i (n := 1) (As := [.int (nI (j9))]) (rest := [.ref (gd 0)]) hx hb hml hts hown hZ hP (c_X5_isDrive l D cA _ hm0 (by omega) (nI (j9))) gX5_bestJob_X5_isDrive rfl rfl ⟨rfl, rfl⟩ ⟨by decide +kernel, Nat.le_of_ble_eq_true rfl, Nat.le_of_ble_eq_true rfl⟩ m0 rfl hl.1 rfl (Nat.le_of_ble_eq_true rfl) ⟨Nat.le_of_ble_eq_true rfl, Nat.le_of_ble_eq_true rfl⟩ rfl dX5_bestJob_3 (fun r_9 hr_10 => ?_)
    obtain rfl := show r_9 = _ from hr_10
    refine zx_val (y := bI (true)) (by rw [ix_in (by omega) hj9]; rfl) ?_
    refine lv_aload_n hx hb dX5_bestJob_6 rfl (lv_at hl 0 rfl) ?_
    refine lv_iload_n hx hb dX5_bestJob_7 rfl (lv_at hl 1 rfl) ?_
    refine zk_V_i (n := 1) (As := [.int (nI (j9))]) (rest := [.int (bI (true)), .ref (gd 0)]) hx hb hml hts hown hZ hP (c_X5_hasTape l D cA _ hm0 hd3 hH8 (nI (j9))) gX5_bestJob_X5_hasTape rfl rfl ⟨rfl, rfl⟩ ⟨by decide +kernel, Nat.le_of_ble_eq_true rfl, Nat.le_of_ble_eq_true rfl⟩ m0 rfl hl.1 rfl (Nat.le_of_ble_eq_true rfl) ⟨Nat.le_of_ble_eq_true rfl, Nat.le_of_ble_eq_true rfl⟩ rfl dX5_bestJob_8 (fun r_11 hr_12 => ?_)
    obtain rfl := show r_11 = _ from hr_12
    refine zx_val (y := bI (false)) (by rw [ix_in (by omega) hj9]; show bI (hd j9).isSome = _; rw [hhn]; rfl) ?_
    refine zw_V_i (n := 2) (mc := 0) (ms := 0) (As := [.int (bI (true)), .int (bI (false))]) (rest := []) (w1 := fun u : Unit => ws.set 0 (gd 0, zMod gd n nd nj my 2)) hx hb hml hts hown hZ hP hD hS hA (c_X5_mayBoth l D cA _ _ gd n nd nj my th true false (m0)) gX5_bestJob_X5_mayBoth rfl rfl ⟨rfl, rfl⟩ ⟨by decide +kernel, Nat.le_of_ble_eq_true rfl, Nat.le_of_ble_eq_true rfl⟩ m0 rfl hl.1 rfl (Nat.le_of_ble_eq_true rfl) ⟨Nat.le_of_ble_eq_true rfl, Nat.le_of_ble_eq_true rfl⟩ rfl dX5_bestJob_11 (fun r_13 u_15 H locs hr_14 hP hD hS hz_15 => ?_)
    obtain rfl := show r_13 = _ from hr_14
    have hP : va_P D vwCl (ws.set 0 (gd 0, zMod gd n nd nj my 2)) H := hP
    have hD : va_D A (ws.set 0 (gd 0, zMod gd n nd nj my 2)) := hD
    refine zb_ne (tgt := 19) hx hb dX5_bestJob_14 (by decide) (fun c_16 => Bool.noConfusion c_16) (fun c_16 => ?_)
    refine lv_iconst (v := nI (0)) hx hb dX5_bestJob_17 (by decide) ?_
    exact zr_qi (S := va_W) (w1 := fun u => u) (ws.set 0 (gd 0, zMod gd n nd nj my 2)) hx hb hr hlocks (⟨(mKeep_set mKeep_rf (by decide)), _, _, _, _, _, (by rw [hK]; exact (mL_0 hm0 n nd nj my 2))⟩) hP hD hS (rfl) dX5_bestJob_18
  · obtain ⟨hj9, rfl⟩ := ix_some ho
    obtain ⟨P9, hpq, hP9⟩ : ∃ q, pq j9 = nI q ∧ q ≤ tr t9 * le t9 := ((hID j9 hj9).2.2.2 t9 hht).2.2
    obtain ⟨hmk, hct, -, hps⟩ := hID j9 hj9
    obtain ⟨htn, hmoj, -⟩ := hps t9 hht
    have hpf : pf j9 = nI P9 := (hM4 j9 t9 hj9 hht).trans hpq
    obtain ⟨htr1, htr8, hle4, hle200, -⟩ := hIT t9 htn
    have htr : 1 ≤ tr t9 ∧ tr t9 ≤ 8 := ⟨htr1, htr8⟩
    have hle : 4 ≤ le t9 ∧ le t9 ≤ 200 := ⟨hle4, hle200⟩
    have hj3 : j9 < 3 := by omega
    have ht8 : t9 < 8 := by omega
    have hfw : ∀ k, k < nj → fw k = if fin k then -1 else jt k := fun k hk => (hM5 k hk).1
    have hw7 := hIw t9 htn
    have hJ := mJ_of hI0 hM0 htn fls
    have hLGb : ∀ a b, (LG mk tr le bo jf j9 t9 P9 (wl fw (nI t9) nj)) a b ≤ 100000 := fun a b => LG_of hI0 htn j9 P9 a b
    have hBT : ∀ p a, BT (LG mk tr le bo jf j9 t9 P9 (wl fw (nI t9) nj)) (wl fw (nI t9) nj).length p a ≤ 700000 := fun p a => Nat.le_trans (BT_le (fun a b _ => hLGb a b) p a) (by omega)
    have hl : lv_has ls 3 [(0, .ref (gd 0)), (1, .int (nI (j9))), (2, .int (v1))] := hl
    refine lv_aload_n hx hb dX5_bestJob_0 rfl (lv_at hl 0 rfl) ?_
    refine lv_aload_n hx hb dX5_bestJob_1 rfl (lv_at hl 0 rfl) ?_
    refine lv_iload_n hx hb dX5_bestJob_2 rfl (lv_at hl 1 rfl) ?_
    refine zk_V_i (n := 1) (As := [.int (nI (j9))]) (rest := [.ref (gd 0)]) hx hb hml hts hown hZ hP (c_X5_isDrive l D cA _ hm0 (by omega) (nI (j9))) gX5_bestJob_X5_isDrive rfl rfl ⟨rfl, rfl⟩ ⟨by decide +kernel, Nat.le_of_ble_eq_true rfl, Nat.le_of_ble_eq_true rfl⟩ m0 rfl hl.1 rfl (Nat.le_of_ble_eq_true rfl) ⟨Nat.le_of_ble_eq_true rfl, Nat.le_of_ble_eq_true rfl⟩ rfl dX5_bestJob_3 (fun r_17 hr_18 => ?_)
    obtain rfl := show r_17 = _ from hr_18
    refine zx_val (y := bI (true)) (by rw [ix_in (by omega) hj9]; rfl) ?_
    refine lv_aload_n hx hb dX5_bestJob_6 rfl (lv_at hl 0 rfl) ?_
    refine lv_iload_n hx hb dX5_bestJob_7 rfl (lv_at hl 1 rfl) ?_
    refine zk_V_i (n := 1) (As := [.int (nI (j9))]) (rest := [.int (bI (true)), .ref (gd 0)]) hx hb hml hts hown hZ hP (c_X5_hasTape l D cA _ hm0 hd3 hH8 (nI (j9))) gX5_bestJob_X5_hasTape rfl rfl ⟨rfl, rfl⟩ ⟨by decide +kernel, Nat.le_of_ble_eq_true rfl, Nat.le_of_ble_eq_true rfl⟩ m0 rfl hl.1 rfl (Nat.le_of_ble_eq_true rfl) ⟨Nat.le_of_ble_eq_true rfl, Nat.le_of_ble_eq_true rfl⟩ rfl dX5_bestJob_8 (fun r_19 hr_20 => ?_)
    obtain rfl := show r_19 = _ from hr_20
    refine zx_val (y := bI (true)) (by rw [ix_in (by omega) hj9]; show bI (hd j9).isSome = _; rw [hht]; rfl) ?_
    refine zw_V_i (n := 2) (mc := 0) (ms := 0) (As := [.int (bI (true)), .int (bI (true))]) (rest := []) (w1 := fun u : Unit => ws.set 0 (gd 0, zMod gd n nd nj my 0)) hx hb hml hts hown hZ hP hD hS hA (c_X5_mayBoth l D cA _ _ gd n nd nj my th true true (m0)) gX5_bestJob_X5_mayBoth rfl rfl ⟨rfl, rfl⟩ ⟨by decide +kernel, Nat.le_of_ble_eq_true rfl, Nat.le_of_ble_eq_true rfl⟩ m0 rfl hl.1 rfl (Nat.le_of_ble_eq_true rfl) ⟨Nat.le_of_ble_eq_true rfl, Nat.le_of_ble_eq_true rfl⟩ rfl dX5_bestJob_11 (fun r_21 u_23 H locs hr_22 hP hD hS hz_23 => ?_)
    obtain rfl := show r_21 = _ from hr_22
    have hP : va_P D vwCl (ws.set 0 (gd 0, zMod gd n nd nj my 0)) H := hP
    have hD : va_D A (ws.set 0 (gd 0, zMod gd n nd nj my 0)) := hD
    refine zb_ne (tgt := 19) hx hb dX5_bestJob_14 (by decide) (fun c_24 => ?_) (fun c_24 => Bool.noConfusion c_24)
    refine lv_aload_n hx hb dX5_bestJob_19 rfl (lv_at hl 0 rfl) ?_
    refine lv_iload_n hx hb dX5_bestJob_20 rfl (lv_at hl 1 rfl) ?_
    refine zw_V_i (n := 1) (mc := 0) (ms := 0) (As := [.int (nI (j9))]) (rest := []) (w1 := fun u : va_W × (Nat → Int32) => u.1) hx hb hml hts hown hZ hP hD hS hA (c_X5_arrange l D cA _ _ ((mL_0 hm0 n nd nj my 0)) hI0 hM0 j9 t9 P9 hj9 hht hpq hP9) gX5_bestJob_X5_arrange rfl rfl ⟨rfl, rfl⟩ ⟨by decide +kernel, Nat.le_of_ble_eq_true rfl, Nat.le_of_ble_eq_true rfl⟩ (zset_s m0) rfl hl.1 rfl (Nat.le_of_ble_eq_true rfl) ⟨Nat.le_of_ble_eq_true rfl, Nat.le_of_ble_eq_true rfl⟩ rfl dX5_bestJob_21 (fun r_25 u_27 H locs hr_26 hP hD hS hz_27 => ?_)
    have hP : va_P D vwCl (u_27.1) H := hP
    have hD : va_D A (u_27.1) := hD
    obtain ⟨w_28, x_29⟩ := u_27
    obtain ⟨rfl, hkp_29, hm_29⟩ := hr_26
    obtain ⟨m0_29, m1_29, m2_29, m3_29, m4_29, m5_29, m6_29, m7_29, m8_29, m9_29, m10_29, m11_29, m12_29, m13_29, m14_29, m15_29, m16_29, m17_29, m18_29, m19_29, m20_29, m21_29⟩ := id hm_29
    have hP : va_P D vwCl (w_28) H := hP
    have hD : va_D A (w_28) := hD
    refine lv_pop hx hb dX5_bestJob_24 rfl ?_
    refine lv_aload_n hx hb dX5_bestJob_25 rfl (lv_at hl 0 rfl) ?_
    refine lv_iload_n hx hb dX5_bestJob_26 rfl (lv_at hl 2 rfl) ?_
    refine lv_iconst (v := nI (0)) hx hb dX5_bestJob_27 (by decide) ?_
    refine lv_aload_n hx hb dX5_bestJob_28 rfl (lv_at hl 0 rfl) ?_
    refine va_get (D := D) (ci := 5) (v := .int (nI ((wl fw (nI t9) nj).length))) (C := RX5) (T := TX5) (N := 26) hx hb hts iX5 hown hZ.1 hP 0 m0_29 rfl 20 (by decide) (hts (.fieldLink RX5 164 "TapeRoboticsModel" "many" "I") (by decide +kernel)) (fun _ h9 => h9) rfl dX5_bestJob_29 ?_
    refine lv_iconst (v := nI (1)) hx hb dX5_bestJob_32 (by decide) ?_
    refine lv_isub hx hb dX5_bestJob_33 ?_
    refine zx_val (y := nI ((wl fw (nI t9) nj).length) - nI 1) (rfl) ?_
    refine zk_S_i (n := 3) (As := [.int (v1), .int (nI (0)), .int (nI ((wl fw (nI t9) nj).length) - nI 1)]) (rest := [.ref (gd 0)]) hx hb hml hts hown hZ hP (c_X5_isIn l D cA _ v1 (nI (0)) (nI ((wl fw (nI t9) nj).length) - nI 1)) gX5_bestJob_X5_isIn rfl ⟨rfl, rfl⟩ ⟨by decide +kernel, Nat.le_of_ble_eq_true rfl, Nat.le_of_ble_eq_true rfl⟩ hl.1 rfl (Nat.le_of_ble_eq_true rfl) ⟨Nat.le_of_ble_eq_true rfl, Nat.le_of_ble_eq_true rfl⟩ rfl dX5_bestJob_34 (fun r_30 hr_31 => ?_)
    obtain rfl := show r_30 = _ from hr_31
    refine zx_val (y := bI (false)) (by rw [show (decide (nI (0) ≤ v1) && decide (v1 ≤ nI ((wl fw (nI t9) nj).length) - nI 1)) = _ from isin_ix (by omega)]; rw [show ix v1 (wl fw (nI t9) nj).length = none from hq]; rfl) ?_
    refine zw_V_i (n := 1) (mc := 0) (ms := 0) (As := [.int (bI (false))]) (rest := []) (w1 := fun u : Unit => w_28.set 0 (gd 0, zMod gd n nd nj ((wl fw (nI t9) nj).length) 1)) hx hb hml hts hown hZ hP hD hS hA (c_X5_may l D cA _ _ gd n nd nj ((wl fw (nI t9) nj).length) 0 false (m0_29)) gX5_bestJob_X5_may rfl rfl ⟨rfl, rfl⟩ ⟨by decide +kernel, Nat.le_of_ble_eq_true rfl, Nat.le_of_ble_eq_true rfl⟩ m0_29 rfl hl.1 rfl (Nat.le_of_ble_eq_true rfl) ⟨Nat.le_of_ble_eq_true rfl, Nat.le_of_ble_eq_true rfl⟩ rfl dX5_bestJob_37 (fun r_32 u_34 H locs hr_33 hP hD hS hz_34 => ?_)
    obtain rfl := show r_32 = _ from hr_33
    have hP : va_P D vwCl (w_28.set 0 (gd 0, zMod gd n nd nj ((wl fw (nI t9) nj).length) 1)) H := hP
    have hD : va_D A (w_28.set 0 (gd 0, zMod gd n nd nj ((wl fw (nI t9) nj).length) 1)) := hD
    refine zb_eq (tgt := 57) hx hb dX5_bestJob_40 (by decide) (fun c_35 => ?_) (fun c_35 => Bool.noConfusion c_35)
    refine lv_iconst (v := nI (0)) hx hb dX5_bestJob_57 (by decide) ?_
    exact zr_qi (S := va_W) (w1 := fun u => u) (w_28.set 0 (gd 0, zMod gd n nd nj ((wl fw (nI t9) nj).length) 1)) hx hb hr hlocks (⟨(mKeep_set (mKeep_tr (mKeep_set mKeep_rf (by decide)) hkp_29) (by decide)), _, _, _, _, _, (by rw [hK]; exact (mL_0 hm_29 n nd nj ((wl fw (nI t9) nj).length) 1))⟩) hP hD hS (rfl) dX5_bestJob_58

set_option maxHeartbeats 4000000 in
set_option maxRecDepth 100000 in
theorem c_X5_insertedTime_ok (l : Launch) (D : va_G) (cA : Nat → ClassId) (sz : Nat) (ws : va_W) {gd : Nat → Nat} {n : Nat} {tr : Nat → Nat} {le : Nat → Nat} {sl : Nat → Nat} {mo : Nat → Option Nat} {la : Nat → Bool} {fc : Nat → Nat} {sf : Nat → Int32} {bf : Nat → Int32} {nd : Nat} {mk : Nat → Nat} {ck : Nat → Int32} {ct : Nat → Nat} {hd : Nat → Option Nat} {pf : Nat → Int32} {nj : Nat} {jt : Nat → Int32} {jf : Nat → Nat} {dl : Nat → Nat} {fin : Nat → Bool} {my : Nat} {fls : Nat → Int32} {fod : Nat → Int32} {fle : Nat → Int32} {fro : Nat → Int32} {th : Nat} {bo : Nat → Nat → Nat} {pq : Nat → Int32} {fw : Nat → Int32} {dn : Nat} (hm : mL cA ws gd n tr le sl mo la fc sf bf nd mk ck ct hd pf nj jt jf dl fin my fls fod fle fro th) (hI : zI n tr le sl mo fc bo nd mk ct hd pq nj fw jf dl) (hM : mI n la fc bo nd ck ct hd pq pf nj fw jt fin sf bf dn) (j9 t9 P9 : Nat) (hj9 : j9 < nd) (hht : hd j9 = some t9) (hpq : pq j9 = nI P9) (hP9 : P9 ≤ tr t9 * le t9) : Met l yX5_insertedTime wsX5_insertedTime ({ frames := 5, cells := 0, slots := 0, locals := 126 }) (va_Pc [.ref (gd 0), .int (nI (j9))] (zM D cA (ws) sz)) (va_Qi (fun (r : Int32) (u : va_W) => r = nI (pt (LG mk tr le bo jf j9 t9 P9 (wl fw (nI t9) nj)) 7 (insL (LG mk tr le bo jf j9 t9 P9 (wl fw (nI t9) nj)) (wl fw (nI t9) nj).length)) ∧ mKeep ws u ∧ ∃ my9 fls9 fod9 fle9 fro9, mL cA u gd n tr le sl mo la fc sf bf nd mk ck ct hd pf nj jt jf dl fin my9 fls9 fod9 fle9 fro9 0) (fun u => zB D (va_A (ws) sz) (u)) (va_A (ws) sz)) 0 0 (va_A (ws) sz) := by
  refine zOpen (cc := cX5_insertedTime) (maxL := 6) (ret := (some .int)) (own := RX5) (by decide) rfl rfl (Nat.le_of_ble_eq_true rfl) ?_
  intro p e s m below meth c ls hx hb hr hml hts hown hlocks hnm ⟨hZ, hP, hD0, hsz⟩ hl
  subst hsz
  have hD := hD0.self (sz := s.heap.size)
  generalize hAe : va_A (ws) s.heap.size = A at hD ⊢
  have hA : ∀ q : Nat, s.heap.size ≤ q → A q := fun q h => by rw [← hAe]; exact Or.inr h
  have hS : va_S A s.heap s.heap [] := va_S.rf
  have iX5 : ∀ w ∈ wsX50, w ∈ wsX5_insertedTime := by decide +kernel
  have hl : lv_has ls 6 [(0, .ref (gd 0)), (1, .int (nI (j9)))] := hl
  have hm0 := hm
  have hI0 := hI
  have hM0 := hM
  obtain ⟨hn8, hd3, hj60, hIT, hID, hIJ, hIdl, hIw⟩ := hI
  obtain ⟨hM1, hM2, hM3, hM4, hM5, hM6, hM7⟩ := hM
  obtain ⟨m0, m1, m2, m3, m4, m5, m6, m7, m8, m9, m10, m11, m12, m13, m14, m15, m16, m17, m18, m19, m20, m21⟩ := hm
  have hfc10 : ∀ i, i < n → fc i ≤ 10 := fun i hi => (hIT i hi).2.2.2.2.2.2.1
  have hsl12 : ∀ i, i < n → sl i < 12 := fun i hi => (hIT i hi).2.2.2.2.1
  have hH8 : ∀ j, j < nd → ∀ t, hd j = some t → t < 8 := fun j hj t h => by have := ((hID j hj).2.2.2 t h).1; omega
  have hmo3 : ∀ i, i < n → ∀ j, mo i = some j → j < nd := fun i hi j h => ((hIT i hi).2.2.2.2.2.1 j h).1
  have hfw : ∀ k, k < nj → fw k = if fin k then -1 else jt k := fun k hk => (hM5 k hk).1
  obtain ⟨hmk, hct, -, hps⟩ := hID j9 hj9
  obtain ⟨htn, hmoj, -⟩ := hps t9 hht
  have hpf : pf j9 = nI P9 := (hM4 j9 t9 hj9 hht).trans hpq
  obtain ⟨htr1, htr8, hle4, hle200, -⟩ := hIT t9 htn
  have htr : 1 ≤ tr t9 ∧ tr t9 ≤ 8 := ⟨htr1, htr8⟩
  have hle : 4 ≤ le t9 ∧ le t9 ≤ 200 := ⟨hle4, hle200⟩
  have hj3 : j9 < 3 := by omega
  have ht8 : t9 < 8 := by omega
  have hfw : ∀ k, k < nj → fw k = if fin k then -1 else jt k := fun k hk => (hM5 k hk).1
  have hw7 := hIw t9 htn
  have hJ := mJ_of hI0 hM0 htn fls
  have hLGb : ∀ a b, (LG mk tr le bo jf j9 t9 P9 (wl fw (nI t9) nj)) a b ≤ 100000 := fun a b => LG_of hI0 htn j9 P9 a b
  have hBT : ∀ p a, BT (LG mk tr le bo jf j9 t9 P9 (wl fw (nI t9) nj)) (wl fw (nI t9) nj).length p a ≤ 700000 := fun p a => Nat.le_trans (BT_le (fun a b _ => hLGb a b) p a) (by omega)
  refine lv_aload_n hx hb dX5_insertedTime_0 rfl (lv_at hl 0 rfl) ?_
  refine lv_aload_n hx hb dX5_insertedTime_1 rfl (lv_at hl 0 rfl) ?_
  refine lv_iload_n hx hb dX5_insertedTime_2 rfl (lv_at hl 1 rfl) ?_
  refine zk_V_i (n := 1) (As := [.int (nI (j9))]) (rest := [.ref (gd 0)]) hx hb hml hts hown hZ hP (c_X5_isDrive l D cA _ hm0 (by omega) (nI (j9))) gX5_insertedTime_X5_isDrive rfl rfl ⟨rfl, rfl⟩ ⟨by decide +kernel, Nat.le_of_ble_eq_true rfl, Nat.le_of_ble_eq_true rfl⟩ m0 rfl hl.1 rfl (Nat.le_of_ble_eq_true rfl) ⟨Nat.le_of_ble_eq_true rfl, Nat.le_of_ble_eq_true rfl⟩ rfl dX5_insertedTime_3 (fun r_1 hr_2 => ?_)
  obtain rfl := show r_1 = _ from hr_2
  refine zx_val (y := bI (true)) (by rw [ix_in (by omega) hj9]; rfl) ?_
  refine lv_aload_n hx hb dX5_insertedTime_6 rfl (lv_at hl 0 rfl) ?_
  refine lv_iload_n hx hb dX5_insertedTime_7 rfl (lv_at hl 1 rfl) ?_
  refine zk_V_i (n := 1) (As := [.int (nI (j9))]) (rest := [.int (bI (true)), .ref (gd 0)]) hx hb hml hts hown hZ hP (c_X5_hasTape l D cA _ hm0 hd3 hH8 (nI (j9))) gX5_insertedTime_X5_hasTape rfl rfl ⟨rfl, rfl⟩ ⟨by decide +kernel, Nat.le_of_ble_eq_true rfl, Nat.le_of_ble_eq_true rfl⟩ m0 rfl hl.1 rfl (Nat.le_of_ble_eq_true rfl) ⟨Nat.le_of_ble_eq_true rfl, Nat.le_of_ble_eq_true rfl⟩ rfl dX5_insertedTime_8 (fun r_3 hr_4 => ?_)
  obtain rfl := show r_3 = _ from hr_4
  refine zx_val (y := bI (true)) (by rw [ix_in (by omega) hj9]; show bI (hd j9).isSome = _; rw [hht]; rfl) ?_
  refine zw_V_i (n := 2) (mc := 0) (ms := 0) (As := [.int (bI (true)), .int (bI (true))]) (rest := []) (w1 := fun u : Unit => ws.set 0 (gd 0, zMod gd n nd nj my 0)) hx hb hml hts hown hZ hP hD hS hA (c_X5_mayBoth l D cA _ _ gd n nd nj my th true true (m0)) gX5_insertedTime_X5_mayBoth rfl rfl ⟨rfl, rfl⟩ ⟨by decide +kernel, Nat.le_of_ble_eq_true rfl, Nat.le_of_ble_eq_true rfl⟩ m0 rfl hl.1 rfl (Nat.le_of_ble_eq_true rfl) ⟨Nat.le_of_ble_eq_true rfl, Nat.le_of_ble_eq_true rfl⟩ rfl dX5_insertedTime_11 (fun r_5 u_7 H locs hr_6 hP hD hS hz_7 => ?_)
  obtain rfl := show r_5 = _ from hr_6
  have hP : va_P D vwCl (ws.set 0 (gd 0, zMod gd n nd nj my 0)) H := hP
  have hD : va_D A (ws.set 0 (gd 0, zMod gd n nd nj my 0)) := hD
  refine zb_ne (tgt := 19) hx hb dX5_insertedTime_14 (by decide) (fun c_8 => ?_) (fun c_8 => Bool.noConfusion c_8)
  refine lv_aload_n hx hb dX5_insertedTime_19 rfl (lv_at hl 0 rfl) ?_
  refine lv_iload_n hx hb dX5_insertedTime_20 rfl (lv_at hl 1 rfl) ?_
  refine zw_V_v (n := 1) (mc := 0) (ms := 0) (As := [.int (nI (j9))]) (rest := []) (w1 := fun u : va_W => u) hx hb hml hts hown hZ hP hD hS hA (c_X5_listJobs l D cA _ _ ((mL_0 hm0 n nd nj my 0)) fw hfw j9 t9 hj3 hht hj60 ht8 hw7) gX5_insertedTime_X5_listJobs rfl rfl ⟨rfl, rfl⟩ ⟨by decide +kernel, Nat.le_of_ble_eq_true rfl, Nat.le_of_ble_eq_true rfl⟩ (zset_s m0) rfl hl.1 rfl (Nat.le_of_ble_eq_true rfl) ⟨Nat.le_of_ble_eq_true rfl, Nat.le_of_ble_eq_true rfl⟩ rfl dX5_insertedTime_21 (fun u_11 H locs hr_10 hP hD hS hz_11 => ?_)
  have hP : va_P D vwCl (u_11) H := hP
  have hD : va_D A (u_11) := hD
  obtain ⟨hkp_11, hm_11⟩ := hr_10
  obtain ⟨m0_11, m1_11, m2_11, m3_11, m4_11, m5_11, m6_11, m7_11, m8_11, m9_11, m10_11, m11_11, m12_11, m13_11, m14_11, m15_11, m16_11, m17_11, m18_11, m19_11, m20_11, m21_11⟩ := id hm_11
  have hP : va_P D vwCl (u_11) H := hP
  have hD : va_D A (u_11) := hD
  refine lv_iconst (v := nI (0)) hx hb dX5_insertedTime_24 (by decide) ?_
  refine lv_istore_n (lv' := [(2, .int (nI (0))), (0, .ref (gd 0)), (1, .int (nI (j9)))]) hx hb dX5_insertedTime_25 rfl hl (by decide) rfl (fun ls hl => ?_)
  refine lv_iconst (v := nI (0)) hx hb dX5_insertedTime_26 (by decide) ?_
  refine lv_istore_n (lv' := [(3, .int (nI (0))), (2, .int (nI (0))), (0, .ref (gd 0)), (1, .int (nI (j9)))]) hx hb dX5_insertedTime_27 rfl hl (by decide) rfl (fun ls hl => ?_)
  refine z_loopW (α := Nat × Nat × (Nat → Int32) × va_W) (fun v => (wl fw (nI t9) nj).length - v.1) (fun v H locs ls => lv_has ls 6 [(0, .ref (gd 0)), (1, .int (nI (j9))), (3, .int (nI (v.1))), (2, .int (nI (v.2.1)))] ∧ va_P D vwCl (v.2.2.2) H ∧ va_D A (v.2.2.2) ∧ va_S A s.heap H locs ∧ mKeep ws v.2.2.2 ∧ mL cA v.2.2.2 gd n tr le sl mo la fc sf bf nd mk ck ct hd pf nj jt jf dl fin (wl fw (nI t9) nj).length (colF fls (wl fw (nI t9) nj)) fod fle v.2.2.1 0 ∧ (∀ p, p < v.1 → v.2.2.1 p = nI ((insL (LG mk tr le bo jf j9 t9 P9 (wl fw (nI t9) nj)) v.1).getD p 0)) ∧ v.2.1 = pt (LG mk tr le bo jf j9 t9 P9 (wl fw (nI t9) nj)) 7 (insL (LG mk tr le bo jf j9 t9 P9 (wl fw (nI t9) nj)) v.1) ∧ v.1 ≤ (wl fw (nI t9) nj).length) (fun _ => []) (0, 0, fro, u_11) ⟨lv_sub hl [2, 3, 0, 1] rfl, hP, hD, hS, (mKeep_tr (mKeep_set mKeep_rf (by decide)) hkp_11), hm_11, (fun p h => absurd h (Nat.not_lt_zero p)), rfl, Nat.zero_le _⟩ ?_
  intro v ih28 H locs ls hv
  obtain ⟨i, x, R, w9⟩ := v
  obtain ⟨hl, hP, hD, hS, hI⟩ := hv
  have hP : va_P D vwCl (w9) H := hP
  have hD : va_D A (w9) := hD
  have hl : lv_has ls 6 [(0, .ref (gd 0)), (1, .int (nI (j9))), (3, .int (nI (i))), (2, .int (nI (x)))] := hl
  have hI : mKeep ws w9 ∧ mL cA w9 gd n tr le sl mo la fc sf bf nd mk ck ct hd pf nj jt jf dl fin (wl fw (nI t9) nj).length (colF fls (wl fw (nI t9) nj)) fod fle R 0 ∧ (∀ p, p < i → R p = nI ((insL (LG mk tr le bo jf j9 t9 P9 (wl fw (nI t9) nj)) i).getD p 0)) ∧ x = pt (LG mk tr le bo jf j9 t9 P9 (wl fw (nI t9) nj)) 7 (insL (LG mk tr le bo jf j9 t9 P9 (wl fw (nI t9) nj)) i) ∧ i ≤ (wl fw (nI t9) nj).length := hI
  obtain ⟨hkp9, hm0, hI⟩ := hI
  obtain ⟨m0, m1, m2, m3, m4, m5, m6, m7, m8, m9, m10, m11, m12, m13, m14, m15, m16, m17, m18, m19, m20, m21⟩ := id hm0
  obtain ⟨hR, hx1, hi⟩ := hI
  refine lv_iload_n hx hb dX5_insertedTime_28 rfl (lv_at hl 2 rfl) ?_
  refine lv_aload_n hx hb dX5_insertedTime_29 rfl (lv_at hl 0 rfl) ?_
  refine va_get (D := D) (ci := 5) (v := .int (nI ((wl fw (nI t9) nj).length))) (C := RX5) (T := TX5) (N := 26) hx hb hts iX5 hown hZ.1 hP 0 m0 rfl 20 (by decide) (hts (.fieldLink RX5 164 "TapeRoboticsModel" "many" "I") (by decide +kernel)) (fun _ h9 => h9) rfl dX5_insertedTime_30 ?_
  refine zc_ge (tgt := 140) hx hb (by omega) (by omega) dX5_insertedTime_33 (by decide) (fun c_12 => ?_) (fun c_12 => ?_)
  · refine lv_iload_n hx hb dX5_insertedTime_140 rfl (lv_at hl 3 rfl) ?_
    exact zr_qi (S := va_W) (w1 := fun u => u) w9 hx hb hr hlocks (⟨by rw [hx1, show i = (wl fw (nI t9) nj).length by omega], hkp9, _, _, _, _, _, hm0⟩) hP hD hS (rfl) dX5_insertedTime_141
  · refine lv_iconst (v := nI (0)) hx hb dX5_insertedTime_36 (by decide) ?_
    refine lv_istore (lv' := [(4, .int (nI (0))), (0, .ref (gd 0)), (1, .int (nI (j9))), (3, .int (nI (i))), (2, .int (nI (x)))]) hx hb dX5_insertedTime_37 hl (by decide) rfl (fun ls hl => ?_)
    refine lv_iconst (v := nI (1)) hx hb dX5_insertedTime_39 (by decide) ?_
    refine lv_istore (lv' := [(5, .int (nI (1))), (4, .int (nI (0))), (0, .ref (gd 0)), (1, .int (nI (j9))), (3, .int (nI (i))), (2, .int (nI (x)))]) hx hb dX5_insertedTime_40 hl (by decide) rfl (fun ls hl => ?_)
    have him : i < (wl fw (nI t9) nj).length := by omega
    have hptb : ∀ q, q ≤ i → pt (LG mk tr le bo jf j9 t9 P9 (wl fw (nI t9) nj)) 7 ((insL (LG mk tr le bo jf j9 t9 P9 (wl fw (nI t9) nj)) i).insertIdx q i) ≤ 800000 := fun q hq => by
      have h1 := pt_le hLGb ((insL (LG mk tr le bo jf j9 t9 P9 (wl fw (nI t9) nj)) i).insertIdx q i) 7
      rw [List.length_insertIdx_of_le_length (by rw [insL_len]; exact hq), insL_len] at h1
      omega
    refine z_loop (α := Nat × Nat) (fun v => i + 1 - v.1) (fun v ls => lv_has ls 6 [(0, .ref (gd 0)), (1, .int (nI (j9))), (2, .int (nI (x))), (3, .int (nI (i))), (5, .int (nI (v.1))), (4, .int (nI (v.2)))] ∧ aminP (fun q => pt (LG mk tr le bo jf j9 t9 P9 (wl fw (nI t9) nj)) 7 ((insL (LG mk tr le bo jf j9 t9 P9 (wl fw (nI t9) nj)) i).insertIdx q i)) (fun _ => true) v.1 = some v.2 ∧ 1 ≤ v.1 ∧ v.1 ≤ i + 1) (fun _ => []) (1, 0) ⟨lv_sub hl [2, 3, 5, 4, 0, 1] rfl, rfl, Nat.le_refl _, by first | omega | (dsimp only; omega)⟩ ?_
    intro v ih42 ls hv
    obtain ⟨a, b⟩ := v
    obtain ⟨hl, hI⟩ := hv
    have hl : lv_has ls 6 [(0, .ref (gd 0)), (1, .int (nI (j9))), (2, .int (nI (x))), (3, .int (nI (i))), (5, .int (nI (a))), (4, .int (nI (b)))] := hl
    have hI : aminP (fun q => pt (LG mk tr le bo jf j9 t9 P9 (wl fw (nI t9) nj)) 7 ((insL (LG mk tr le bo jf j9 t9 P9 (wl fw (nI t9) nj)) i).insertIdx q i)) (fun _ => true) a = some b ∧ 1 ≤ a ∧ a ≤ i + 1 := hI
    obtain ⟨hab, ha1, ha2⟩ := hI
    obtain ⟨hba, -⟩ := aminP_mem a b hab
    refine lv_iload hx hb dX5_insertedTime_42 (lv_at hl 4 rfl) ?_
    refine lv_iload_n hx hb dX5_insertedTime_44 rfl (lv_at hl 3 rfl) ?_
    refine zc_gt (tgt := 84) hx hb (by omega) (by omega) dX5_insertedTime_45 (by decide) (fun c_13 => ?_) (fun c_13 => ?_)
    · have hip : ipos (LG mk tr le bo jf j9 t9 P9 (wl fw (nI t9) nj)) (insL (LG mk tr le bo jf j9 t9 P9 (wl fw (nI t9) nj)) i) i = b := by
        unfold ipos; rw [insL_len, show i + 1 = a by omega, hab]; rfl
      have hins : insL (LG mk tr le bo jf j9 t9 P9 (wl fw (nI t9) nj)) (i + 1) = (insL (LG mk tr le bo jf j9 t9 P9 (wl fw (nI t9) nj)) i).insertIdx b i := by rw [← insL_s]; unfold ins; rw [insL_len, hip]
      refine lv_aload_n hx hb dX5_insertedTime_84 rfl (lv_at hl 0 rfl) ?_
      refine lv_iload_n hx hb dX5_insertedTime_85 rfl (lv_at hl 1 rfl) ?_
      refine lv_iload_n hx hb dX5_insertedTime_86 rfl (lv_at hl 3 rfl) ?_
      refine lv_iload_n hx hb dX5_insertedTime_87 rfl (lv_at hl 3 rfl) ?_
      refine lv_iload hx hb dX5_insertedTime_88 (lv_at hl 5 rfl) ?_
      refine zk_V_i (n := 4) (As := [.int (nI (j9)), .int (nI (i)), .int (nI (i)), .int (nI (b))]) (rest := []) hx hb hml hts hown hZ hP (c_X5_timeWith l D cA _ hm0 bo t9 (wl fw (nI t9) nj) hJ ht8 j9 P9 hj3 hht hmk hpf hP9 htr hle (insL (LG mk tr le bo jf j9 t9 P9 (wl fw (nI t9) nj)) i) i (insL_len i) (by rw [insL_len]; omega) (fun p hp => hR p (by rw [insL_len] at hp; exact hp)) (fun x hx => Nat.lt_trans (insL_mem i x hx) (by omega)) i b (by omega) (by rw [insL_len]; omega)) gX5_insertedTime_X5_timeWith rfl rfl ⟨rfl, rfl⟩ ⟨by decide +kernel, Nat.le_of_ble_eq_true rfl, Nat.le_of_ble_eq_true rfl⟩ m0 rfl hl.1 rfl (Nat.le_of_ble_eq_true rfl) ⟨Nat.le_of_ble_eq_true rfl, Nat.le_of_ble_eq_true rfl⟩ rfl dX5_insertedTime_90 (fun r_14 hr_15 => ?_)
      obtain rfl := show r_14 = _ from hr_15
      refine lv_istore_n (lv' := [(2, .int (nI (pt (LG mk tr le bo jf j9 t9 P9 (wl fw (nI t9) nj)) 7 ((insL (LG mk tr le bo jf j9 t9 P9 (wl fw (nI t9) nj)) i).insertIdx b i)))), (0, .ref (gd 0)), (1, .int (nI (j9))), (3, .int (nI (i))), (5, .int (nI (a))), (4, .int (nI (b)))]) hx hb dX5_insertedTime_93 rfl hl (by decide) rfl (fun ls hl => ?_)
      refine lv_iload_n hx hb dX5_insertedTime_94 rfl (lv_at hl 3 rfl) ?_
      refine lv_istore (lv' := [(5, .int (nI (i))), (2, .int (nI (pt (LG mk tr le bo jf j9 t9 P9 (wl fw (nI t9) nj)) 7 ((insL (LG mk tr le bo jf j9 t9 P9 (wl fw (nI t9) nj)) i).insertIdx b i)))), (0, .ref (gd 0)), (1, .int (nI (j9))), (3, .int (nI (i))), (4, .int (nI (b)))]) hx hb dX5_insertedTime_95 hl (by decide) rfl (fun ls hl => ?_)
      refine z_loopW (α := Nat × (Nat → Int32) × va_W) (fun v => v.1) (fun v H locs ls => lv_has ls 6 [(0, .ref (gd 0)), (1, .int (nI (j9))), (2, .int (nI (pt (LG mk tr le bo jf j9 t9 P9 (wl fw (nI t9) nj)) 7 ((insL (LG mk tr le bo jf j9 t9 P9 (wl fw (nI t9) nj)) i).insertIdx b i)))), (3, .int (nI (i))), (4, .int (nI (b))), (5, .int (nI (v.1)))] ∧ va_P D vwCl (v.2.2) H ∧ va_D A (v.2.2) ∧ va_S A s.heap H locs ∧ mKeep ws v.2.2 ∧ mL cA v.2.2 gd n tr le sl mo la fc sf bf nd mk ck ct hd pf nj jt jf dl fin (wl fw (nI t9) nj).length (colF fls (wl fw (nI t9) nj)) fod fle v.2.1 0 ∧ (∀ p, p ≤ v.1 → p < i → v.2.1 p = nI ((insL (LG mk tr le bo jf j9 t9 P9 (wl fw (nI t9) nj)) i).getD p 0)) ∧ (∀ p, v.1 < p → p ≤ i → v.2.1 p = nI ((insL (LG mk tr le bo jf j9 t9 P9 (wl fw (nI t9) nj)) i).getD (p - 1) 0)) ∧ b ≤ v.1 ∧ v.1 ≤ i) (fun _ => []) (i, R, w9) ⟨lv_sub hl [2, 3, 1, 4, 5, 0] rfl, hP, hD, hS, hkp9, hm0, (fun p _ h => hR p h), (fun p h1 h2 => absurd h2 (Nat.not_le.mpr h1)), (by dsimp only; omega), Nat.le_refl _⟩ ?_
      intro v ih97 H locs ls hv
      obtain ⟨k, R, w9⟩ := v
      obtain ⟨hl, hP, hD, hS, hI⟩ := hv
      have hP : va_P D vwCl (w9) H := hP
      have hD : va_D A (w9) := hD
      have hl : lv_has ls 6 [(0, .ref (gd 0)), (1, .int (nI (j9))), (2, .int (nI (pt (LG mk tr le bo jf j9 t9 P9 (wl fw (nI t9) nj)) 7 ((insL (LG mk tr le bo jf j9 t9 P9 (wl fw (nI t9) nj)) i).insertIdx b i)))), (3, .int (nI (i))), (4, .int (nI (b))), (5, .int (nI (k)))] := hl
      have hI : mKeep ws w9 ∧ mL cA w9 gd n tr le sl mo la fc sf bf nd mk ck ct hd pf nj jt jf dl fin (wl fw (nI t9) nj).length (colF fls (wl fw (nI t9) nj)) fod fle R 0 ∧ (∀ p, p ≤ k → p < i → R p = nI ((insL (LG mk tr le bo jf j9 t9 P9 (wl fw (nI t9) nj)) i).getD p 0)) ∧ (∀ p, k < p → p ≤ i → R p = nI ((insL (LG mk tr le bo jf j9 t9 P9 (wl fw (nI t9) nj)) i).getD (p - 1) 0)) ∧ b ≤ k ∧ k ≤ i := hI
      obtain ⟨hkp9, hm0, hI⟩ := hI
      obtain ⟨m0, m1, m2, m3, m4, m5, m6, m7, m8, m9, m10, m11, m12, m13, m14, m15, m16, m17, m18, m19, m20, m21⟩ := id hm0
      obtain ⟨hRa, hRb, hbk, hki⟩ := hI
      refine lv_iload hx hb dX5_insertedTime_97 (lv_at hl 5 rfl) ?_
      refine lv_iload hx hb dX5_insertedTime_99 (lv_at hl 4 rfl) ?_
      refine zc_le (tgt := 126) hx hb (by omega) (by omega) dX5_insertedTime_101 (by decide) (fun c_16 => ?_) (fun c_16 => ?_)
      · refine lv_aload_n hx hb dX5_insertedTime_126 rfl (lv_at hl 0 rfl) ?_
        refine va_get (D := D) (ci := 5) (v := .ref (gd 21)) (C := RX5) (T := TX5) (N := 26) hx hb hts iX5 hown hZ.1 hP 0 m0 rfl 24 (by decide) (hts (.fieldLink RX5 71 "TapeRoboticsModel" "row" "[I") (by decide +kernel)) (fun _ h9 => h9) rfl dX5_insertedTime_127 ?_
        refine lv_iload hx hb dX5_insertedTime_130 (lv_at hl 4 rfl) ?_
        refine lv_iload_n hx hb dX5_insertedTime_132 rfl (lv_at hl 3 rfl) ?_
        refine va_iast hx hb hZ.1 hP hD hS 21 0 m21 rfl (vp_in_nI (show b < 8 by omega) (by omega)) dX5_insertedTime_133 (fun H locs hP hD hS => ?_)
        rw [nI_clamp (show b < 2 ^ 31 by omega)] at hP hD
        have hP : va_P D vwCl (w9.set 21 (gd 21, zInts cA 8 (va_up R b (nI (i))))) H := hP
        have hD : va_D A (w9.set 21 (gd 21, zInts cA 8 (va_up R b (nI (i))))) := hD
        refine lv_iinc (v := nI (i + 1)) (lv' := [(3, .int (nI (i + 1))), (0, .ref (gd 0)), (1, .int (nI (j9))), (2, .int (nI (pt (LG mk tr le bo jf j9 t9 P9 (wl fw (nI t9) nj)) 7 ((insL (LG mk tr le bo jf j9 t9 P9 (wl fw (nI t9) nj)) i).insertIdx b i)))), (4, .int (nI (b))), (5, .int (nI (k)))]) hx hb dX5_insertedTime_134 hl (k := 3) rfl (zinc 1 _) (by decide) rfl (fun ls hl => ?_)
        refine lv_goto (tgt := 28) hx hb dX5_insertedTime_137 (by decide) ?_
        exact ih28 (i + 1, pt (LG mk tr le bo jf j9 t9 P9 (wl fw (nI t9) nj)) 7 ((insL (LG mk tr le bo jf j9 t9 P9 (wl fw (nI t9) nj)) i).insertIdx b i), (va_up R b (nI (i))), (w9.set 21 (gd 21, zInts cA 8 (va_up R b (nI (i)))))) H locs ls (by first | omega | (dsimp only; omega)) ⟨lv_sub hl [1, 2, 0, 3] rfl, hP, hD, hS, (mKeep_set hkp9 (by decide)), (mL_21 hm0 ((va_up R b (nI (i))))), (fun p h1 => by
                have h1 : p < i + 1 := h1
                show va_up R b (nI i) p = _
                rw [hins, ins_getD b _ i p (by rw [insL_len]; omega)]
                by_cases e1 : p < b
                · rw [va_up_ne _ _ (by first | omega | (dsimp only; omega)), if_pos e1]; exact hRa p (by first | omega | (dsimp only; omega)) (by first | omega | (dsimp only; omega))
                · rw [if_neg e1]
                  by_cases e2 : p = b
                  · rw [if_pos e2, e2, va_up_self]
                  · rw [if_neg e2, va_up_ne _ _ e2]; exact hRb p (by first | omega | (dsimp only; omega)) (by first | omega | (dsimp only; omega))), (by dsimp only; rw [hins]), by first | omega | (dsimp only; omega)⟩
      · refine lv_aload_n hx hb dX5_insertedTime_104 rfl (lv_at hl 0 rfl) ?_
        refine va_get (D := D) (ci := 5) (v := .ref (gd 21)) (C := RX5) (T := TX5) (N := 26) hx hb hts iX5 hown hZ.1 hP 0 m0 rfl 24 (by decide) (hts (.fieldLink RX5 71 "TapeRoboticsModel" "row" "[I") (by decide +kernel)) (fun _ h9 => h9) rfl dX5_insertedTime_105 ?_
        refine lv_iload hx hb dX5_insertedTime_108 (lv_at hl 5 rfl) ?_
        refine lv_aload_n hx hb dX5_insertedTime_110 rfl (lv_at hl 0 rfl) ?_
        refine va_get (D := D) (ci := 5) (v := .ref (gd 21)) (C := RX5) (T := TX5) (N := 26) hx hb hts iX5 hown hZ.1 hP 0 m0 rfl 24 (by decide) (hts (.fieldLink RX5 71 "TapeRoboticsModel" "row" "[I") (by decide +kernel)) (fun _ h9 => h9) rfl dX5_insertedTime_111 ?_
        refine lv_iload hx hb dX5_insertedTime_114 (lv_at hl 5 rfl) ?_
        refine lv_iconst (v := nI (1)) hx hb dX5_insertedTime_116 (by decide) ?_
        refine zo_sub hx hb (by omega) dX5_insertedTime_117 ?_
        refine va_iald hx hb hZ.1 hP 21 0 m21 rfl (vp_in_nI (show k - 1 < 8 by omega) (by omega)) dX5_insertedTime_118 ?_
        rw [nI_clamp (show k - 1 < 2 ^ 31 by omega)]
        refine va_iast hx hb hZ.1 hP hD hS 21 0 m21 rfl (vp_in_nI (show k < 8 by omega) (by omega)) dX5_insertedTime_119 (fun H locs hP hD hS => ?_)
        rw [nI_clamp (show k < 2 ^ 31 by omega)] at hP hD
        have hP : va_P D vwCl (w9.set 21 (gd 21, zInts cA 8 (va_up R k (R (k - 1))))) H := hP
        have hD : va_D A (w9.set 21 (gd 21, zInts cA 8 (va_up R k (R (k - 1))))) := hD
        refine lv_iinc (v := nI (k - 1)) (lv' := [(5, .int (nI (k - 1))), (0, .ref (gd 0)), (1, .int (nI (j9))), (2, .int (nI (pt (LG mk tr le bo jf j9 t9 P9 (wl fw (nI t9) nj)) 7 ((insL (LG mk tr le bo jf j9 t9 P9 (wl fw (nI t9) nj)) i).insertIdx b i)))), (3, .int (nI (i))), (4, .int (nI (b)))]) hx hb dX5_insertedTime_120 hl (k := 5) rfl (zdec (by omega)) (by decide) rfl (fun ls hl => ?_)
        refine lv_goto (tgt := 97) hx hb dX5_insertedTime_123 (by decide) ?_
        exact ih97 (k - 1, (va_up R k (R (k - 1))), (w9.set 21 (gd 21, zInts cA 8 (va_up R k (R (k - 1)))))) H locs ls (by first | omega | (dsimp only; omega)) ⟨lv_sub hl [1, 2, 3, 4, 5, 0] rfl, hP, hD, hS, (mKeep_set hkp9 (by decide)), (mL_21 hm0 ((va_up R k (R (k - 1))))), (fun p h1 h2 => by
                  have h1 : p ≤ k - 1 := h1
                  show va_up R k _ p = _
                  rw [va_up_ne _ _ (by first | omega | (dsimp only; omega))]; exact hRa p (by first | omega | (dsimp only; omega)) h2), (fun p h1 h2 => by
                  have h1 : k - 1 < p := h1
                  show va_up R k _ p = _
                  by_cases e1 : p = k
                  · rw [e1, va_up_self]; exact hRa (k - 1) (by first | omega | (dsimp only; omega)) (by first | omega | (dsimp only; omega))
                  · rw [va_up_ne _ _ e1]; exact hRb p (by first | omega | (dsimp only; omega)) h2), (by dsimp only; omega), (by dsimp only; omega)⟩
    · have hp1 := hptb a (by omega)
      have hp2 := hptb b (by omega)
      refine lv_aload_n hx hb dX5_insertedTime_48 rfl (lv_at hl 0 rfl) ?_
      refine lv_iload_n hx hb dX5_insertedTime_49 rfl (lv_at hl 1 rfl) ?_
      refine lv_iload_n hx hb dX5_insertedTime_50 rfl (lv_at hl 3 rfl) ?_
      refine lv_iload_n hx hb dX5_insertedTime_51 rfl (lv_at hl 3 rfl) ?_
      refine lv_iload hx hb dX5_insertedTime_52 (lv_at hl 4 rfl) ?_
      refine zk_V_i (n := 4) (As := [.int (nI (j9)), .int (nI (i)), .int (nI (i)), .int (nI (a))]) (rest := []) hx hb hml hts hown hZ hP (c_X5_timeWith l D cA _ hm0 bo t9 (wl fw (nI t9) nj) hJ ht8 j9 P9 hj3 hht hmk hpf hP9 htr hle (insL (LG mk tr le bo jf j9 t9 P9 (wl fw (nI t9) nj)) i) i (insL_len i) (by rw [insL_len]; omega) (fun p hp => hR p (by rw [insL_len] at hp; exact hp)) (fun x hx => Nat.lt_trans (insL_mem i x hx) (by omega)) i a (by omega) (by rw [insL_len]; omega)) gX5_insertedTime_X5_timeWith rfl rfl ⟨rfl, rfl⟩ ⟨by decide +kernel, Nat.le_of_ble_eq_true rfl, Nat.le_of_ble_eq_true rfl⟩ m0 rfl hl.1 rfl (Nat.le_of_ble_eq_true rfl) ⟨Nat.le_of_ble_eq_true rfl, Nat.le_of_ble_eq_true rfl⟩ rfl dX5_insertedTime_54 (fun r_17 hr_18 => ?_)
      obtain rfl := show r_17 = _ from hr_18
      refine lv_aload_n hx hb dX5_insertedTime_57 rfl (lv_at hl 0 rfl) ?_
      refine lv_iload_n hx hb dX5_insertedTime_58 rfl (lv_at hl 1 rfl) ?_
      refine lv_iload_n hx hb dX5_insertedTime_59 rfl (lv_at hl 3 rfl) ?_
      refine lv_iload_n hx hb dX5_insertedTime_60 rfl (lv_at hl 3 rfl) ?_
      refine lv_iload hx hb dX5_insertedTime_61 (lv_at hl 5 rfl) ?_
      refine zk_V_i (n := 4) (As := [.int (nI (j9)), .int (nI (i)), .int (nI (i)), .int (nI (b))]) (rest := [.int (nI (pt (LG mk tr le bo jf j9 t9 P9 (wl fw (nI t9) nj)) 7 ((insL (LG mk tr le bo jf j9 t9 P9 (wl fw (nI t9) nj)) i).insertIdx a i)))]) hx hb hml hts hown hZ hP (c_X5_timeWith l D cA _ hm0 bo t9 (wl fw (nI t9) nj) hJ ht8 j9 P9 hj3 hht hmk hpf hP9 htr hle (insL (LG mk tr le bo jf j9 t9 P9 (wl fw (nI t9) nj)) i) i (insL_len i) (by rw [insL_len]; omega) (fun p hp => hR p (by rw [insL_len] at hp; exact hp)) (fun x hx => Nat.lt_trans (insL_mem i x hx) (by omega)) i b (by omega) (by rw [insL_len]; omega)) gX5_insertedTime_X5_timeWith rfl rfl ⟨rfl, rfl⟩ ⟨by decide +kernel, Nat.le_of_ble_eq_true rfl, Nat.le_of_ble_eq_true rfl⟩ m0 rfl hl.1 rfl (Nat.le_of_ble_eq_true rfl) ⟨Nat.le_of_ble_eq_true rfl, Nat.le_of_ble_eq_true rfl⟩ rfl dX5_insertedTime_63 (fun r_19 hr_20 => ?_)
      obtain rfl := show r_19 = _ from hr_20
      refine zc_ge (tgt := 74) hx hb (by omega) (by omega) dX5_insertedTime_66 (by decide) (fun c_21 => ?_) (fun c_21 => ?_)
      · refine lv_iload hx hb dX5_insertedTime_74 (lv_at hl 5 rfl) ?_
        refine lv_istore (lv' := [(4, .int (nI (b))), (0, .ref (gd 0)), (1, .int (nI (j9))), (2, .int (nI (x))), (3, .int (nI (i))), (5, .int (nI (a)))]) hx hb dX5_insertedTime_76 hl (by decide) rfl (fun ls hl => ?_)
        refine lv_iinc (v := nI (a + 1)) (lv' := [(5, .int (nI (a + 1))), (4, .int (nI (b))), (0, .ref (gd 0)), (1, .int (nI (j9))), (2, .int (nI (x))), (3, .int (nI (i)))]) hx hb dX5_insertedTime_78 hl (k := 5) rfl (zinc 1 _) (by decide) rfl (fun ls hl => ?_)
        refine lv_goto (tgt := 42) hx hb dX5_insertedTime_81 (by decide) ?_
        exact ih42 (a + 1, b) ls (by first | omega | (dsimp only; omega)) ⟨lv_sub hl [2, 3, 4, 5, 0, 1] rfl, (by show aminP (fun q => pt (LG mk tr le bo jf j9 t9 P9 (wl fw (nI t9) nj)) 7 ((insL (LG mk tr le bo jf j9 t9 P9 (wl fw (nI t9) nj)) i).insertIdx q i)) (fun _ => true) (a + 1) = _; rw [aminP_y rfl, hab]; show (if (fun q => pt (LG mk tr le bo jf j9 t9 P9 (wl fw (nI t9) nj)) 7 ((insL (LG mk tr le bo jf j9 t9 P9 (wl fw (nI t9) nj)) i).insertIdx q i)) a < (fun q => pt (LG mk tr le bo jf j9 t9 P9 (wl fw (nI t9) nj)) 7 ((insL (LG mk tr le bo jf j9 t9 P9 (wl fw (nI t9) nj)) i).insertIdx q i)) b then some a else some b) = _; exact if_neg (by dsimp only; omega)), by first | omega | (dsimp only; omega), by first | omega | (dsimp only; omega)⟩
      · refine lv_iload hx hb dX5_insertedTime_69 (lv_at hl 4 rfl) ?_
        refine lv_goto (tgt := 76) hx hb dX5_insertedTime_71 (by decide) ?_
        refine lv_istore (lv' := [(4, .int (nI (a))), (0, .ref (gd 0)), (1, .int (nI (j9))), (2, .int (nI (x))), (3, .int (nI (i))), (5, .int (nI (a)))]) hx hb dX5_insertedTime_76 hl (by decide) rfl (fun ls hl => ?_)
        refine lv_iinc (v := nI (a + 1)) (lv' := [(5, .int (nI (a + 1))), (4, .int (nI (a))), (0, .ref (gd 0)), (1, .int (nI (j9))), (2, .int (nI (x))), (3, .int (nI (i)))]) hx hb dX5_insertedTime_78 hl (k := 5) rfl (zinc 1 _) (by decide) rfl (fun ls hl => ?_)
        refine lv_goto (tgt := 42) hx hb dX5_insertedTime_81 (by decide) ?_
        exact ih42 (a + 1, a) ls (by first | omega | (dsimp only; omega)) ⟨lv_sub hl [2, 3, 4, 5, 0, 1] rfl, (by show aminP (fun q => pt (LG mk tr le bo jf j9 t9 P9 (wl fw (nI t9) nj)) 7 ((insL (LG mk tr le bo jf j9 t9 P9 (wl fw (nI t9) nj)) i).insertIdx q i)) (fun _ => true) (a + 1) = _; rw [aminP_y rfl, hab]; show (if (fun q => pt (LG mk tr le bo jf j9 t9 P9 (wl fw (nI t9) nj)) 7 ((insL (LG mk tr le bo jf j9 t9 P9 (wl fw (nI t9) nj)) i).insertIdx q i)) a < (fun q => pt (LG mk tr le bo jf j9 t9 P9 (wl fw (nI t9) nj)) 7 ((insL (LG mk tr le bo jf j9 t9 P9 (wl fw (nI t9) nj)) i).insertIdx q i)) b then some a else some b) = _; exact if_pos (by dsimp only; omega)), by first | omega | (dsimp only; omega), by first | omega | (dsimp only; omega)⟩

set_option maxHeartbeats 4000000 in
set_option maxRecDepth 100000 in
theorem c_X5_insertedTime_no (l : Launch) (D : va_G) (cA : Nat → ClassId) (sz : Nat) (ws : va_W) {gd : Nat → Nat} {n : Nat} {tr : Nat → Nat} {le : Nat → Nat} {sl : Nat → Nat} {mo : Nat → Option Nat} {la : Nat → Bool} {fc : Nat → Nat} {sf : Nat → Int32} {bf : Nat → Int32} {nd : Nat} {mk : Nat → Nat} {ck : Nat → Int32} {ct : Nat → Nat} {hd : Nat → Option Nat} {pf : Nat → Int32} {nj : Nat} {jt : Nat → Int32} {jf : Nat → Nat} {dl : Nat → Nat} {fin : Nat → Bool} {my : Nat} {fls : Nat → Int32} {fod : Nat → Int32} {fle : Nat → Int32} {fro : Nat → Int32} {th : Nat} {bo : Nat → Nat → Nat} {pq : Nat → Int32} {fw : Nat → Int32} {dn : Nat} (hm : mL cA ws gd n tr le sl mo la fc sf bf nd mk ck ct hd pf nj jt jf dl fin my fls fod fle fro th) (hI : zI n tr le sl mo fc bo nd mk ct hd pq nj fw jf dl) (hM : mI n la fc bo nd ck ct hd pq pf nj fw jt fin sf bf dn) (v0 : Int32) (h0 : (kR (ix v0 nd) hd (fun _ => some 0) (fun _ => true)) ≠ 0) : Met l yX5_insertedTime wsX5_insertedTime ({ frames := 5, cells := 0, slots := 0, locals := 126 }) (va_Pc [.ref (gd 0), .int (v0)] (zM D cA (ws) sz)) (va_Qi (fun (r : Int32) (u : va_W) => mKeep ws u ∧ ∃ my9 fls9 fod9 fle9 fro9, mL cA u gd n tr le sl mo la fc sf bf nd mk ck ct hd pf nj jt jf dl fin my9 fls9 fod9 fle9 fro9 (kR (ix v0 nd) hd (fun _ => some 0) (fun _ => true))) (fun u => zB D (va_A (ws) sz) (u)) (va_A (ws) sz)) 0 0 (va_A (ws) sz) := by
  refine zOpen (cc := cX5_insertedTime) (maxL := 6) (ret := (some .int)) (own := RX5) (by decide) rfl rfl (Nat.le_of_ble_eq_true rfl) ?_
  intro p e s m below meth c ls hx hb hr hml hts hown hlocks hnm ⟨hZ, hP, hD0, hsz⟩ hl
  subst hsz
  have hD := hD0.self (sz := s.heap.size)
  generalize hAe : va_A (ws) s.heap.size = A at hD ⊢
  have hA : ∀ q : Nat, s.heap.size ≤ q → A q := fun q h => by rw [← hAe]; exact Or.inr h
  have hS : va_S A s.heap s.heap [] := va_S.rf
  have iX5 : ∀ w ∈ wsX50, w ∈ wsX5_insertedTime := by decide +kernel
  have hl : lv_has ls 6 [(0, .ref (gd 0)), (1, .int (v0))] := hl
  have hm0 := hm
  have hI0 := hI
  have hM0 := hM
  obtain ⟨hn8, hd3, hj60, hIT, hID, hIJ, hIdl, hIw⟩ := hI
  obtain ⟨hM1, hM2, hM3, hM4, hM5, hM6, hM7⟩ := hM
  obtain ⟨m0, m1, m2, m3, m4, m5, m6, m7, m8, m9, m10, m11, m12, m13, m14, m15, m16, m17, m18, m19, m20, m21⟩ := hm
  have hfc10 : ∀ i, i < n → fc i ≤ 10 := fun i hi => (hIT i hi).2.2.2.2.2.2.1
  have hsl12 : ∀ i, i < n → sl i < 12 := fun i hi => (hIT i hi).2.2.2.2.1
  have hH8 : ∀ j, j < nd → ∀ t, hd j = some t → t < 8 := fun j hj t h => by have := ((hID j hj).2.2.2 t h).1; omega
  have hmo3 : ∀ i, i < n → ∀ j, mo i = some j → j < nd := fun i hi j h => ((hIT i hi).2.2.2.2.2.1 j h).1
  have hfw : ∀ k, k < nj → fw k = if fin k then -1 else jt k := fun k hk => (hM5 k hk).1
  rcases kR0_no h0 with ⟨ho, hK⟩ | ⟨j9, ho, hhn, hK⟩
  · refine lv_aload_n hx hb dX5_insertedTime_0 rfl (lv_at hl 0 rfl) ?_
    refine lv_aload_n hx hb dX5_insertedTime_1 rfl (lv_at hl 0 rfl) ?_
    refine lv_iload_n hx hb dX5_insertedTime_2 rfl (lv_at hl 1 rfl) ?_
    refine zk_V_i (n := 1) (As := [.int (v0)]) (rest := [.ref (gd 0)]) hx hb hml hts hown hZ hP (c_X5_isDrive l D cA _ hm0 (by omega) v0) gX5_insertedTime_X5_isDrive rfl rfl ⟨rfl, rfl⟩ ⟨by decide +kernel, Nat.le_of_ble_eq_true rfl, Nat.le_of_ble_eq_true rfl⟩ m0 rfl hl.1 rfl (Nat.le_of_ble_eq_true rfl) ⟨Nat.le_of_ble_eq_true rfl, Nat.le_of_ble_eq_true rfl⟩ rfl dX5_insertedTime_3 (fun r_1 hr_2 => ?_)
    obtain rfl := show r_1 = _ from hr_2
    refine zx_val (y := bI (false)) (by rw [ho]; rfl) ?_
    refine lv_aload_n hx hb dX5_insertedTime_6 rfl (lv_at hl 0 rfl) ?_
    refine lv_iload_n hx hb dX5_insertedTime_7 rfl (lv_at hl 1 rfl) ?_
    refine zk_V_i (n := 1) (As := [.int (v0)]) (rest := [.int (bI (false)), .ref (gd 0)]) hx hb hml hts hown hZ hP (c_X5_hasTape l D cA _ hm0 hd3 hH8 v0) gX5_insertedTime_X5_hasTape rfl rfl ⟨rfl, rfl⟩ ⟨by decide +kernel, Nat.le_of_ble_eq_true rfl, Nat.le_of_ble_eq_true rfl⟩ m0 rfl hl.1 rfl (Nat.le_of_ble_eq_true rfl) ⟨Nat.le_of_ble_eq_true rfl, Nat.le_of_ble_eq_true rfl⟩ rfl dX5_insertedTime_8 (fun r_3 hr_4 => ?_)
    obtain rfl := show r_3 = _ from hr_4
    refine zx_val (y := bI (false)) (by rw [ho]; rfl) ?_
    refine zw_V_i (n := 2) (mc := 0) (ms := 0) (As := [.int (bI (false)), .int (bI (false))]) (rest := []) (w1 := fun u : Unit => ws.set 0 (gd 0, zMod gd n nd nj my 1)) hx hb hml hts hown hZ hP hD hS hA (c_X5_mayBoth l D cA _ _ gd n nd nj my th false false (m0)) gX5_insertedTime_X5_mayBoth rfl rfl ⟨rfl, rfl⟩ ⟨by decide +kernel, Nat.le_of_ble_eq_true rfl, Nat.le_of_ble_eq_true rfl⟩ m0 rfl hl.1 rfl (Nat.le_of_ble_eq_true rfl) ⟨Nat.le_of_ble_eq_true rfl, Nat.le_of_ble_eq_true rfl⟩ rfl dX5_insertedTime_11 (fun r_5 u_7 H locs hr_6 hP hD hS hz_7 => ?_)
    obtain rfl := show r_5 = _ from hr_6
    have hP : va_P D vwCl (ws.set 0 (gd 0, zMod gd n nd nj my 1)) H := hP
    have hD : va_D A (ws.set 0 (gd 0, zMod gd n nd nj my 1)) := hD
    refine zb_ne (tgt := 19) hx hb dX5_insertedTime_14 (by decide) (fun c_8 => Bool.noConfusion c_8) (fun c_8 => ?_)
    refine lv_iconst (v := nI (0)) hx hb dX5_insertedTime_17 (by decide) ?_
    exact zr_qi (S := va_W) (w1 := fun u => u) (ws.set 0 (gd 0, zMod gd n nd nj my 1)) hx hb hr hlocks (⟨(mKeep_set mKeep_rf (by decide)), _, _, _, _, _, (by rw [hK]; exact (mL_0 hm0 n nd nj my 1))⟩) hP hD hS (rfl) dX5_insertedTime_18
  · obtain ⟨hj9, rfl⟩ := ix_some ho
    have hl : lv_has ls 6 [(0, .ref (gd 0)), (1, .int (nI (j9)))] := hl
    refine lv_aload_n hx hb dX5_insertedTime_0 rfl (lv_at hl 0 rfl) ?_
    refine lv_aload_n hx hb dX5_insertedTime_1 rfl (lv_at hl 0 rfl) ?_
    refine lv_iload_n hx hb dX5_insertedTime_2 rfl (lv_at hl 1 rfl) ?_
    refine zk_V_i (n := 1) (As := [.int (nI (j9))]) (rest := [.ref (gd 0)]) hx hb hml hts hown hZ hP (c_X5_isDrive l D cA _ hm0 (by omega) (nI (j9))) gX5_insertedTime_X5_isDrive rfl rfl ⟨rfl, rfl⟩ ⟨by decide +kernel, Nat.le_of_ble_eq_true rfl, Nat.le_of_ble_eq_true rfl⟩ m0 rfl hl.1 rfl (Nat.le_of_ble_eq_true rfl) ⟨Nat.le_of_ble_eq_true rfl, Nat.le_of_ble_eq_true rfl⟩ rfl dX5_insertedTime_3 (fun r_9 hr_10 => ?_)
    obtain rfl := show r_9 = _ from hr_10
    refine zx_val (y := bI (true)) (by rw [ix_in (by omega) hj9]; rfl) ?_
    refine lv_aload_n hx hb dX5_insertedTime_6 rfl (lv_at hl 0 rfl) ?_
    refine lv_iload_n hx hb dX5_insertedTime_7 rfl (lv_at hl 1 rfl) ?_
    refine zk_V_i (n := 1) (As := [.int (nI (j9))]) (rest := [.int (bI (true)), .ref (gd 0)]) hx hb hml hts hown hZ hP (c_X5_hasTape l D cA _ hm0 hd3 hH8 (nI (j9))) gX5_insertedTime_X5_hasTape rfl rfl ⟨rfl, rfl⟩ ⟨by decide +kernel, Nat.le_of_ble_eq_true rfl, Nat.le_of_ble_eq_true rfl⟩ m0 rfl hl.1 rfl (Nat.le_of_ble_eq_true rfl) ⟨Nat.le_of_ble_eq_true rfl, Nat.le_of_ble_eq_true rfl⟩ rfl dX5_insertedTime_8 (fun r_11 hr_12 => ?_)
    obtain rfl := show r_11 = _ from hr_12
    refine zx_val (y := bI (false)) (by rw [ix_in (by omega) hj9]; show bI (hd j9).isSome = _; rw [hhn]; rfl) ?_
    refine zw_V_i (n := 2) (mc := 0) (ms := 0) (As := [.int (bI (true)), .int (bI (false))]) (rest := []) (w1 := fun u : Unit => ws.set 0 (gd 0, zMod gd n nd nj my 2)) hx hb hml hts hown hZ hP hD hS hA (c_X5_mayBoth l D cA _ _ gd n nd nj my th true false (m0)) gX5_insertedTime_X5_mayBoth rfl rfl ⟨rfl, rfl⟩ ⟨by decide +kernel, Nat.le_of_ble_eq_true rfl, Nat.le_of_ble_eq_true rfl⟩ m0 rfl hl.1 rfl (Nat.le_of_ble_eq_true rfl) ⟨Nat.le_of_ble_eq_true rfl, Nat.le_of_ble_eq_true rfl⟩ rfl dX5_insertedTime_11 (fun r_13 u_15 H locs hr_14 hP hD hS hz_15 => ?_)
    obtain rfl := show r_13 = _ from hr_14
    have hP : va_P D vwCl (ws.set 0 (gd 0, zMod gd n nd nj my 2)) H := hP
    have hD : va_D A (ws.set 0 (gd 0, zMod gd n nd nj my 2)) := hD
    refine zb_ne (tgt := 19) hx hb dX5_insertedTime_14 (by decide) (fun c_16 => Bool.noConfusion c_16) (fun c_16 => ?_)
    refine lv_iconst (v := nI (0)) hx hb dX5_insertedTime_17 (by decide) ?_
    exact zr_qi (S := va_W) (w1 := fun u => u) (ws.set 0 (gd 0, zMod gd n nd nj my 2)) hx hb hr hlocks (⟨(mKeep_set mKeep_rf (by decide)), _, _, _, _, _, (by rw [hK]; exact (mL_0 hm0 n nd nj my 2))⟩) hP hD hS (rfl) dX5_insertedTime_18

