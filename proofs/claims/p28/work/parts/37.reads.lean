set_option maxHeartbeats 4000000 in
set_option maxRecDepth 100000 in
theorem c_X4_files (l : Launch) (hlt : l.stackTraces = false) (D : va_G) (cA : Nat → ClassId) (sz : Nat) (ws : va_W) (ad : Nat → Nat) (T : Nat → Nat) (Bd : Nat → Nat) (E : Nat → Nat) (PT : Nat → Nat) (PB : Nat → Nat) (PE : Nat → Nat) (n : Nat) (tr : Nat → Nat) (le : Nat → Nat) (sl : Nat → Nat) (mo : Nat → Option Nat) (la : Nat → Bool) (fc : Nat → Nat) (bo : Nat → Nat → Nat) (nd : Nat) (mk : Nat → Nat) (ck : Nat → Int32) (ct : Nat → Nat) (hd : Nat → Option Nat) (pq : Nat → Int32) (nj : Nat) (fw : Nat → Int32) (jf : Nat → Nat) (dl : Nat → Nat) (dn : Nat) (oc : Nat) (s8 : Nat → Int32) (s9 : Nat → Int32) (s10 : Nat → Int32) (s11 : Nat → Int32) (s12 : Nat → Int32) (hL : zL cA ws ad T Bd E PT PB PE n tr le sl mo la fc bo nd mk ck ct hd pq nj fw jf dl dn oc s8 s9 s10 s11 s12) (hI : zI n tr le sl mo fc bo nd mk ct hd pq nj fw jf dl) (v0 : Int32) : vx_Met l yX4_files wsX4_files ({ frames := 7, cells := 1, slots := 6, locals := 118 }) (va_Pc [.ref (ad 0), .int (v0)] (zMX D cA (ws) sz)) (va_Qi (fun (r : Int32) (u : Nat) => u < n ∧ v0 = nI u ∧ r = nI (fc u)) (fun u => zB D (va_A (ws) sz) (ws)) (va_A (ws) sz)) (zXC (fun (E : String) (u : Unit) => zex1 (k1 (ix v0 n)) E) (fun u => ws) D (va_A (ws) sz)) 1 6 (va_A (ws) sz) := by
  refine zOpenX (cc := cX4_files) (maxL := 2) (ret := (some .int)) (own := RX4) (by decide) rfl rfl (Nat.le_of_ble_eq_true rfl) ?_
  intro p e s m below meth c ls hx hb hr hml hts hown hlocks htab ⟨⟨hZ, hP, hD0, hsz⟩, hX⟩ hl
  subst hsz
  have hD := hD0.self (sz := s.heap.size)
  generalize hAe : va_A (ws) s.heap.size = A at hD hX ⊢
  have hA : ∀ q : Nat, s.heap.size ≤ q → A q := fun q h => by rw [← hAe]; exact Or.inr h
  have hS : va_S A s.heap s.heap [] := va_S.rf
  have iX3 : ∀ w ∈ wsX30, w ∈ wsX4_files := by decide +kernel
  have hl : lv_has ls 2 [(0, .ref (ad 0)), (1, .int (v0))] := hl
  have hL0 := hL
  obtain ⟨⟨l22, l23, l24, l25, l26, l27, l28, l29, l30, l31, l32, l33, l34⟩, hT, hE, hBne⟩ := hL
  obtain ⟨hn8, hd3, hj60, hIT, hID, hIJ, hIdl, hIw⟩ := hI
  refine lv_aload_n hx hb dX4_files_0 rfl (lv_at hl 0 rfl) ?_
  refine lv_iload_n hx hb dX4_files_1 rfl (lv_at hl 1 rfl) ?_
  refine zt_V_a (n := 1) (mc := 1) (ms := 6) (As := [.int (v0)]) (rest := []) hx hb hml hts hown hZ hX hP hD hS hA (c_X4_tapeNumbered l hlt D cA _ _ 0 (ad 0) (ad 1) n (ad 2) nd (ad 3) (ad 4) l22 1 T l23 hn8 v0) gX4_files_X4_tapeNumbered rfl rfl ⟨rfl, rfl⟩ ⟨by decide +kernel, Nat.le_of_ble_eq_true rfl, Nat.le_of_ble_eq_true rfl⟩ l22 rfl hl.1 rfl (Nat.le_of_ble_eq_true rfl) ⟨Nat.le_of_ble_eq_true rfl, Nat.le_of_ble_eq_true rfl⟩ rfl dX4_files_2 (fun E9 ce9 q9 u9 H locs hpx hP hD hS hz hq1 hq2 hq3 => ?_) (fun u_1 r_3 H locs hp_2 hra hP hD hS hz => ?_)
  · exact zt_out () hS hP hD (⟨by rw [ix_none (by omega) hpx.2]; rfl, hpx.1⟩) htab hlocks hq1 hq2 hq3 (Nat.le_of_ble_eq_true rfl) (Nat.le_of_ble_eq_true rfl)
  have hP : va_P D vwCl (ws) H := hP
  have hD : va_D A (ws) := hD
  obtain ⟨htn, hv_t⟩ := hp_2
  obtain ⟨t, rfl⟩ : ∃ z, z = u_1 := ⟨_, rfl⟩
  have hra : r_3 = T t := hra
  subst hra
  subst hv_t
  have hl : lv_has ls 2 [(0, .ref (ad 0)), (1, .int (nI (t)))] := hl
  obtain ⟨-, -, hPT_t, hPB_t⟩ := hT t htn
  obtain ⟨htr1_t, htr8_t, hle4_t, hle200_t, hsl12_t, hmo_t, hfc10_t, hbo0_t, hbinc_t, hbtop_t⟩ := hIT t htn
  refine va_getN (D := D) (ci := 3) (v := .int (nI (fc t))) (C := RX3) (T := TX3) (N := 8) hx hb hts iX3 hown hZ.1 hP (PT t) (hT t htn).1 rfl 6 (by decide) (va_Nw.use rfl (hZ.2 (.fieldLinkNest RX4 88 RX3 "fileCount" "I" "TapeRobotics") (List.mem_of_getElem? (i := 50) rfl))) (fun _ h9 => h9) rfl dX4_files_5 ?_
  exact zr_ti (S := Nat) (w1 := fun u => ws) t hx hb hr hlocks (⟨htn, rfl, rfl⟩) hP hD hS (rfl) dX4_files_8 ⟨Nat.le_of_ble_eq_true rfl, Nat.le_of_ble_eq_true rfl⟩

set_option maxHeartbeats 4000000 in
set_option maxRecDepth 100000 in
theorem c_X4_clock (l : Launch) (hlt : l.stackTraces = false) (D : va_G) (cA : Nat → ClassId) (sz : Nat) (ws : va_W) (ad : Nat → Nat) (T : Nat → Nat) (Bd : Nat → Nat) (E : Nat → Nat) (PT : Nat → Nat) (PB : Nat → Nat) (PE : Nat → Nat) (n : Nat) (tr : Nat → Nat) (le : Nat → Nat) (sl : Nat → Nat) (mo : Nat → Option Nat) (la : Nat → Bool) (fc : Nat → Nat) (bo : Nat → Nat → Nat) (nd : Nat) (mk : Nat → Nat) (ck : Nat → Int32) (ct : Nat → Nat) (hd : Nat → Option Nat) (pq : Nat → Int32) (nj : Nat) (fw : Nat → Int32) (jf : Nat → Nat) (dl : Nat → Nat) (dn : Nat) (oc : Nat) (s8 : Nat → Int32) (s9 : Nat → Int32) (s10 : Nat → Int32) (s11 : Nat → Int32) (s12 : Nat → Int32) (hL : zL cA ws ad T Bd E PT PB PE n tr le sl mo la fc bo nd mk ck ct hd pq nj fw jf dl dn oc s8 s9 s10 s11 s12) (hI : zI n tr le sl mo fc bo nd mk ct hd pq nj fw jf dl) (v0 : Int32) : vx_Met l yX4_clock wsX4_clock ({ frames := 7, cells := 1, slots := 6, locals := 118 }) (va_Pc [.ref (ad 0), .int (v0)] (zMX D cA (ws) sz)) (va_Qi (fun (r : Int32) (u : Nat) => u < nd ∧ v0 = nI u ∧ r = ck u) (fun u => zB D (va_A (ws) sz) (ws)) (va_A (ws) sz)) (zXC (fun (E : String) (u : Unit) => zex1 (k1 (ix v0 nd)) E) (fun u => ws) D (va_A (ws) sz)) 1 6 (va_A (ws) sz) := by
  refine zOpenX (cc := cX4_clock) (maxL := 2) (ret := (some .int)) (own := RX4) (by decide) rfl rfl (Nat.le_of_ble_eq_true rfl) ?_
  intro p e s m below meth c ls hx hb hr hml hts hown hlocks htab ⟨⟨hZ, hP, hD0, hsz⟩, hX⟩ hl
  subst hsz
  have hD := hD0.self (sz := s.heap.size)
  generalize hAe : va_A (ws) s.heap.size = A at hD hX ⊢
  have hA : ∀ q : Nat, s.heap.size ≤ q → A q := fun q h => by rw [← hAe]; exact Or.inr h
  have hS : va_S A s.heap s.heap [] := va_S.rf
  have iX0 : ∀ w ∈ wsX00, w ∈ wsX4_clock := by decide +kernel
  have hl : lv_has ls 2 [(0, .ref (ad 0)), (1, .int (v0))] := hl
  have hL0 := hL
  obtain ⟨⟨l22, l23, l24, l25, l26, l27, l28, l29, l30, l31, l32, l33, l34⟩, hT, hE, hBne⟩ := hL
  obtain ⟨hn8, hd3, hj60, hIT, hID, hIJ, hIdl, hIw⟩ := hI
  refine lv_aload_n hx hb dX4_clock_0 rfl (lv_at hl 0 rfl) ?_
  refine lv_iload_n hx hb dX4_clock_1 rfl (lv_at hl 1 rfl) ?_
  refine zt_V_a (n := 1) (mc := 1) (ms := 6) (As := [.int (v0)]) (rest := []) hx hb hml hts hown hZ hX hP hD hS hA (c_X4_driveNumbered l hlt D cA _ _ 0 (ad 0) (ad 1) n (ad 2) nd (ad 3) (ad 4) l22 2 E l24 hd3 v0) gX4_clock_X4_driveNumbered rfl rfl ⟨rfl, rfl⟩ ⟨by decide +kernel, Nat.le_of_ble_eq_true rfl, Nat.le_of_ble_eq_true rfl⟩ l22 rfl hl.1 rfl (Nat.le_of_ble_eq_true rfl) ⟨Nat.le_of_ble_eq_true rfl, Nat.le_of_ble_eq_true rfl⟩ rfl dX4_clock_2 (fun E9 ce9 q9 u9 H locs hpx hP hD hS hz hq1 hq2 hq3 => ?_) (fun u_1 r_3 H locs hp_2 hra hP hD hS hz => ?_)
  · exact zt_out () hS hP hD (⟨by rw [ix_none (by omega) hpx.2]; rfl, hpx.1⟩) htab hlocks hq1 hq2 hq3 (Nat.le_of_ble_eq_true rfl) (Nat.le_of_ble_eq_true rfl)
  have hP : va_P D vwCl (ws) H := hP
  have hD : va_D A (ws) := hD
  obtain ⟨hjn, hv_j⟩ := hp_2
  obtain ⟨j, rfl⟩ : ∃ z, z = u_1 := ⟨_, rfl⟩
  have hra : r_3 = E j := hra
  subst hra
  subst hv_j
  have hl : lv_has ls 2 [(0, .ref (ad 0)), (1, .int (nI (j)))] := hl
  obtain ⟨-, hPE_j⟩ := hE j hjn
  obtain ⟨hmk_j, hct_j, hpn_j, hps_j⟩ := hID j hjn
  refine va_getN (D := D) (ci := 0) (v := .int (ck j)) (C := RX0) (T := TX0) (N := 7) hx hb hts iX0 hown hZ.1 hP (PE j) (hE j hjn).1 rfl 5 (by decide) (va_Nw.use rfl (hZ.2 (.fieldLinkNest RX4 171 RX0 "time" "I" "TapeRobotics") (List.mem_of_getElem? (i := 55) rfl))) (fun _ h9 => h9) rfl dX4_clock_5 ?_
  exact zr_ti (S := Nat) (w1 := fun u => ws) j hx hb hr hlocks (⟨hjn, rfl, rfl⟩) hP hD hS (rfl) dX4_clock_8 ⟨Nat.le_of_ble_eq_true rfl, Nat.le_of_ble_eq_true rfl⟩

set_option maxHeartbeats 4000000 in
set_option maxRecDepth 100000 in
theorem c_X4_stands (l : Launch) (hlt : l.stackTraces = false) (D : va_G) (cA : Nat → ClassId) (sz : Nat) (ws : va_W) (ad : Nat → Nat) (T : Nat → Nat) (Bd : Nat → Nat) (E : Nat → Nat) (PT : Nat → Nat) (PB : Nat → Nat) (PE : Nat → Nat) (n : Nat) (tr : Nat → Nat) (le : Nat → Nat) (sl : Nat → Nat) (mo : Nat → Option Nat) (la : Nat → Bool) (fc : Nat → Nat) (bo : Nat → Nat → Nat) (nd : Nat) (mk : Nat → Nat) (ck : Nat → Int32) (ct : Nat → Nat) (hd : Nat → Option Nat) (pq : Nat → Int32) (nj : Nat) (fw : Nat → Int32) (jf : Nat → Nat) (dl : Nat → Nat) (dn : Nat) (oc : Nat) (s8 : Nat → Int32) (s9 : Nat → Int32) (s10 : Nat → Int32) (s11 : Nat → Int32) (s12 : Nat → Int32) (hL : zL cA ws ad T Bd E PT PB PE n tr le sl mo la fc bo nd mk ck ct hd pq nj fw jf dl dn oc s8 s9 s10 s11 s12) (hI : zI n tr le sl mo fc bo nd mk ct hd pq nj fw jf dl) (v0 : Int32) : vx_Met l yX4_stands wsX4_stands ({ frames := 7, cells := 1, slots := 6, locals := 118 }) (va_Pc [.ref (ad 0), .int (v0)] (zMX D cA (ws) sz)) (va_Qi (fun (r : Int32) (u : Nat) => u < nd ∧ v0 = nI u ∧ r = pq u) (fun u => zB D (va_A (ws) sz) (ws)) (va_A (ws) sz)) (zXC (fun (E : String) (u : Unit) => zex1 (k1 (ix v0 nd)) E) (fun u => ws) D (va_A (ws) sz)) 1 6 (va_A (ws) sz) := by
  refine zOpenX (cc := cX4_stands) (maxL := 2) (ret := (some .int)) (own := RX4) (by decide) rfl rfl (Nat.le_of_ble_eq_true rfl) ?_
  intro p e s m below meth c ls hx hb hr hml hts hown hlocks htab ⟨⟨hZ, hP, hD0, hsz⟩, hX⟩ hl
  subst hsz
  have hD := hD0.self (sz := s.heap.size)
  generalize hAe : va_A (ws) s.heap.size = A at hD hX ⊢
  have hA : ∀ q : Nat, s.heap.size ≤ q → A q := fun q h => by rw [← hAe]; exact Or.inr h
  have hS : va_S A s.heap s.heap [] := va_S.rf
  have iX0 : ∀ w ∈ wsX00, w ∈ wsX4_stands := by decide +kernel
  have hl : lv_has ls 2 [(0, .ref (ad 0)), (1, .int (v0))] := hl
  have hL0 := hL
  obtain ⟨⟨l22, l23, l24, l25, l26, l27, l28, l29, l30, l31, l32, l33, l34⟩, hT, hE, hBne⟩ := hL
  obtain ⟨hn8, hd3, hj60, hIT, hID, hIJ, hIdl, hIw⟩ := hI
  refine lv_aload_n hx hb dX4_stands_0 rfl (lv_at hl 0 rfl) ?_
  refine lv_iload_n hx hb dX4_stands_1 rfl (lv_at hl 1 rfl) ?_
  refine zt_V_a (n := 1) (mc := 1) (ms := 6) (As := [.int (v0)]) (rest := []) hx hb hml hts hown hZ hX hP hD hS hA (c_X4_driveNumbered l hlt D cA _ _ 0 (ad 0) (ad 1) n (ad 2) nd (ad 3) (ad 4) l22 2 E l24 hd3 v0) gX4_stands_X4_driveNumbered rfl rfl ⟨rfl, rfl⟩ ⟨by decide +kernel, Nat.le_of_ble_eq_true rfl, Nat.le_of_ble_eq_true rfl⟩ l22 rfl hl.1 rfl (Nat.le_of_ble_eq_true rfl) ⟨Nat.le_of_ble_eq_true rfl, Nat.le_of_ble_eq_true rfl⟩ rfl dX4_stands_2 (fun E9 ce9 q9 u9 H locs hpx hP hD hS hz hq1 hq2 hq3 => ?_) (fun u_1 r_3 H locs hp_2 hra hP hD hS hz => ?_)
  · exact zt_out () hS hP hD (⟨by rw [ix_none (by omega) hpx.2]; rfl, hpx.1⟩) htab hlocks hq1 hq2 hq3 (Nat.le_of_ble_eq_true rfl) (Nat.le_of_ble_eq_true rfl)
  have hP : va_P D vwCl (ws) H := hP
  have hD : va_D A (ws) := hD
  obtain ⟨hjn, hv_j⟩ := hp_2
  obtain ⟨j, rfl⟩ : ∃ z, z = u_1 := ⟨_, rfl⟩
  have hra : r_3 = E j := hra
  subst hra
  subst hv_j
  have hl : lv_has ls 2 [(0, .ref (ad 0)), (1, .int (nI (j)))] := hl
  obtain ⟨-, hPE_j⟩ := hE j hjn
  obtain ⟨hmk_j, hct_j, hpn_j, hps_j⟩ := hID j hjn
  refine va_getN (D := D) (ci := 0) (v := .int (pq j)) (C := RX0) (T := TX0) (N := 7) hx hb hts iX0 hown hZ.1 hP (PE j) (hE j hjn).1 rfl 4 (by decide) (va_Nw.use rfl (hZ.2 (.fieldLinkNest RX4 128 RX0 "place" "I" "TapeRobotics") (List.mem_of_getElem? (i := 54) rfl))) (fun _ h9 => h9) rfl dX4_stands_5 ?_
  exact zr_ti (S := Nat) (w1 := fun u => ws) j hx hb hr hlocks (⟨hjn, rfl, rfl⟩) hP hD hS (rfl) dX4_stands_8 ⟨Nat.le_of_ble_eq_true rfl, Nat.le_of_ble_eq_true rfl⟩

set_option maxHeartbeats 4000000 in
set_option maxRecDepth 100000 in
theorem c_X4_placeOf (l : Launch) (hlt : l.stackTraces = false) (D : va_G) (cA : Nat → ClassId) (sz : Nat) (ws : va_W) (ad : Nat → Nat) (T : Nat → Nat) (Bd : Nat → Nat) (E : Nat → Nat) (PT : Nat → Nat) (PB : Nat → Nat) (PE : Nat → Nat) (n : Nat) (tr : Nat → Nat) (le : Nat → Nat) (sl : Nat → Nat) (mo : Nat → Option Nat) (la : Nat → Bool) (fc : Nat → Nat) (bo : Nat → Nat → Nat) (nd : Nat) (mk : Nat → Nat) (ck : Nat → Int32) (ct : Nat → Nat) (hd : Nat → Option Nat) (pq : Nat → Int32) (nj : Nat) (fw : Nat → Int32) (jf : Nat → Nat) (dl : Nat → Nat) (dn : Nat) (oc : Nat) (s8 : Nat → Int32) (s9 : Nat → Int32) (s10 : Nat → Int32) (s11 : Nat → Int32) (s12 : Nat → Int32) (hL : zL cA ws ad T Bd E PT PB PE n tr le sl mo la fc bo nd mk ck ct hd pq nj fw jf dl dn oc s8 s9 s10 s11 s12) (hI : zI n tr le sl mo fc bo nd mk ct hd pq nj fw jf dl) (v0 : Int32) : vx_Met l yX4_placeOf wsX4_placeOf ({ frames := 7, cells := 1, slots := 6, locals := 118 }) (va_Pc [.ref (ad 0), .int (v0)] (zMX D cA (ws) sz)) (va_Qi (fun (r : Int32) (u : Nat) => u < n ∧ v0 = nI u ∧ r = placeR mo sl u) (fun u => zB D (va_A (ws) sz) (ws)) (va_A (ws) sz)) (zXC (fun (E : String) (u : Unit) => zex1 (k1 (ix v0 n)) E) (fun u => ws) D (va_A (ws) sz)) 1 6 (va_A (ws) sz) := by
  refine zOpenX (cc := cX4_placeOf) (maxL := 3) (ret := (some .int)) (own := RX4) (by decide) rfl rfl (Nat.le_of_ble_eq_true rfl) ?_
  intro p e s m below meth c ls hx hb hr hml hts hown hlocks htab ⟨⟨hZ, hP, hD0, hsz⟩, hX⟩ hl
  subst hsz
  have hD := hD0.self (sz := s.heap.size)
  generalize hAe : va_A (ws) s.heap.size = A at hD hX ⊢
  have hA : ∀ q : Nat, s.heap.size ≤ q → A q := fun q h => by rw [← hAe]; exact Or.inr h
  have hS : va_S A s.heap s.heap [] := va_S.rf
  have iX3 : ∀ w ∈ wsX30, w ∈ wsX4_placeOf := by decide +kernel
  have hl : lv_has ls 3 [(0, .ref (ad 0)), (1, .int (v0))] := hl
  have hL0 := hL
  obtain ⟨⟨l22, l23, l24, l25, l26, l27, l28, l29, l30, l31, l32, l33, l34⟩, hT, hE, hBne⟩ := hL
  obtain ⟨hn8, hd3, hj60, hIT, hID, hIJ, hIdl, hIw⟩ := hI
  refine lv_aload_n hx hb dX4_placeOf_0 rfl (lv_at hl 0 rfl) ?_
  refine lv_iload_n hx hb dX4_placeOf_1 rfl (lv_at hl 1 rfl) ?_
  refine zt_V_a (n := 1) (mc := 1) (ms := 6) (As := [.int (v0)]) (rest := []) hx hb hml hts hown hZ hX hP hD hS hA (c_X4_tapeNumbered l hlt D cA _ _ 0 (ad 0) (ad 1) n (ad 2) nd (ad 3) (ad 4) l22 1 T l23 hn8 v0) gX4_placeOf_X4_tapeNumbered rfl rfl ⟨rfl, rfl⟩ ⟨by decide +kernel, Nat.le_of_ble_eq_true rfl, Nat.le_of_ble_eq_true rfl⟩ l22 rfl hl.1 rfl (Nat.le_of_ble_eq_true rfl) ⟨Nat.le_of_ble_eq_true rfl, Nat.le_of_ble_eq_true rfl⟩ rfl dX4_placeOf_2 (fun E9 ce9 q9 u9 H locs hpx hP hD hS hz hq1 hq2 hq3 => ?_) (fun u_1 r_3 H locs hp_2 hra hP hD hS hz => ?_)
  · exact zt_out () hS hP hD (⟨by rw [ix_none (by omega) hpx.2]; rfl, hpx.1⟩) htab hlocks hq1 hq2 hq3 (Nat.le_of_ble_eq_true rfl) (Nat.le_of_ble_eq_true rfl)
  have hP : va_P D vwCl (ws) H := hP
  have hD : va_D A (ws) := hD
  obtain ⟨htn, hv_t⟩ := hp_2
  obtain ⟨t, rfl⟩ : ∃ z, z = u_1 := ⟨_, rfl⟩
  have hra : r_3 = T t := hra
  subst hra
  subst hv_t
  have hl : lv_has ls 3 [(0, .ref (ad 0)), (1, .int (nI (t)))] := hl
  obtain ⟨-, -, hPT_t, hPB_t⟩ := hT t htn
  obtain ⟨htr1_t, htr8_t, hle4_t, hle200_t, hsl12_t, hmo_t, hfc10_t, hbo0_t, hbinc_t, hbtop_t⟩ := hIT t htn
  refine lv_astore_n (lv' := [(2, .ref (T t)), (0, .ref (ad 0)), (1, .int (nI (t)))]) hx hb dX4_placeOf_5 rfl hl (by decide) rfl (fun ls hl => ?_)
  refine lv_aload_n hx hb dX4_placeOf_6 rfl (lv_at hl 0 rfl) ?_
  refine zk_VN_i (n := 0) (As := []) (rest := []) hx hb hml hts hown hZ hP (c_X3_isInDrive l D cA _ (PT t) (T t) t (tr t) (le t) (sl t) (fc t) (Bd t) ((mo t)) (la t) (hT t htn).1 (fun k h => by have := (hmo_t k h).1; omega)) ggX4_placeOf_X3_isInDrive (List.mem_of_getElem? (i := 2) rfl) (by decide +kernel) rfl ⟨rfl, rfl⟩ ⟨by decide +kernel, Nat.le_of_ble_eq_true rfl, Nat.le_of_ble_eq_true rfl⟩ (hT t htn).1 rfl hl.1 rfl (Nat.le_of_ble_eq_true rfl) ⟨Nat.le_of_ble_eq_true rfl, Nat.le_of_ble_eq_true rfl⟩ rfl dX4_placeOf_7 (fun r_4 hr_5 => ?_)
  obtain rfl := show r_4 = _ from hr_5
  refine zb_eq (tgt := 22) hx hb dX4_placeOf_10 (by decide) (fun c_6 => ?_) (fun c_6 => ?_)
  · refine lv_aload_n hx hb dX4_placeOf_22 rfl (lv_at hl 0 rfl) ?_
    refine va_getN (D := D) (ci := 3) (v := .int (nI (sl t))) (C := RX3) (T := TX3) (N := 8) hx hb hts iX3 hown hZ.1 hP (PT t) (hT t htn).1 rfl 3 (by decide) (va_Nw.use rfl (hZ.2 (.fieldLinkNest RX4 82 RX3 "slot" "I" "TapeRobotics") (List.mem_of_getElem? (i := 47) rfl))) (fun _ h9 => h9) rfl dX4_placeOf_23 ?_
    exact zr_ti (S := Nat) (w1 := fun u => ws) t hx hb hr hlocks (⟨htn, rfl, by unfold placeR; first | rw [if_pos (by assumption)] | rw [if_neg (by rw [show (mo t).isSome = false by assumption]; exact Bool.noConfusion)]⟩) hP hD hS (rfl) dX4_placeOf_26 ⟨Nat.le_of_ble_eq_true rfl, Nat.le_of_ble_eq_true rfl⟩
  · refine lv_iconst (v := (-1)) hx hb dX4_placeOf_13 (by decide) ?_
    refine lv_aload_n hx hb dX4_placeOf_14 rfl (lv_at hl 0 rfl) ?_
    refine va_getN (D := D) (ci := 3) (v := .int (oI (mo t))) (C := RX3) (T := TX3) (N := 8) hx hb hts iX3 hown hZ.1 hP (PT t) (hT t htn).1 rfl 4 (by decide) (va_Nw.use rfl (hZ.2 (.fieldLinkNest RX4 85 RX3 "driveNumber" "I" "TapeRobotics") (List.mem_of_getElem? (i := 48) rfl))) (fun _ h9 => h9) rfl dX4_placeOf_15 ?_
    refine lv_isub hx hb dX4_placeOf_18 ?_
    refine lv_goto (tgt := 26) hx hb dX4_placeOf_19 (by decide) ?_
    exact zr_ti (S := Nat) (w1 := fun u => ws) t hx hb hr hlocks (⟨htn, rfl, by unfold placeR; first | rw [if_pos (by assumption)] | rw [if_neg (by rw [show (mo t).isSome = false by assumption]; exact Bool.noConfusion)]⟩) hP hD hS (rfl) dX4_placeOf_26 ⟨Nat.le_of_ble_eq_true rfl, Nat.le_of_ble_eq_true rfl⟩

set_option maxHeartbeats 4000000 in
set_option maxRecDepth 100000 in
theorem c_X4_start (l : Launch) (hlt : l.stackTraces = false) (D : va_G) (cA : Nat → ClassId) (sz : Nat) (ws : va_W) (ad : Nat → Nat) (T : Nat → Nat) (Bd : Nat → Nat) (E : Nat → Nat) (PT : Nat → Nat) (PB : Nat → Nat) (PE : Nat → Nat) (n : Nat) (tr : Nat → Nat) (le : Nat → Nat) (sl : Nat → Nat) (mo : Nat → Option Nat) (la : Nat → Bool) (fc : Nat → Nat) (bo : Nat → Nat → Nat) (nd : Nat) (mk : Nat → Nat) (ck : Nat → Int32) (ct : Nat → Nat) (hd : Nat → Option Nat) (pq : Nat → Int32) (nj : Nat) (fw : Nat → Int32) (jf : Nat → Nat) (dl : Nat → Nat) (dn : Nat) (oc : Nat) (s8 : Nat → Int32) (s9 : Nat → Int32) (s10 : Nat → Int32) (s11 : Nat → Int32) (s12 : Nat → Int32) (hL : zL cA ws ad T Bd E PT PB PE n tr le sl mo la fc bo nd mk ck ct hd pq nj fw jf dl dn oc s8 s9 s10 s11 s12) (hI : zI n tr le sl mo fc bo nd mk ct hd pq nj fw jf dl) (v0 : Int32) (v1 : Int32) : vx_Met l yX4_start wsX4_start ({ frames := 7, cells := 2, slots := 12, locals := 118 }) (va_Pc [.ref (ad 0), .int (v0), .int (v1)] (zMX D cA (ws) sz)) (va_Qi (fun (r : Int32) (u : Nat × Nat) => u.1 < n ∧ v0 = nI u.1 ∧ u.2 < fc u.1 ∧ v1 = nI u.2 ∧ r = nI (bo u.1 u.2)) (fun u => zB D (va_A (ws) sz) (ws)) (va_A (ws) sz)) (zXC (fun (E : String) (u : Unit) => zex1 (k1b (ix v0 n) (fun t => ix v1 (fc t))) E) (fun u => ws) D (va_A (ws) sz)) 2 12 (va_A (ws) sz) := by
  refine zOpenX (cc := cX4_start) (maxL := 4) (ret := (some .int)) (own := RX4) (by decide) rfl rfl (Nat.le_of_ble_eq_true rfl) ?_
  intro p e s m below meth c ls hx hb hr hml hts hown hlocks htab ⟨⟨hZ, hP, hD0, hsz⟩, hX⟩ hl
  subst hsz
  have hD := hD0.self (sz := s.heap.size)
  generalize hAe : va_A (ws) s.heap.size = A at hD hX ⊢
  have hA : ∀ q : Nat, s.heap.size ≤ q → A q := fun q h => by rw [← hAe]; exact Or.inr h
  have hS : va_S A s.heap s.heap [] := va_S.rf
  have hl : lv_has ls 4 [(0, .ref (ad 0)), (1, .int (v0)), (2, .int (v1))] := hl
  have hL0 := hL
  obtain ⟨⟨l22, l23, l24, l25, l26, l27, l28, l29, l30, l31, l32, l33, l34⟩, hT, hE, hBne⟩ := hL
  obtain ⟨hn8, hd3, hj60, hIT, hID, hIJ, hIdl, hIw⟩ := hI
  refine lv_aload_n hx hb dX4_start_0 rfl (lv_at hl 0 rfl) ?_
  refine lv_iload_n hx hb dX4_start_1 rfl (lv_at hl 1 rfl) ?_
  refine zt_V_a (n := 1) (mc := 1) (ms := 6) (As := [.int (v0)]) (rest := []) hx hb hml hts hown hZ hX hP hD hS hA (c_X4_tapeNumbered l hlt D cA _ _ 0 (ad 0) (ad 1) n (ad 2) nd (ad 3) (ad 4) l22 1 T l23 hn8 v0) gX4_start_X4_tapeNumbered rfl rfl ⟨rfl, rfl⟩ ⟨by decide +kernel, Nat.le_of_ble_eq_true rfl, Nat.le_of_ble_eq_true rfl⟩ l22 rfl hl.1 rfl (Nat.le_of_ble_eq_true rfl) ⟨Nat.le_of_ble_eq_true rfl, Nat.le_of_ble_eq_true rfl⟩ rfl dX4_start_2 (fun E9 ce9 q9 u9 H locs hpx hP hD hS hz hq1 hq2 hq3 => ?_) (fun u_1 r_3 H locs hp_2 hra hP hD hS hz => ?_)
  · exact zt_out () hS hP hD (⟨k1b_1 (ix_none (by omega) hpx.2), hpx.1⟩) htab hlocks hq1 hq2 hq3 (Nat.le_of_ble_eq_true rfl) (Nat.le_of_ble_eq_true rfl)
  have hP : va_P D vwCl (ws) H := hP
  have hD : va_D A (ws) := hD
  obtain ⟨htn, hv_t⟩ := hp_2
  obtain ⟨t, rfl⟩ : ∃ z, z = u_1 := ⟨_, rfl⟩
  have hra : r_3 = T t := hra
  subst hra
  subst hv_t
  have hl : lv_has ls 4 [(0, .ref (ad 0)), (1, .int (nI (t))), (2, .int (v1))] := hl
  obtain ⟨-, -, hPT_t, hPB_t⟩ := hT t htn
  obtain ⟨htr1_t, htr8_t, hle4_t, hle200_t, hsl12_t, hmo_t, hfc10_t, hbo0_t, hbinc_t, hbtop_t⟩ := hIT t htn
  refine lv_astore_n (lv' := [(3, .ref (T t)), (0, .ref (ad 0)), (1, .int (nI (t))), (2, .int (v1))]) hx hb dX4_start_5 rfl hl (by decide) rfl (fun ls hl => ?_)
  refine lv_aload_n hx hb dX4_start_6 rfl (lv_at hl 0 rfl) ?_
  refine lv_iload_n hx hb dX4_start_7 rfl (lv_at hl 3 rfl) ?_
  refine zt_S_v (n := 2) (mc := 1) (ms := 6) (As := [.ref (T t), .int (v1)]) (rest := []) hx hb hml hts hown hZ hX hP hD hS hA (c_X4_refuseMissingFile l hlt D cA _ _ (PT t) (T t) t (tr t) (le t) (sl t) (fc t) (Bd t) ((mo t)) (la t) (hT t htn).1 (by omega) v1) gX4_start_X4_refuseMissingFile rfl ⟨rfl, rfl⟩ ⟨by decide +kernel, Nat.le_of_ble_eq_true rfl, Nat.le_of_ble_eq_true rfl⟩ hl.1 rfl (Nat.le_of_ble_eq_true rfl) ⟨Nat.le_of_ble_eq_true rfl, Nat.le_of_ble_eq_true rfl⟩ rfl dX4_start_8 (fun E9 ce9 q9 u9 H locs hpx hP hD hS hz hq1 hq2 hq3 => ?_) (fun u_4 H locs hp_5 hP hD hS hz => ?_)
  · exact zt_out () hS hP hD (⟨k1b_2 (ix_in (by omega) htn) (ix_none (by omega) hpx.2), hpx.1⟩) htab hlocks hq1 hq2 hq3 (Nat.le_of_ble_eq_true rfl) (Nat.le_of_ble_eq_true rfl)
  have hP : va_P D vwCl (ws) H := hP
  have hD : va_D A (ws) := hD
  obtain ⟨hfn, hv_f⟩ := hp_5
  obtain ⟨f, rfl⟩ : ∃ z, z = u_4 := ⟨_, rfl⟩
  subst hv_f
  have hl : lv_has ls 4 [(3, .ref (T t)), (0, .ref (ad 0)), (1, .int (nI (t))), (2, .int (nI (f)))] := hl
  refine lv_aload_n hx hb dX4_start_11 rfl (lv_at hl 0 rfl) ?_
  refine lv_iload_n hx hb dX4_start_12 rfl (lv_at hl 3 rfl) ?_
  refine zk_VN_i (n := 1) (As := [.int (nI (f))]) (rest := []) hx hb hml hts hown hZ hP (c_X3_beginOf l D cA _ (PT t) (T t) t (tr t) (le t) (sl t) (fc t) (Bd t) ((mo t)) (la t) (hT t htn).1 (PB t) 11 (fun k => nI (bo t k)) (hT t htn).2.1 (by omega) f (by omega)) ggX4_start_X3_beginOf (List.mem_of_getElem? (i := 7) rfl) (by decide +kernel) rfl ⟨rfl, rfl⟩ ⟨by decide +kernel, Nat.le_of_ble_eq_true rfl, Nat.le_of_ble_eq_true rfl⟩ (hT t htn).1 rfl hl.1 rfl (Nat.le_of_ble_eq_true rfl) ⟨Nat.le_of_ble_eq_true rfl, Nat.le_of_ble_eq_true rfl⟩ rfl dX4_start_13 (fun r_7 hr_8 => ?_)
  obtain rfl := show r_7 = _ from hr_8
  exact zr_ti (S := Nat × Nat) (w1 := fun u => ws) (t, f) hx hb hr hlocks (⟨htn, rfl, hfn, rfl, rfl⟩) hP hD hS (rfl) dX4_start_16 ⟨Nat.le_of_ble_eq_true rfl, Nat.le_of_ble_eq_true rfl⟩

set_option maxHeartbeats 4000000 in
set_option maxRecDepth 100000 in
theorem c_X4_along (l : Launch) (hlt : l.stackTraces = false) (D : va_G) (cA : Nat → ClassId) (sz : Nat) (ws : va_W) (ad : Nat → Nat) (T : Nat → Nat) (Bd : Nat → Nat) (E : Nat → Nat) (PT : Nat → Nat) (PB : Nat → Nat) (PE : Nat → Nat) (n : Nat) (tr : Nat → Nat) (le : Nat → Nat) (sl : Nat → Nat) (mo : Nat → Option Nat) (la : Nat → Bool) (fc : Nat → Nat) (bo : Nat → Nat → Nat) (nd : Nat) (mk : Nat → Nat) (ck : Nat → Int32) (ct : Nat → Nat) (hd : Nat → Option Nat) (pq : Nat → Int32) (nj : Nat) (fw : Nat → Int32) (jf : Nat → Nat) (dl : Nat → Nat) (dn : Nat) (oc : Nat) (s8 : Nat → Int32) (s9 : Nat → Int32) (s10 : Nat → Int32) (s11 : Nat → Int32) (s12 : Nat → Int32) (hL : zL cA ws ad T Bd E PT PB PE n tr le sl mo la fc bo nd mk ck ct hd pq nj fw jf dl dn oc s8 s9 s10 s11 s12) (hI : zI n tr le sl mo fc bo nd mk ct hd pq nj fw jf dl) (v0 : Int32) (v1 : Int32) : vx_Met l yX4_along wsX4_along ({ frames := 7, cells := 2, slots := 12, locals := 118 }) (va_Pc [.ref (ad 0), .int (v0), .int (v1)] (zMX D cA (ws) sz)) (va_Qi (fun (r : Int32) (u : Nat × Nat) => u.1 < n ∧ v0 = nI u.1 ∧ u.2 < tr u.1 * le u.1 ∧ v1 = nI u.2 ∧ r = nI (alo (tr u.1) (le u.1) u.2)) (fun u => zB D (va_A (ws) sz) (ws)) (va_A (ws) sz)) (zXC (fun (E : String) (u : Unit) => zex1 (k1b (ix v0 n) (fun t => ix v1 (tr t * le t))) E) (fun u => ws) D (va_A (ws) sz)) 2 12 (va_A (ws) sz) := by
  refine zOpenX (cc := cX4_along) (maxL := 4) (ret := (some .int)) (own := RX4) (by decide) rfl rfl (Nat.le_of_ble_eq_true rfl) ?_
  intro p e s m below meth c ls hx hb hr hml hts hown hlocks htab ⟨⟨hZ, hP, hD0, hsz⟩, hX⟩ hl
  subst hsz
  have hD := hD0.self (sz := s.heap.size)
  generalize hAe : va_A (ws) s.heap.size = A at hD hX ⊢
  have hA : ∀ q : Nat, s.heap.size ≤ q → A q := fun q h => by rw [← hAe]; exact Or.inr h
  have hS : va_S A s.heap s.heap [] := va_S.rf
  have hl : lv_has ls 4 [(0, .ref (ad 0)), (1, .int (v0)), (2, .int (v1))] := hl
  have hL0 := hL
  obtain ⟨⟨l22, l23, l24, l25, l26, l27, l28, l29, l30, l31, l32, l33, l34⟩, hT, hE, hBne⟩ := hL
  obtain ⟨hn8, hd3, hj60, hIT, hID, hIJ, hIdl, hIw⟩ := hI
  refine lv_aload_n hx hb dX4_along_0 rfl (lv_at hl 0 rfl) ?_
  refine lv_iload_n hx hb dX4_along_1 rfl (lv_at hl 1 rfl) ?_
  refine zt_V_a (n := 1) (mc := 1) (ms := 6) (As := [.int (v0)]) (rest := []) hx hb hml hts hown hZ hX hP hD hS hA (c_X4_tapeNumbered l hlt D cA _ _ 0 (ad 0) (ad 1) n (ad 2) nd (ad 3) (ad 4) l22 1 T l23 hn8 v0) gX4_along_X4_tapeNumbered rfl rfl ⟨rfl, rfl⟩ ⟨by decide +kernel, Nat.le_of_ble_eq_true rfl, Nat.le_of_ble_eq_true rfl⟩ l22 rfl hl.1 rfl (Nat.le_of_ble_eq_true rfl) ⟨Nat.le_of_ble_eq_true rfl, Nat.le_of_ble_eq_true rfl⟩ rfl dX4_along_2 (fun E9 ce9 q9 u9 H locs hpx hP hD hS hz hq1 hq2 hq3 => ?_) (fun u_1 r_3 H locs hp_2 hra hP hD hS hz => ?_)
  · exact zt_out () hS hP hD (⟨k1b_1 (ix_none (by omega) hpx.2), hpx.1⟩) htab hlocks hq1 hq2 hq3 (Nat.le_of_ble_eq_true rfl) (Nat.le_of_ble_eq_true rfl)
  have hP : va_P D vwCl (ws) H := hP
  have hD : va_D A (ws) := hD
  obtain ⟨htn, hv_t⟩ := hp_2
  obtain ⟨t, rfl⟩ : ∃ z, z = u_1 := ⟨_, rfl⟩
  have hra : r_3 = T t := hra
  subst hra
  subst hv_t
  have hl : lv_has ls 4 [(0, .ref (ad 0)), (1, .int (nI (t))), (2, .int (v1))] := hl
  obtain ⟨-, -, hPT_t, hPB_t⟩ := hT t htn
  obtain ⟨htr1_t, htr8_t, hle4_t, hle200_t, hsl12_t, hmo_t, hfc10_t, hbo0_t, hbinc_t, hbtop_t⟩ := hIT t htn
  refine lv_astore_n (lv' := [(3, .ref (T t)), (0, .ref (ad 0)), (1, .int (nI (t))), (2, .int (v1))]) hx hb dX4_along_5 rfl hl (by decide) rfl (fun ls hl => ?_)
  have hmul : tr t * le t ≤ 8 * 200 := Nat.mul_le_mul (by omega) (by omega)
  rcases zI_split v1 with hneg | ⟨f, hf31, rfl⟩
  · refine lv_iload_n hx hb dX4_along_6 rfl (lv_at hl 3 rfl) ?_
    refine lv_if_lt (tgt := 18) hx hb dX4_along_7 (by decide) (fun c_4 => ?_) (fun c_4 => absurd hneg c_4)
    exact zt_throw (cls := "java/lang/IndexOutOfBoundsException") (text := "no such place") (ik := 67) (is := 102) (ic := 71) () hx hb hlt hown hZ hX hS hP hD (⟨k1b_2 (ix_in (by omega) htn) (ix_neg hneg), rfl⟩) htab hlocks (hl.1.trans hml.symm) (by decide) (hts (.classLink RX4 67 "java/lang/IndexOutOfBoundsException") (by decide +kernel)) (hts (.initialized "java/lang/IndexOutOfBoundsException") (by decide +kernel)) (fun w hw => hts w ((by decide +kernel : ∀ w ∈ (vx_atS RX4 71 "java/lang/IndexOutOfBoundsException" ["java/lang/RuntimeException", "java/lang/Exception"]).filter goodWord, w ∈ wsX4_along) w hw)) (by decide +kernel) (by decide +kernel) (by decide +kernel) dX4_along_18 dX4_along_21 dX4_along_22 dX4_along_24 dX4_along_27 ⟨Nat.le_of_ble_eq_true rfl, Nat.le_of_ble_eq_true rfl, Nat.le_of_ble_eq_true rfl, Nat.le_of_ble_eq_true rfl⟩ (Nat.le_of_ble_eq_true rfl) (Nat.le_of_ble_eq_true rfl)
  · refine lv_iload_n hx hb dX4_along_6 rfl (lv_at hl 3 rfl) ?_
    refine zf_lt (tgt := 18) hx hb (by omega) dX4_along_7 (by decide) ?_
    refine lv_iload_n hx hb dX4_along_10 rfl (lv_at hl 3 rfl) ?_
    refine lv_aload_n hx hb dX4_along_11 rfl (lv_at hl 0 rfl) ?_
    refine zk_VN_i (n := 0) (As := []) (rest := [.int (nI (f))]) hx hb hml hts hown hZ hP (c_X3_places l D cA _ (PT t) (T t) t (tr t) (le t) (sl t) (fc t) (Bd t) ((mo t)) (la t) (hT t htn).1) ggX4_along_X3_places (List.mem_of_getElem? (i := 9) rfl) (by decide +kernel) rfl ⟨rfl, rfl⟩ ⟨by decide +kernel, Nat.le_of_ble_eq_true rfl, Nat.le_of_ble_eq_true rfl⟩ (hT t htn).1 rfl hl.1 rfl (Nat.le_of_ble_eq_true rfl) ⟨Nat.le_of_ble_eq_true rfl, Nat.le_of_ble_eq_true rfl⟩ rfl dX4_along_12 (fun r_6 hr_7 => ?_)
    obtain rfl := show r_6 = _ from hr_7
    refine zc_lt (tgt := 28) hx hb (by omega) (by omega) dX4_along_15 (by decide) (fun c_8 => ?_) (fun c_8 => ?_)
    · refine lv_aload_n hx hb dX4_along_28 rfl (lv_at hl 0 rfl) ?_
      refine lv_iload_n hx hb dX4_along_29 rfl (lv_at hl 3 rfl) ?_
      refine zk_VN_i (n := 1) (As := [.int (nI (f))]) (rest := []) hx hb hml hts hown hZ hP (c_X3_distanceAlong l D cA _ (PT t) (T t) t (tr t) (le t) (sl t) (fc t) (Bd t) ((mo t)) (la t) (hT t htn).1 f (by omega) (by omega) (by omega) (by omega) (by omega)) ggX4_along_X3_distanceAlong (List.mem_of_getElem? (i := 10) rfl) (by decide +kernel) rfl ⟨rfl, rfl⟩ ⟨by decide +kernel, Nat.le_of_ble_eq_true rfl, Nat.le_of_ble_eq_true rfl⟩ (hT t htn).1 rfl hl.1 rfl (Nat.le_of_ble_eq_true rfl) ⟨Nat.le_of_ble_eq_true rfl, Nat.le_of_ble_eq_true rfl⟩ rfl dX4_along_30 (fun r_9 hr_10 => ?_)
      obtain rfl := show r_9 = _ from hr_10
      exact zr_ti (S := Nat × Nat) (w1 := fun u => ws) (t, f) hx hb hr hlocks (⟨htn, rfl, by assumption, rfl, rfl⟩) hP hD hS (rfl) dX4_along_33 ⟨Nat.le_of_ble_eq_true rfl, Nat.le_of_ble_eq_true rfl⟩
    · exact zt_throw (cls := "java/lang/IndexOutOfBoundsException") (text := "no such place") (ik := 67) (is := 102) (ic := 71) () hx hb hlt hown hZ hX hS hP hD (⟨k1b_2 (ix_in (by omega) htn) (by rw [ix_nI hf31]; exact if_neg (by omega)), rfl⟩) htab hlocks (hl.1.trans hml.symm) (by decide) (hts (.classLink RX4 67 "java/lang/IndexOutOfBoundsException") (by decide +kernel)) (hts (.initialized "java/lang/IndexOutOfBoundsException") (by decide +kernel)) (fun w hw => hts w ((by decide +kernel : ∀ w ∈ (vx_atS RX4 71 "java/lang/IndexOutOfBoundsException" ["java/lang/RuntimeException", "java/lang/Exception"]).filter goodWord, w ∈ wsX4_along) w hw)) (by decide +kernel) (by decide +kernel) (by decide +kernel) dX4_along_18 dX4_along_21 dX4_along_22 dX4_along_24 dX4_along_27 ⟨Nat.le_of_ble_eq_true rfl, Nat.le_of_ble_eq_true rfl, Nat.le_of_ble_eq_true rfl, Nat.le_of_ble_eq_true rfl⟩ (Nat.le_of_ble_eq_true rfl) (Nat.le_of_ble_eq_true rfl)

set_option maxHeartbeats 4000000 in
set_option maxRecDepth 100000 in
theorem c_X4_waiting (l : Launch) (hlt : l.stackTraces = false) (D : va_G) (cA : Nat → ClassId) (sz : Nat) (ws : va_W) (ad : Nat → Nat) (T : Nat → Nat) (Bd : Nat → Nat) (E : Nat → Nat) (PT : Nat → Nat) (PB : Nat → Nat) (PE : Nat → Nat) (n : Nat) (tr : Nat → Nat) (le : Nat → Nat) (sl : Nat → Nat) (mo : Nat → Option Nat) (la : Nat → Bool) (fc : Nat → Nat) (bo : Nat → Nat → Nat) (nd : Nat) (mk : Nat → Nat) (ck : Nat → Int32) (ct : Nat → Nat) (hd : Nat → Option Nat) (pq : Nat → Int32) (nj : Nat) (fw : Nat → Int32) (jf : Nat → Nat) (dl : Nat → Nat) (dn : Nat) (oc : Nat) (s8 : Nat → Int32) (s9 : Nat → Int32) (s10 : Nat → Int32) (s11 : Nat → Int32) (s12 : Nat → Int32) (hL : zL cA ws ad T Bd E PT PB PE n tr le sl mo la fc bo nd mk ck ct hd pq nj fw jf dl dn oc s8 s9 s10 s11 s12) (hI : zI n tr le sl mo fc bo nd mk ct hd pq nj fw jf dl) (v0 : Int32) : vx_Met l yX4_waiting wsX4_waiting ({ frames := 7, cells := 1, slots := 6, locals := 118 }) (va_Pc [.ref (ad 0), .int (v0)] (zMX D cA (ws) sz)) (va_Qi (fun (r : Int32) (u : Nat) => u < n ∧ v0 = nI u ∧ r = nI (wl fw (nI u) nj).length) (fun u => zB D (va_A (ws) sz) (ws)) (va_A (ws) sz)) (zXC (fun (E : String) (u : Unit) => zex1 (k1 (ix v0 n)) E) (fun u => ws) D (va_A (ws) sz)) 1 6 (va_A (ws) sz) := by
  refine zOpenX (cc := cX4_waiting) (maxL := 2) (ret := (some .int)) (own := RX4) (by decide) rfl rfl (Nat.le_of_ble_eq_true rfl) ?_
  intro p e s m below meth c ls hx hb hr hml hts hown hlocks htab ⟨⟨hZ, hP, hD0, hsz⟩, hX⟩ hl
  subst hsz
  have hD := hD0.self (sz := s.heap.size)
  generalize hAe : va_A (ws) s.heap.size = A at hD hX ⊢
  have hA : ∀ q : Nat, s.heap.size ≤ q → A q := fun q h => by rw [← hAe]; exact Or.inr h
  have hS : va_S A s.heap s.heap [] := va_S.rf
  have iX4 : ∀ w ∈ wsX40, w ∈ wsX4_waiting := by decide +kernel
  have iX3 : ∀ w ∈ wsX30, w ∈ wsX4_waiting := by decide +kernel
  have hl : lv_has ls 2 [(0, .ref (ad 0)), (1, .int (v0))] := hl
  have hL0 := hL
  obtain ⟨⟨l22, l23, l24, l25, l26, l27, l28, l29, l30, l31, l32, l33, l34⟩, hT, hE, hBne⟩ := hL
  obtain ⟨hn8, hd3, hj60, hIT, hID, hIJ, hIdl, hIw⟩ := hI
  refine lv_aload_n hx hb dX4_waiting_0 rfl (lv_at hl 0 rfl) ?_
  refine va_get (D := D) (ci := 4) (v := .ref (ad 3)) (C := RX4) (T := TX4) (N := 6) hx hb hts iX4 hown hZ.1 hP 0 l22 rfl 4 (by decide) (hts (.fieldLink RX4 31 "TapeRobotics" "jobs" "LTapeRobotics$Jobs;") (by decide +kernel)) (fun _ h9 => h9) rfl dX4_waiting_1 ?_
  refine lv_aload_n hx hb dX4_waiting_4 rfl (lv_at hl 0 rfl) ?_
  refine lv_iload_n hx hb dX4_waiting_5 rfl (lv_at hl 1 rfl) ?_
  refine zt_V_a (n := 1) (mc := 1) (ms := 6) (As := [.int (v0)]) (rest := [.ref (ad 3)]) hx hb hml hts hown hZ hX hP hD hS hA (c_X4_tapeNumbered l hlt D cA _ _ 0 (ad 0) (ad 1) n (ad 2) nd (ad 3) (ad 4) l22 1 T l23 hn8 v0) gX4_waiting_X4_tapeNumbered rfl rfl ⟨rfl, rfl⟩ ⟨by decide +kernel, Nat.le_of_ble_eq_true rfl, Nat.le_of_ble_eq_true rfl⟩ l22 rfl hl.1 rfl (Nat.le_of_ble_eq_true rfl) ⟨Nat.le_of_ble_eq_true rfl, Nat.le_of_ble_eq_true rfl⟩ rfl dX4_waiting_6 (fun E9 ce9 q9 u9 H locs hpx hP hD hS hz hq1 hq2 hq3 => ?_) (fun u_1 r_3 H locs hp_2 hra hP hD hS hz => ?_)
  · exact zt_out () hS hP hD (⟨by rw [ix_none (by omega) hpx.2]; rfl, hpx.1⟩) htab hlocks hq1 hq2 hq3 (Nat.le_of_ble_eq_true rfl) (Nat.le_of_ble_eq_true rfl)
  have hP : va_P D vwCl (ws) H := hP
  have hD : va_D A (ws) := hD
  obtain ⟨htn, hv_t⟩ := hp_2
  obtain ⟨t, rfl⟩ : ∃ z, z = u_1 := ⟨_, rfl⟩
  have hra : r_3 = T t := hra
  subst hra
  subst hv_t
  have hl : lv_has ls 2 [(0, .ref (ad 0)), (1, .int (nI (t)))] := hl
  obtain ⟨-, -, hPT_t, hPB_t⟩ := hT t htn
  obtain ⟨htr1_t, htr8_t, hle4_t, hle200_t, hsl12_t, hmo_t, hfc10_t, hbo0_t, hbinc_t, hbtop_t⟩ := hIT t htn
  refine va_getN (D := D) (ci := 3) (v := .int (nI (t))) (C := RX3) (T := TX3) (N := 8) hx hb hts iX3 hown hZ.1 hP (PT t) (hT t htn).1 rfl 0 (by decide) (va_Nw.use rfl (hZ.2 (.fieldLinkNest RX4 189 RX3 "number" "I" "TapeRobotics") (List.mem_of_getElem? (i := 46) rfl))) (fun _ h9 => h9) rfl dX4_waiting_9 ?_
  refine zk_VN_i (n := 1) (As := [.int (nI (t))]) (rest := []) hx hb hml hts hown hZ hP (c_X1_countAt l D cA _ 3 (ad 3) nj dn (ad 5) (ad 6) (ad 7) l25 5 fw l27 t hj60) ggX4_waiting_X1_countAt (List.mem_of_getElem? (i := 3) rfl) (by decide +kernel) rfl ⟨rfl, rfl⟩ ⟨by decide +kernel, Nat.le_of_ble_eq_true rfl, Nat.le_of_ble_eq_true rfl⟩ l25 rfl hl.1 rfl (Nat.le_of_ble_eq_true rfl) ⟨Nat.le_of_ble_eq_true rfl, Nat.le_of_ble_eq_true rfl⟩ rfl dX4_waiting_12 (fun r_4 hr_5 => ?_)
  obtain rfl := show r_4 = _ from hr_5
  exact zr_ti (S := Nat) (w1 := fun u => ws) t hx hb hr hlocks (⟨htn, rfl, rfl⟩) hP hD hS (rfl) dX4_waiting_15 ⟨Nat.le_of_ble_eq_true rfl, Nat.le_of_ble_eq_true rfl⟩
