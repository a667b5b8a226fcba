set_option maxHeartbeats 4000000 in
set_option maxRecDepth 100000 in
theorem c_X4_files (l : Launch) (hlt : l.stackTraces = false) (D : va_G) (cA : Nat → ClassId) (sz : Nat) (ws : va_W) (ad : Nat → Nat) (T : Nat → Nat) (Bd : Nat → Nat) (E : Nat → Nat) (PT : Nat → Nat) (PB : Nat → Nat) (PE : Nat → Nat) (n : Nat) (tr : Nat → Nat) (le : Nat → Nat) (sl : Nat → Nat) (mo : Nat → Option Nat) (la : Nat → Bool) (fc : Nat → Nat) (bo : Nat → Nat → Nat) (nd : Nat) (mk : Nat → Nat) (ck : Nat → Int32) (ct : Nat → Nat) (hd : Nat → Option Nat) (pq : Nat → Int32) (nj : Nat) (fw : Nat → Int32) (jf : Nat → Nat) (dl : Nat → Nat) (dn : Nat) (oc : Nat) (s8 : Nat → Int32) (s9 : Nat → Int32) (s10 : Nat → Int32) (s11 : Nat → Int32) (s12 : Nat → Int32) (hL : zL cA ws ad T Bd E PT PB PE n tr le sl mo la fc bo nd mk ck ct hd pq nj fw jf dl dn oc s8 s9 s10 s11 s12) (hI : zI n tr le sl mo fc bo nd mk ct hd pq nj fw jf dl) (v0 : Int32) : vx_Met l yX4_files wsX4_files ({ frames := 7, cells := 1, slots := 6, locals := 118 }) (va_Pc [.ref (ad 0), .int (v0)] (zMX D cA (ws) sz)) (va_Qi (fun (r : Int32) (u : Nat) => u < n ∧ v0 = nI u ∧ r = nI (fc u)) (fun u => zB D (va_A (ws) sz) (ws)) (va_A (ws) sz)) (zXC (fun (E : String) (u : Unit) => zex1 (k1 (ix v0 n)) E) (fun u => ws) D (va_A (ws) sz)) 1 6 (va_A (ws) sz) := by
  refine zOpenX (cc := cX4_files) (maxL := 2) (ret := (some .int)) (own := RX4) (by decide) rfl rfl (Nat.le_of_ble_eq_true rfl) ?_
  intro p e s m below meth c ls hx hb hr hml hts hown hlocks htab ⟨⟨hZ, hP, hD0, hsz⟩, hX⟩ hl
  subst hsz
  have hD := hD0.self (sz := s.heap.size)
  generalize hAe : va_A (ws) s.heap.size = A at hD hX ⊢
  have hA : ∀ q : Nat, s.heap.size ≤ q → A q := fun q h => by rw [← hAe]; exact Or.inr h
  have hS : va_S A s.heap s.heap [] := va_S.rf
  have iX3 : ∀ w ∈ wsX30, w ∈ wsX4_files := by decide +kernel
  have hl : lv_has ls 2 [(0, .ref (ad 0)), (1, .int (v0))] := hl
  have hL0 := hL
  obtain ⟨⟨l22, l23, l24, l25, l26, l27, l28, l29, l30, l31, l32, l33, l34⟩, hT, hE, hBne⟩ := hL
  obtain ⟨hn8, hd3, hj60, hIT, hID, hIJ, hIdl, hIw⟩ := hI
  refine lv_aload_n hx hb dX4_files_0 rfl (lv_at hl 0 rfl) ?_
  refine lv_iload_n hx hb dX4_files_1 rfl (lv_at hl 1 rfl) ?_
  refine zt_V_a (n := 1) (mc := 1) (ms := 6) (As := [.int (v0)]) (rest := []) hx hb hml hts hown hZ hX hP hD hS hA (c_X4_tapeNumbered l hlt D cA _ _ 22 (ad 0) (ad 1) n (ad 2) nd (ad 3) (ad 4) l22 23 T l23 hn8 v0) gX4_files_X4_tapeNumbered rfl rfl ⟨rfl, rfl⟩ ⟨by decide +kernel, Nat.le_of_ble_eq_true rfl, Nat.le_of_ble_eq_true rfl⟩ l22 rfl hl.1 rfl (Nat.le_of_ble_eq_true rfl) ⟨Nat.le_of_ble_eq_true rfl, Nat.le_of_ble_eq_true rfl⟩ rfl dX4_files_2 (fun E9 ce9 q9 u9 H locs hpx hP hD hS hz hq1 hq2 hq3 => ?_) (fun u_1 r_3 H locs hp_2 hra hP hD hS hz => ?_)
  · exact zt_out () hS hP hD (⟨by rw [ix_none (by omega) hpx.2]; rfl, hpx.1⟩) htab hlocks hq1 hq2 hq3 (Nat.le_of_ble_eq_true rfl) (Nat.le_of_ble_eq_true rfl)
  have hP : va_P D vwCl (ws) H := hP
  have hD : va_D A (ws) := hD
  obtain ⟨htn, hv_t⟩ := hp_2
  obtain ⟨t, rfl⟩ : ∃ z, z = u_1 := ⟨_, rfl⟩
  have hra : r_3 = T t := hra
  subst hra
  subst hv_t
  have hl : lv_has ls 2 [(0, .ref (ad 0)), (1, .int (nI (t)))] := hl
  obtain ⟨-, -, hPT_t, hPB_t⟩ := hT t htn
  obtain ⟨htr1_t, htr8_t, hle4_t, hle200_t, hsl12_t, hmo_t, hfc10_t, hbo0_t, hbinc_t, hbtop_t⟩ := hIT t htn
  refine va_getN (D := D) (ci := 3) (v := .int (nI (fc t))) (C := RX3) (T := TX3) (N := 8) hx hb hts iX3 hown hZ.1 hP (PT t) (hT t htn).1 rfl 6 (by decide) (va_Nw.use rfl (hZ.2 (.fieldLinkNest RX4 88 RX3 "fileCount" "I" "TapeRobotics") (List.mem_of_getElem? (i := 50) rfl))) (fun _ h9 => h9) rfl dX4_files_5 ?_
  exact zr_ti (S := Nat) (w1 := fun u => ws) t hx hb hr hlocks (⟨htn, rfl, rfl⟩) hP hD hS (rfl) dX4_files_8 ⟨Nat.le_of_ble_eq_true rfl, Nat.le_of_ble_eq_true rfl⟩

set_option maxHeartbeats 4000000 in
set_option maxRecDepth 100000 in
theorem c_X4_clock (l : Launch) (hlt : l.stackTraces = false) (D : va_G) (cA : Nat → ClassId) (sz : Nat) (ws : va_W) (ad : Nat → Nat) (T : Nat → Nat) (Bd : Nat → Nat) (E : Nat → Nat) (PT : Nat → Nat) (PB : Nat → Nat) (PE : Nat → Nat) (n : Nat) (tr : Nat → Nat) (le : Nat → Nat) (sl : Nat → Nat) (mo : Nat → Option Nat) (la : Nat → Bool) (fc : Nat → Nat) (bo : Nat → Nat → Nat) (nd : Nat) (mk : Nat → Nat) (ck : Nat → Int32) (ct : Nat → Nat) (hd : Nat → Option Nat) (pq : Nat → Int32) (nj : Nat) (fw : Nat → Int32) (jf : Nat → Nat) (dl : Nat → Nat) (dn : Nat) (oc : Nat) (s8 : Nat → Int32) (s9 : Nat → Int32) (s10 : Nat → Int32) (s11 : Nat → Int32) (s12 : Nat → Int32) (hL : zL cA ws ad T Bd E PT PB PE n tr le sl mo la fc bo nd mk ck ct hd pq nj fw jf dl dn oc s8 s9 s10 s11 s12) (hI : zI n tr le sl mo fc bo nd mk ct hd pq nj fw jf dl) (v0 : Int32) : vx_Met l yX4_clock wsX4_clock ({ frames := 7, cells := 1, slots := 6, locals := 118 }) (va_Pc [.ref (ad 0), .int (v0)] (zMX D cA (ws) sz)) (va_Qi (fun (r : Int32) (u : Nat) => u < nd ∧ v0 = nI u ∧ r = ck u) (fun u => zB D (va_A (ws) sz) (ws)) (va_A (ws) sz)) (zXC (fun (E : String) (u : Unit) => zex1 (k1 (ix v0 nd)) E) (fun u => ws) D (va_A (ws) sz)) 1 6 (va_A (ws) sz) := by
  refine zOpenX (cc := cX4_clock) (maxL := 2) (ret := (some .int)) (own := RX4) (by decide) rfl rfl (Nat.le_of_ble_eq_true rfl) ?_
  intro p e s m below meth c ls hx hb hr hml hts hown hlocks htab ⟨⟨hZ, hP, hD0, hsz⟩, hX⟩ hl
  subst hsz
  have hD := hD0.self (sz := s.heap.size)
  generalize hAe : va_A (ws) s.heap.size = A at hD hX ⊢
  have hA : ∀ q : Nat, s.heap.size ≤ q → A q := fun q h => by rw [← hAe]; exact Or.inr h
  have hS : va_S A s.heap s.heap [] := va_S.rf
  have iX0 : ∀ w ∈ wsX00, w ∈ wsX4_clock := by decide +kernel
  have hl : lv_has ls 2 [(0, .ref (ad 0)), (1, .int (v0))] := hl
  have hL0 := hL
  obtain ⟨⟨l22, l23, l24, l25, l26, l27, l28, l29, l30, l31, l32, l33, l34⟩, hT, hE, hBne⟩ := hL
  obtain ⟨hn8, hd3, hj60, hIT, hID, hIJ, hIdl, hIw⟩ := hI
  refine lv_aload_n hx hb dX4_clock_0 rfl (lv_at hl 0 rfl) ?_
  refine lv_iload_n hx hb dX4_clock_1 rfl (lv_at hl 1 rfl) ?_
  refine zt_V_a (n := 1) (mc := 1) (ms := 6) (As := [.int (v0)]) (rest := []) hx hb hml hts hown hZ hX hP hD hS hA (c_X4_driveNumbered l hlt D cA _ _ 22 (ad 0) (ad 1) n (ad 2) nd (ad 3) (ad 4) l22 24 E l24 hd3 v0) gX4_clock_X4_driveNumbered rfl rfl ⟨rfl, rfl⟩ ⟨by decide +kernel, Nat.le_of_ble_eq_true rfl, Nat.le_of_ble_eq_true rfl⟩ l22 rfl hl.1 rfl (Nat.le_of_ble_eq_true rfl) ⟨Nat.le_of_ble_eq_true rfl, Nat.le_of_ble_eq_true rfl⟩ rfl dX4_clock_2 (fun E9 ce9 q9 u9 H locs hpx hP hD hS hz hq1 hq2 hq3 => ?_) (fun u_1 r_3 H locs hp_2 hra hP hD hS hz => ?_)
  · exact zt_out () hS hP hD (⟨by rw [ix_none (by omega) hpx.2]; rfl, hpx.1⟩) htab hlocks hq1 hq2 hq3 (Nat.le_of_ble_eq_true rfl) (Nat.le_of_ble_eq_true rfl)
  have hP : va_P D vwCl (ws) H := hP
  have hD : va_D A (ws) := hD
  obtain ⟨hjn, hv_j⟩ := hp_2
  obtain ⟨j, rfl⟩ : ∃ z, z = u_1 := ⟨_, rfl⟩
  have hra : r_3 = E j := hra
  subst hra
  subst hv_j
  have hl : lv_has ls 2 [(0, .ref (ad 0)), (1, .int (nI (j)))] := hl
  obtain ⟨-, hPE_j⟩ := hE j hjn
  obtain ⟨hmk_j, hct_j, hpn_j, hps_j⟩ := hID j hjn
  refine va_getN (D := D) (ci := 0) (v := .int (ck j)) (C := RX0) (T := TX0) (N := 7) hx hb hts iX0 hown hZ.1 hP (PE j) (hE j hjn).1 rfl 5 (by decide) (va_Nw.use rfl (hZ.2 (.fieldLinkNest RX4 171 RX0 "time" "I" "TapeRobotics") (List.mem_of_getElem? (i := 55) rfl))) (fun _ h9 => h9) rfl dX4_clock_5 ?_
  exact zr_ti (S := Nat) (w1 := fun u => ws) j hx hb hr hlocks (⟨hjn, rfl, rfl⟩) hP hD hS (rfl) dX4_clock_8 ⟨Nat.le_of_ble_eq_true rfl, Nat.le_of_ble_eq_true rfl⟩

set_option maxHeartbeats 4000000 in
set_option maxRecDepth 100000 in
theorem c_X4_stands (l : Launch) (hlt : l.stackTraces = false) (D : va_G) (cA : Nat → ClassId) (sz : Nat) (ws : va_W) (ad : Nat → Nat) (T : Nat → Nat) (Bd : Nat → Nat) (E : Nat → Nat) (PT : Nat → Nat) (PB : Nat → Nat) (PE : Nat → Nat) (n : Nat) (tr : Nat → Nat) (le : Nat → Nat) (sl : Nat → Nat) (mo : Nat → Option Nat) (la : Nat → Bool) (fc : Nat → Nat) (bo : Nat → Nat → Nat) (nd : Nat) (mk : Nat → Nat) (ck : Nat → Int32) (ct : Nat → Nat) (hd : Nat → Option Nat) (pq : Nat → Int32) (nj : Nat) (fw : Nat → Int32) (jf : Nat → Nat) (dl : Nat → Nat) (dn : Nat) (oc : Nat) (s8 : Nat → Int32) (s9 : Nat → Int32) (s10 : Nat → Int32) (s11 : Nat → Int32) (s12 : Nat → Int32) (hL : zL cA ws ad T Bd E PT PB PE n tr le sl mo la fc bo nd mk ck ct hd pq nj fw jf dl dn oc s8 s9 s10 s11 s12) (hI : zI n tr le sl mo fc bo nd mk ct hd pq nj fw jf dl) (v0 : Int32) : vx_Met l yX4_stands wsX4_stands ({ frames := 7, cells := 1, slots := 6, locals := 118 }) (va_Pc [.ref (ad 0), .int (v0)] (zMX D cA (ws) sz)) (va_Qi (fun (r : Int32) (u : Nat) => u < nd ∧ v0 = nI u ∧ r = pq u) (fun u => zB D (va_A (ws) sz) (ws)) (va_A (ws) sz)) (zXC (fun (E : String) (u : Unit) => zex1 (k1 (ix v0 nd)) E) (fun u => ws) D (va_A (ws) sz)) 1 6 (va_A (ws) sz) := by
  refine zOpenX (cc := cX4_stands) (maxL := 2) (ret := (some .int)) (own := RX4) (by decide) rfl rfl (Nat.le_of_ble_eq_true rfl) ?_
  intro p e s m below meth c ls hx hb hr hml hts hown hlocks htab ⟨⟨hZ, hP, hD0, hsz⟩, hX⟩ hl
  subst hsz
  have hD := hD0.self (sz := s.heap.size)
  generalize hAe : va_A (ws) s.heap.size = A at hD hX ⊢
  have hA : ∀ q : Nat, s.heap.size ≤ q → A q := fun q h => by rw [← hAe]; exact Or.inr h
  have hS : va_S A s.heap s.heap [] := va_S.rf
  have iX0 : ∀ w ∈ wsX00, w ∈ wsX4_stands := by decide +kernel
  have hl : lv_has ls 2 [(0, .ref (ad 0)), (1, .int (v0))] := hl
  have hL0 := hL
  obtain ⟨⟨l22, l23, l24, l25, l26, l27, l28, l29, l30, l31, l32, l33, l34⟩, hT, hE, hBne⟩ := hL
  obtain ⟨hn8, hd3, hj60, hIT, hID, hIJ, hIdl, hIw⟩ := hI
  refine lv_aload_n hx hb dX4_stands_0 rfl (lv_at hl 0 rfl) ?_
  refine lv_iload_n hx hb dX4_stands_1 rfl (lv_at hl 1 rfl) ?_
  refine zt_V_a (n := 1) (mc := 1) (ms := 6) (As := [.int (v0)]) (rest := []) hx hb hml hts hown hZ hX hP hD hS hA (c_X4_driveNumbered l hlt D cA _ _ 22 (ad 0) (ad 1) n (ad 2) nd (ad 3) (ad 4) l22 24 E l24 hd3 v0) gX4_stands_X4_driveNumbered rfl rfl ⟨rfl, rfl⟩ ⟨by decide +kernel, Nat.le_of_ble_eq_true rfl, Nat.le_of_ble_eq_true rfl⟩ l22 rfl hl.1 rfl (Nat.le_of_ble_eq_true rfl) ⟨Nat.le_of_ble_eq_true rfl, Nat.le_of_ble_eq_true rfl⟩ rfl dX4_stands_2 (fun E9 ce9 q9 u9 H locs hpx hP hD hS hz hq1 hq2 hq3 => ?_) (fun u_1 r_3 H locs hp_2 hra hP hD hS hz => ?_)
  · exact zt_out () hS hP hD (⟨by rw [ix_none (by omega) hpx.2]; rfl, hpx.1⟩) htab hlocks hq1 hq2 hq3 (Nat.le_of_ble_eq_true rfl) (Nat.le_of_ble_eq_true rfl)
  have hP : va_P D vwCl (ws) H := hP
  have hD : va_D A (ws) := hD
  obtain ⟨hjn, hv_j⟩ := hp_2
  obtain ⟨j, rfl⟩ : ∃ z, z = u_1 := ⟨_, rfl⟩
  have hra : r_3 = E j := hra
  subst hra
  subst hv_j
  have hl : lv_has ls 2 [(0, .ref (ad 0)), (1, .int (nI (j)))] := hl
  obtain ⟨-, hPE_j⟩ := hE j hjn
  obtain ⟨hmk_j, hct_j, hpn_j, hps_j⟩ := hID j hjn
  refine va_getN (D := D) (ci := 0) (v := .int (pq j)) (C := RX0) (T := TX0) (N := 7) hx hb hts iX0 hown hZ.1 hP (PE j) (hE j hjn).1 rfl 4 (by decide) (va_Nw.use rfl (hZ.2 (.fieldLinkNest RX4 128 RX0 "place" "I" "TapeRobotics") (List.mem_of_getElem? (i := 54) rfl))) (fun _ h9 => h9) rfl dX4_stands_5 ?_
  exact zr_ti (S := Nat) (w1 := fun u => ws) j hx hb hr hlocks (⟨hjn, rfl, rfl⟩) hP hD hS (rfl) dX4_stands_8 ⟨Nat.le_of_ble_eq_true rfl, Nat.le_of_ble_eq_true rfl⟩
