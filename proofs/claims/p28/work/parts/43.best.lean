set_option maxHeartbeats 4000000 in
set_option maxRecDepth 100000 in
theorem c_X4_measureOrders (l : Launch) (hlt : l.stackTraces = false) (D : va_G) (cA : Nat → ClassId) (sz : Nat) (ws : va_W) (ad : Nat → Nat) (T : Nat → Nat) (Bd : Nat → Nat) (E : Nat → Nat) (PT : Nat → Nat) (PB : Nat → Nat) (PE : Nat → Nat) (n : Nat) (tr : Nat → Nat) (le : Nat → Nat) (sl : Nat → Nat) (mo : Nat → Option Nat) (la : Nat → Bool) (fc : Nat → Nat) (bo : Nat → Nat → Nat) (nd : Nat) (mk : Nat → Nat) (ck : Nat → Int32) (ct : Nat → Nat) (hd : Nat → Option Nat) (pq : Nat → Int32) (nj : Nat) (fw : Nat → Int32) (jf : Nat → Nat) (dl : Nat → Nat) (dn : Nat) (oc : Nat) (s8 : Nat → Int32) (s9 : Nat → Int32) (s10 : Nat → Int32) (s11 : Nat → Int32) (s12 : Nat → Int32) (hL : zL cA ws ad T Bd E PT PB PE n tr le sl mo la fc bo nd mk ck ct hd pq nj fw jf dl dn oc s8 s9 s10 s11 s12) (hI : zI n tr le sl mo fc bo nd mk ct hd pq nj fw jf dl) (j : Nat) (hjn : j < nd) : vx_Met l yX4_measureOrders wsX4_measureOrders ({ frames := 7, cells := 1, slots := 6, locals := 121 }) (va_Pc [.ref (ad 0), .ref (E j)] (zMX D cA (ws) sz)) (va_Qv (fun u : Nat × Nat × (Nat → Int32) × va_W => hd j = some u.1 ∧ pq j = nI u.2.1 ∧ u.2.1 ≤ 1600 ∧ zKeep ws u.2.2.2 ∧ (∀ a b, (a < (wl fw (nI u.1) nj).length ∨ a = 7) → b < (wl fw (nI u.1) nj).length → u.2.2.1 (a * 7 + b) = nI (LG mk tr le bo jf j u.1 u.2.1 (wl fw (nI u.1) nj) a b)) ∧ zL cA u.2.2.2 ad T Bd E PT PB PE n tr le sl mo la fc bo nd mk ck ct hd pq nj fw jf dl dn (wl fw (nI u.1) nj).length (colF s8 (wl fw (nI u.1) nj)) u.2.2.1 s10 s11 s12) (fun u => zB D (va_A (ws) sz) (u.2.2.2)) (va_A (ws) sz)) (zXC (fun (E : String) (u : Unit) => E = eS ∧ hd j = none) (fun u => ws) D (va_A (ws) sz)) 1 6 (va_A (ws) sz) := by
  refine zOpenX (cc := cX4_measureOrders) (maxL := 2) (ret := none) (own := RX4) (by decide) rfl rfl (Nat.le_of_ble_eq_true rfl) ?_
  intro p e s m below meth c ls hx hb hr hml hts hown hlocks htab ⟨⟨hZ, hP, hD0, hsz⟩, hX⟩ hl
  subst hsz
  have hD := hD0.self (sz := s.heap.size)
  generalize hAe : va_A (ws) s.heap.size = A at hD hX ⊢
  have hA : ∀ q : Nat, s.heap.size ≤ q → A q := fun q h => by rw [← hAe]; exact Or.inr h
  have hS : va_S A s.heap s.heap [] := va_S.rf
  have iX4 : ∀ w ∈ wsX40, w ∈ wsX4_measureOrders := by decide +kernel
  have hl : lv_has ls 2 [(0, .ref (ad 0)), (1, .ref (E j))] := hl
  have hL0 := hL
  obtain ⟨⟨l22, l23, l24, l25, l26, l27, l28, l29, l30, l31, l32, l33, l34⟩, hT, hE, hBne⟩ := hL
  obtain ⟨hn8, hd3, hj60, hIT, hID, hIJ, hIdl, hIw⟩ := hI
  obtain ⟨-, hPE_j⟩ := hE j hjn
  obtain ⟨hmk_j, hct_j, hpn_j, hps_j⟩ := hID j hjn
  refine lv_aload_n hx hb dX4_measureOrders_0 rfl (lv_at hl 0 rfl) ?_
  refine va_get (D := D) (ci := 4) (v := .ref (ad 4)) (C := RX4) (T := TX4) (N := 6) hx hb hts iX4 hown hZ.1 hP 0 l22 rfl 5 (by decide) (hts (.fieldLink RX4 38 "TapeRobotics" "orders" "LTapeRobotics$Orders;") (by decide +kernel)) (fun _ h9 => h9) rfl dX4_measureOrders_1 ?_
  refine lv_aload_n hx hb dX4_measureOrders_4 rfl (lv_at hl 1 rfl) ?_
  refine lv_aload_n hx hb dX4_measureOrders_5 rfl (lv_at hl 1 rfl) ?_
  refine zt_S_a (n := 1) (mc := 1) (ms := 6) (As := [.ref (E j)]) (rest := [.ref (E j), .ref (ad 4)]) hx hb hml hts hown hZ hX hP hD hS hA (c_X4_mountedIn l hlt D cA _ _ (PE j) (E j) j (zpa (mk j)) (zsp (mk j)) ((hd j).map T) (pq j) (ck j) (ct j) (hE j hjn).1) gX4_measureOrders_X4_mountedIn rfl ⟨rfl, rfl⟩ ⟨by decide +kernel, Nat.le_of_ble_eq_true rfl, Nat.le_of_ble_eq_true rfl⟩ hl.1 rfl (Nat.le_of_ble_eq_true rfl) ⟨Nat.le_of_ble_eq_true rfl, Nat.le_of_ble_eq_true rfl⟩ rfl dX4_measureOrders_6 (fun E9 ce9 q9 u9 H locs hpx hP hD hS hz hq1 hq2 hq3 => ?_) (fun u_1 r_3 H locs hp_2 hra hP hD hS hz => ?_)
  · have hhd : hd j = none := Option.map_eq_none_iff.mp (show (hd j).map T = none from hpx.2)
    exact zt_out () hS hP hD (⟨hpx.1, hhd⟩) htab hlocks hq1 hq2 hq3 (Nat.le_of_ble_eq_true rfl) (Nat.le_of_ble_eq_true rfl)
  have hP : va_P D vwCl (ws) H := hP
  have hD : va_D A (ws) := hD
  obtain ⟨t, hht, hTt⟩ := Option.map_eq_some_iff.mp (show (hd j).map T = some u_1 from hp_2)
  have hra : r_3 = u_1 := hra
  rw [← hTt] at hra
  subst hra
  obtain ⟨htn, hmoj, P, hPq, hP9⟩ := hps_j t hht
  obtain ⟨-, -, hPT_t, hPB_t⟩ := hT t htn
  obtain ⟨htr1_t, htr8_t, hle4_t, hle200_t, hsl12_t, hmo_t, hfc10_t, hbo0_t, hbinc_t, hbtop_t⟩ := hIT t htn
  have hmul : tr t * le t ≤ 8 * 200 := Nat.mul_le_mul (by omega) (by omega)
  have hEj : ws[PE j]? = some (E j, zDrive j (zpa (mk j)) (zsp (mk j)) ((hd j).map T) (nI P) (ck j) (ct j)) := by rw [← hPq]; exact (hE j hjn).1
  refine lv_aload_n hx hb dX4_measureOrders_9 rfl (lv_at hl 0 rfl) ?_
  refine va_get (D := D) (ci := 4) (v := .ref (ad 3)) (C := RX4) (T := TX4) (N := 6) hx hb hts iX4 hown hZ.1 hP 0 l22 rfl 4 (by decide) (hts (.fieldLink RX4 31 "TapeRobotics" "jobs" "LTapeRobotics$Jobs;") (by decide +kernel)) (fun _ h9 => h9) rfl dX4_measureOrders_10 ?_
  have hjf : ∀ x, x ∈ (wl fw (nI t) nj) → jf x + 1 < 11 ∧ bo t (jf x) ≤ bo t (jf x + 1) ∧ bo t (jf x) < 2 ^ 31 ∧ bo t (jf x + 1) < 2 ^ 31 := fun x hx => by
    obtain ⟨g1, g2⟩ := wl_mem hx
    have g3 := hIJ x g1 t g2 htn
    have g4 := hbinc_t _ g3
    have g5 := bmono _ hbinc_t (jf x + 1) (by omega)
    refine ⟨by omega, by omega, by omega, by omega⟩
  refine zw_VN_v (n := 3) (mc := 0) (ms := 0) (As := [.ref (E j), .ref (T t), .ref (ad 3)]) (rest := []) (w1 := fun u : (Nat → Int32) => ((ws.set 8 (ad 8, zInts cA 7 (colF s8 (wl fw (nI t) nj)))).set 4 (ad 4, zOrd (wl fw (nI t) nj).length (ad 8) (ad 9) (ad 10) (ad 11) (ad 12))).set 9 (ad 9, zInts cA 56 u)) hx hb hml hts hown hZ hP hD hS hA (c_X2_measure l D cA _ _ 4 (ad 4) oc (ad 8) (ad 9) (ad 10) (ad 11) (ad 12) l26 (PE j) (E j) j (zpa (mk j)) (zsp (mk j)) ((hd j).map T) P (ck j) (ct j) hEj (PT t) (T t) t (tr t) (le t) (sl t) (fc t) (Bd t) ((mo t)) (la t) (hT t htn).1 (PB t) 11 (bo t) (hT t htn).2.1 (by omega) 3 (ad 3) nj dn (ad 5) (ad 6) (ad 7) l25 5 fw l27 6 jf l28 8 s8 l30 9 s9 l31 (by decide) (by decide) (by decide) (by decide) (by decide) (by omega) (by omega) (wl fw (nI t) nj) rfl (hIw t htn) hj60 (by omega) (by omega) (by omega) (by omega) (by omega) (by omega) hjf) ggX4_measureOrders_X2_measure (List.mem_of_getElem? (i := 26) rfl) (by decide +kernel) rfl ⟨rfl, rfl⟩ ⟨by decide +kernel, Nat.le_of_ble_eq_true rfl, Nat.le_of_ble_eq_true rfl⟩ l26 rfl hl.1 rfl (Nat.le_of_ble_eq_true rfl) ⟨Nat.le_of_ble_eq_true rfl, Nat.le_of_ble_eq_true rfl⟩ rfl dX4_measureOrders_13 (fun u_6 H locs hr_5 hP hD hS hz_6 => ?_)
  have hP : va_P D vwCl (((ws.set 8 (ad 8, zInts cA 7 (colF s8 (wl fw (nI t) nj)))).set 4 (ad 4, zOrd (wl fw (nI t) nj).length (ad 8) (ad 9) (ad 10) (ad 11) (ad 12))).set 9 (ad 9, zInts cA 56 u_6)) H := hP
  have hD : va_D A (((ws.set 8 (ad 8, zInts cA 7 (colF s8 (wl fw (nI t) nj)))).set 4 (ad 4, zOrd (wl fw (nI t) nj).length (ad 8) (ad 9) (ad 10) (ad 11) (ad 12))).set 9 (ad 9, zInts cA 56 u_6)) := hD
  exact zr_tv (S := Nat × Nat × (Nat → Int32) × va_W) (w1 := fun u => u.2.2.2) (t, P, u_6, ((ws.set 8 (ad 8, zInts cA 7 (colF s8 (wl fw (nI t) nj)))).set 4 (ad 4, zOrd (wl fw (nI t) nj).length (ad 8) (ad 9) (ad 10) (ad 11) (ad 12))).set 9 (ad 9, zInts cA 56 u_6)) hx hb hr hlocks (⟨hht, hPq, by show P ≤ 1600; omega, zKeep_set (zKeep_set (zKeep_set zKeep_rf (by omega)) (by omega)) (by omega), (fun a b h1 h2 => by
      have h2 : b < (wl fw (nI t) nj).length := h2
      show _ = nI (LG mk tr le bo jf j t P (wl fw (nI t) nj) a b)
      rw [LG_in h2]; exact hr_5 a b h1 h2), zL_31 (zL_26 (zL_30 hL0 (colF s8 (wl fw (nI t) nj))) (wl fw (nI t) nj).length) u_6⟩) hP hD hS (rfl) dX4_measureOrders_16 ⟨Nat.le_of_ble_eq_true rfl, Nat.le_of_ble_eq_true rfl⟩

set_option maxHeartbeats 4000000 in
set_option maxRecDepth 100000 in
theorem c_X4_bestTime (l : Launch) (hlt : l.stackTraces = false) (D : va_G) (cA : Nat → ClassId) (sz : Nat) (ws : va_W) (ad : Nat → Nat) (T : Nat → Nat) (Bd : Nat → Nat) (E : Nat → Nat) (PT : Nat → Nat) (PB : Nat → Nat) (PE : Nat → Nat) (n : Nat) (tr : Nat → Nat) (le : Nat → Nat) (sl : Nat → Nat) (mo : Nat → Option Nat) (la : Nat → Bool) (fc : Nat → Nat) (bo : Nat → Nat → Nat) (nd : Nat) (mk : Nat → Nat) (ck : Nat → Int32) (ct : Nat → Nat) (hd : Nat → Option Nat) (pq : Nat → Int32) (nj : Nat) (fw : Nat → Int32) (jf : Nat → Nat) (dl : Nat → Nat) (dn : Nat) (oc : Nat) (s8 : Nat → Int32) (s9 : Nat → Int32) (s10 : Nat → Int32) (s11 : Nat → Int32) (s12 : Nat → Int32) (hL : zL cA ws ad T Bd E PT PB PE n tr le sl mo la fc bo nd mk ck ct hd pq nj fw jf dl dn oc s8 s9 s10 s11 s12) (hI : zI n tr le sl mo fc bo nd mk ct hd pq nj fw jf dl) (v0 : Int32) : vx_Met l yX4_bestTime wsX4_bestTime ({ frames := 8, cells := 2, slots := 12, locals := 142 }) (va_Pc [.ref (ad 0), .int (v0)] (zMX D cA (ws) sz)) (va_Qi (fun (r : Int32) (u : Nat × Nat × Nat × va_W) => u.1 < nd ∧ v0 = nI u.1 ∧ hd u.1 = some u.2.1 ∧ pq u.1 = nI u.2.2.1 ∧ u.2.2.1 ≤ 1600 ∧ r = nI (BT (LG mk tr le bo jf u.1 u.2.1 u.2.2.1 (wl fw (nI u.2.1) nj)) (wl fw (nI u.2.1) nj).length (np 0) 7) ∧ zKeep ws u.2.2.2 ∧ ∃ oc s8 s9 s10 s11 s12, zL cA u.2.2.2 ad T Bd E PT PB PE n tr le sl mo la fc bo nd mk ck ct hd pq nj fw jf dl dn oc s8 s9 s10 s11 s12) (fun u => zB D (va_A (ws) sz) (u.2.2.2)) (va_A (ws) sz)) (zXC (fun (X0 : String) (u : va_W) => zexIS (kR (ix v0 nd) hd (fun _ => some 0) (fun _ => true)) X0 ∧ zKeep ws u ∧ (∃ oc s8 s9 s10 s11 s12, zL cA u ad T Bd E PT PB PE n tr le sl mo la fc bo nd mk ck ct hd pq nj fw jf dl dn oc s8 s9 s10 s11 s12)) (fun u => u) D (va_A (ws) sz)) 2 12 (va_A (ws) sz) := by
  refine zOpenX (cc := cX4_bestTime) (maxL := 2) (ret := (some .int)) (own := RX4) (by decide) rfl rfl (Nat.le_of_ble_eq_true rfl) ?_
  intro p e s m below meth c ls hx hb hr hml hts hown hlocks htab ⟨⟨hZ, hP, hD0, hsz⟩, hX⟩ hl
  subst hsz
  have hD := hD0.self (sz := s.heap.size)
  generalize hAe : va_A (ws) s.heap.size = A at hD hX ⊢
  have hA : ∀ q : Nat, s.heap.size ≤ q → A q := fun q h => by rw [← hAe]; exact Or.inr h
  have hS : va_S A s.heap s.heap [] := va_S.rf
  have iX4 : ∀ w ∈ wsX40, w ∈ wsX4_bestTime := by decide +kernel
  have iX2 : ∀ w ∈ wsX20, w ∈ wsX4_bestTime := by decide +kernel
  have hl : lv_has ls 2 [(0, .ref (ad 0)), (1, .int (v0))] := hl
  have hL0 := hL
  obtain ⟨⟨l22, l23, l24, l25, l26, l27, l28, l29, l30, l31, l32, l33, l34⟩, hT, hE, hBne⟩ := hL
  obtain ⟨hn8, hd3, hj60, hIT, hID, hIJ, hIdl, hIw⟩ := hI
  have hI0 : zI n tr le sl mo fc bo nd mk ct hd pq nj fw jf dl := ⟨hn8, hd3, hj60, hIT, hID, hIJ, hIdl, hIw⟩
  refine lv_aload_n hx hb dX4_bestTime_0 rfl (lv_at hl 0 rfl) ?_
  refine lv_aload_n hx hb dX4_bestTime_1 rfl (lv_at hl 0 rfl) ?_
  refine lv_iload_n hx hb dX4_bestTime_2 rfl (lv_at hl 1 rfl) ?_
  refine zt_V_a (n := 1) (mc := 1) (ms := 6) (As := [.int (v0)]) (rest := [.ref (ad 0)]) hx hb hml hts hown hZ hX hP hD hS hA (c_X4_driveNumbered l hlt D cA _ _ 0 (ad 0) (ad 1) n (ad 2) nd (ad 3) (ad 4) l22 2 E l24 hd3 v0) gX4_bestTime_X4_driveNumbered rfl rfl ⟨rfl, rfl⟩ ⟨by decide +kernel, Nat.le_of_ble_eq_true rfl, Nat.le_of_ble_eq_true rfl⟩ l22 rfl hl.1 rfl (Nat.le_of_ble_eq_true rfl) ⟨Nat.le_of_ble_eq_true rfl, Nat.le_of_ble_eq_true rfl⟩ rfl dX4_bestTime_3 (fun E9 ce9 q9 u9 H locs hpx hP hD hS hz hq1 hq2 hq3 => ?_) (fun u_1 r_3 H locs hp_2 hra hP hD hS hz => ?_)
  · exact zt_out ws hS hP hD (⟨Or.inl ⟨kR_1 (ix_none (by omega) hpx.2), hpx.1⟩, zKeep_rf, _, _, _, _, _, _, hL0⟩) htab hlocks hq1 hq2 hq3 (Nat.le_of_ble_eq_true rfl) (Nat.le_of_ble_eq_true rfl)
  have hP : va_P D vwCl (ws) H := hP
  have hD : va_D A (ws) := hD
  obtain ⟨hjn, hv_j⟩ := hp_2
  obtain ⟨j, rfl⟩ : ∃ z, z = u_1 := ⟨_, rfl⟩
  have hra : r_3 = E j := hra
  subst hra
  subst hv_j
  have hl : lv_has ls 2 [(0, .ref (ad 0)), (1, .int (nI (j)))] := hl
  obtain ⟨-, hPE_j⟩ := hE j hjn
  obtain ⟨hmk_j, hct_j, hpn_j, hps_j⟩ := hID j hjn
  refine zt_V_v (n := 1) (mc := 1) (ms := 6) (As := [.ref (E j)]) (rest := []) (w1 := fun u : Nat × Nat × (Nat → Int32) × va_W => u.2.2.2) hx hb hml hts hown hZ hX hP hD hS hA (c_X4_measureOrders l hlt D cA _ _ ad T Bd E PT PB PE n tr le sl mo la fc bo nd mk ck ct hd pq nj fw jf dl dn oc s8 s9 s10 s11 s12 hL0 hI0 j hjn) gX4_bestTime_X4_measureOrders rfl rfl ⟨rfl, rfl⟩ ⟨by decide +kernel, Nat.le_of_ble_eq_true rfl, Nat.le_of_ble_eq_true rfl⟩ l22 rfl hl.1 rfl (Nat.le_of_ble_eq_true rfl) ⟨Nat.le_of_ble_eq_true rfl, Nat.le_of_ble_eq_true rfl⟩ rfl dX4_bestTime_6 (fun E9 ce9 q9 u9 H locs hpx hP hD hS hz hq1 hq2 hq3 => ?_) (fun u_4 H locs hp_5 hP hD hS hz => ?_)
  · exact zt_out ws hS hP hD (⟨Or.inr ⟨kR_2 (ix_in (by omega) hjn) hpx.2, hpx.1⟩, zKeep_rf, _, _, _, _, _, _, hL0⟩) htab hlocks hq1 hq2 hq3 (Nat.le_of_ble_eq_true rfl) (Nat.le_of_ble_eq_true rfl)
  obtain ⟨t, P, u9, w9⟩ := u_4
  obtain ⟨hht, hPq0, hPm9, hkp, hu9, hL1⟩ := hp_5
  have hht : hd j = some t := hht
  have hPq0 : pq j = nI P := hPq0
  obtain ⟨htn, hmoj, P8, hPq8, hP9⟩ := hps_j t hht
  have hP8 : P8 ≤ 2 ^ 30 := by
    obtain ⟨k1, k2, k3, k4, -⟩ := hIT t htn
    have k5 : tr t * le t ≤ 8 * 200 := Nat.mul_le_mul k2 k4
    omega
  have hkp : zKeep ws w9 := hkp
  have hu9 : ∀ a b, (a < (wl fw (nI t) nj).length ∨ a = 7) → b < (wl fw (nI t) nj).length → u9 (a * 7 + b) = nI ((LG mk tr le bo jf j t P (wl fw (nI t) nj)) a b) := hu9
  have hL1 : zL cA w9 ad T Bd E PT PB PE n tr le sl mo la fc bo nd mk ck ct hd pq nj fw jf dl dn (wl fw (nI t) nj).length (colF s8 (wl fw (nI t) nj)) u9 s10 s11 s12 := hL1
  have hP : va_P D vwCl w9 H := hP
  have hD : va_D A w9 := hD
  obtain ⟨⟨m22, m23, m24, m25, m26, m27, m28, m29, m30, m31, m32, m33, m34⟩, -⟩ := id hL1
  have hoc7 : (wl fw (nI t) nj).length ≤ 7 := hIw t htn
  have hLGb : ∀ a b, (LG mk tr le bo jf j t P (wl fw (nI t) nj)) a b ≤ 100000 := by
    obtain ⟨k1, k2, k3, k4, k5, k6, k7, k8, k9, k10⟩ := hIT t htn
    have k11 : tr t * le t ≤ 8 * 200 := Nat.mul_le_mul k2 k4
    exact LG_le k1 k2 k3 k4 (fun x hx => by
      obtain ⟨g1, g2⟩ := wl_mem hx
      have g3 := hIJ x g1 t g2 htn
      have g5 := bmono _ k9 (jf x + 1) (by omega)
      omega)
  refine lv_aload_n hx hb dX4_bestTime_9 rfl (lv_at hl 0 rfl) ?_
  refine va_get (D := D) (ci := 4) (v := .ref (ad 4)) (C := RX4) (T := TX4) (N := 6) hx hb hts iX4 hown hZ.1 hP 0 m22 rfl 5 (by decide) (hts (.fieldLink RX4 38 "TapeRobotics" "orders" "LTapeRobotics$Orders;") (by decide +kernel)) (fun _ h9 => h9) rfl dX4_bestTime_10 ?_
  refine zw_VN_v (n := 0) (mc := 0) (ms := 0) (As := []) (rest := []) (w1 := fun u : (Nat → Int32) => (w9.set 10 (ad 10, zInts cA 896 u)).set 11 (ad 11, zInts cA 7 (colF s11 (BO (LG mk tr le bo jf j t P (wl fw (nI t) nj)) (wl fw (nI t) nj).length (np 0) 7)))) hx hb hml hts hown hZ hP hD hS hA (c_X2_findBest l D cA _ _ 4 (ad 4) (wl fw (nI t) nj).length (ad 8) (ad 9) (ad 10) (ad 11) (ad 12) m26 9 u9 m31 10 s10 m32 11 s11 m33 (by decide) (by decide) (by decide) hoc7 (LG mk tr le bo jf j t P (wl fw (nI t) nj)) hu9 (fun a b _ => hLGb a b)) ggX4_bestTime_X2_findBest (List.mem_of_getElem? (i := 33) rfl) (by decide +kernel) rfl ⟨rfl, rfl⟩ ⟨by decide +kernel, Nat.le_of_ble_eq_true rfl, Nat.le_of_ble_eq_true rfl⟩ m26 rfl hl.1 rfl (Nat.le_of_ble_eq_true rfl) ⟨Nat.le_of_ble_eq_true rfl, Nat.le_of_ble_eq_true rfl⟩ rfl dX4_bestTime_13 (fun u_9 H locs hr_8 hP hD hS hz_9 => ?_)
  have hP : va_P D vwCl ((w9.set 10 (ad 10, zInts cA 896 u_9)).set 11 (ad 11, zInts cA 7 (colF s11 (BO (LG mk tr le bo jf j t P (wl fw (nI t) nj)) (wl fw (nI t) nj).length (np 0) 7)))) H := hP
  have hD : va_D A ((w9.set 10 (ad 10, zInts cA 896 u_9)).set 11 (ad 11, zInts cA 7 (colF s11 (BO (LG mk tr le bo jf j t P (wl fw (nI t) nj)) (wl fw (nI t) nj).length (np 0) 7)))) := hD
  have hboL : (BO (LG mk tr le bo jf j t P (wl fw (nI t) nj)) (wl fw (nI t) nj).length (np 0) 7).length = (wl fw (nI t) nj).length := by rw [BO_length, np_0, cnt_all]
  have hboM : ∀ x, x ∈ (BO (LG mk tr le bo jf j t P (wl fw (nI t) nj)) (wl fw (nI t) nj).length (np 0) 7) → x < (wl fw (nI t) nj).length := fun x hx => (BO_mem hx).1
  refine lv_aload_n hx hb dX4_bestTime_16 rfl (lv_at hl 0 rfl) ?_
  refine va_get (D := D) (ci := 4) (v := .ref (ad 4)) (C := RX4) (T := TX4) (N := 6) hx hb hts iX4 hown hZ.1 hP 0 (zset_n (zset_n m22 (by decide)) (by decide)) rfl 5 (by decide) (hts (.fieldLink RX4 38 "TapeRobotics" "orders" "LTapeRobotics$Orders;") (by decide +kernel)) (fun _ h9 => h9) rfl dX4_bestTime_17 ?_
  refine lv_aload_n hx hb dX4_bestTime_20 rfl (lv_at hl 0 rfl) ?_
  refine va_get (D := D) (ci := 4) (v := .ref (ad 4)) (C := RX4) (T := TX4) (N := 6) hx hb hts iX4 hown hZ.1 hP 0 (zset_n (zset_n m22 (by decide)) (by decide)) rfl 5 (by decide) (hts (.fieldLink RX4 38 "TapeRobotics" "orders" "LTapeRobotics$Orders;") (by decide +kernel)) (fun _ h9 => h9) rfl dX4_bestTime_21 ?_
  refine va_getN (D := D) (ci := 2) (v := .ref (ad 11)) (C := RX2) (T := TX2) (N := 6) hx hb hts iX2 hown hZ.1 hP 4 (zset_n (zset_n m26 (by decide)) (by decide)) rfl 4 (by decide) (va_Nw.use rfl (hZ.2 (.fieldLinkNest RX4 199 RX2 "best" "[I" "TapeRobotics") (List.mem_of_getElem? (i := 44) rfl))) (fun _ h9 => h9) rfl dX4_bestTime_24 ?_
  refine lv_aload_n hx hb dX4_bestTime_27 rfl (lv_at hl 0 rfl) ?_
  refine va_get (D := D) (ci := 4) (v := .ref (ad 4)) (C := RX4) (T := TX4) (N := 6) hx hb hts iX4 hown hZ.1 hP 0 (zset_n (zset_n m22 (by decide)) (by decide)) rfl 5 (by decide) (hts (.fieldLink RX4 38 "TapeRobotics" "orders" "LTapeRobotics$Orders;") (by decide +kernel)) (fun _ h9 => h9) rfl dX4_bestTime_28 ?_
  refine va_getN (D := D) (ci := 2) (v := .int (nI ((wl fw (nI t) nj).length))) (C := RX2) (T := TX2) (N := 6) hx hb hts iX2 hown hZ.1 hP 4 (zset_n (zset_n m26 (by decide)) (by decide)) rfl 0 (by decide) (va_Nw.use rfl (hZ.2 (.fieldLinkNest RX4 203 RX2 "count" "I" "TapeRobotics") (List.mem_of_getElem? (i := 43) rfl))) (fun _ h9 => h9) rfl dX4_bestTime_31 ?_
  refine zx_val (y := nI ((BO (LG mk tr le bo jf j t P (wl fw (nI t) nj)) (wl fw (nI t) nj).length (np 0) 7).length)) (by rw [hboL]) ?_
  refine zk_VN_i (n := 2) (As := [.ref (ad 11), .int (nI ((BO (LG mk tr le bo jf j t P (wl fw (nI t) nj)) (wl fw (nI t) nj).length (np 0) 7).length))]) (rest := []) hx hb hml hts hown hZ hP (c_X2_timeOf l D cA _ 4 (ad 4) (wl fw (nI t) nj).length (ad 8) (ad 9) (ad 10) (ad 11) (ad 12) (zset_n (zset_n m26 (by decide)) (by decide)) 9 u9 (zset_n (zset_n m31 (by decide)) (by decide)) 11 (ad 11) (colF s11 (BO (LG mk tr le bo jf j t P (wl fw (nI t) nj)) (wl fw (nI t) nj).length (np 0) 7)) (zset_s (zset_n m33 (by decide))) (BO (LG mk tr le bo jf j t P (wl fw (nI t) nj)) (wl fw (nI t) nj).length (np 0) 7) (by omega) (fun i hi => colF_in hi) (fun x hx => Nat.lt_of_lt_of_le (hboM x hx) hoc7) (LG mk tr le bo jf j t P (wl fw (nI t) nj)) (fun a b h1 h2 => hu9 a b (h1.elim (fun q => Or.inl (hboM a q)) Or.inr) (hboM b h2))) ggX4_bestTime_X2_timeOf (List.mem_of_getElem? (i := 34) rfl) (by decide +kernel) rfl ⟨rfl, rfl⟩ ⟨by decide +kernel, Nat.le_of_ble_eq_true rfl, Nat.le_of_ble_eq_true rfl⟩ (zset_n (zset_n m26 (by decide)) (by decide)) rfl hl.1 rfl (Nat.le_of_ble_eq_true rfl) ⟨Nat.le_of_ble_eq_true rfl, Nat.le_of_ble_eq_true rfl⟩ rfl dX4_bestTime_34 (fun r_10 hr_11 => ?_)
  obtain rfl := show r_10 = _ from hr_11
  exact zr_ti (S := Nat × Nat × Nat × va_W) (w1 := fun u => u.2.2.2) (j, t, P, (w9.set 10 (ad 10, zInts cA 896 u_9)).set 11 (ad 11, zInts cA 7 (colF s11 (BO (LG mk tr le bo jf j t P (wl fw (nI t) nj)) (wl fw (nI t) nj).length (np 0) 7)))) hx hb hr hlocks (⟨hjn, rfl, hht, hPq0, hPm9, by rw [pt_BO], zKeep_set (zKeep_set hkp (by omega)) (by omega), _, _, _, _, _, _, zL_33 (zL_32 hL1 u_9) (colF s11 (BO (LG mk tr le bo jf j t P (wl fw (nI t) nj)) (wl fw (nI t) nj).length (np 0) 7))⟩) hP hD hS (rfl) dX4_bestTime_37 ⟨Nat.le_of_ble_eq_true rfl, Nat.le_of_ble_eq_true rfl⟩

set_option maxHeartbeats 4000000 in
set_option maxRecDepth 100000 in
theorem c_X4_insertedTime (l : Launch) (hlt : l.stackTraces = false) (D : va_G) (cA : Nat → ClassId) (sz : Nat) (ws : va_W) (ad : Nat → Nat) (T : Nat → Nat) (Bd : Nat → Nat) (E : Nat → Nat) (PT : Nat → Nat) (PB : Nat → Nat) (PE : Nat → Nat) (n : Nat) (tr : Nat → Nat) (le : Nat → Nat) (sl : Nat → Nat) (mo : Nat → Option Nat) (la : Nat → Bool) (fc : Nat → Nat) (bo : Nat → Nat → Nat) (nd : Nat) (mk : Nat → Nat) (ck : Nat → Int32) (ct : Nat → Nat) (hd : Nat → Option Nat) (pq : Nat → Int32) (nj : Nat) (fw : Nat → Int32) (jf : Nat → Nat) (dl : Nat → Nat) (dn : Nat) (oc : Nat) (s8 : Nat → Int32) (s9 : Nat → Int32) (s10 : Nat → Int32) (s11 : Nat → Int32) (s12 : Nat → Int32) (hL : zL cA ws ad T Bd E PT PB PE n tr le sl mo la fc bo nd mk ck ct hd pq nj fw jf dl dn oc s8 s9 s10 s11 s12) (hI : zI n tr le sl mo fc bo nd mk ct hd pq nj fw jf dl) (v0 : Int32) : vx_Met l yX4_insertedTime wsX4_insertedTime ({ frames := 8, cells := 2, slots := 12, locals := 142 }) (va_Pc [.ref (ad 0), .int (v0)] (zMX D cA (ws) sz)) (va_Qi (fun (r : Int32) (u : Nat × Nat × Nat × va_W) => u.1 < nd ∧ v0 = nI u.1 ∧ hd u.1 = some u.2.1 ∧ pq u.1 = nI u.2.2.1 ∧ u.2.2.1 ≤ 1600 ∧ r = nI (pt (LG mk tr le bo jf u.1 u.2.1 u.2.2.1 (wl fw (nI u.2.1) nj)) 7 (insL (LG mk tr le bo jf u.1 u.2.1 u.2.2.1 (wl fw (nI u.2.1) nj)) (wl fw (nI u.2.1) nj).length)) ∧ zKeep ws u.2.2.2 ∧ ∃ oc s8 s9 s10 s11 s12, zL cA u.2.2.2 ad T Bd E PT PB PE n tr le sl mo la fc bo nd mk ck ct hd pq nj fw jf dl dn oc s8 s9 s10 s11 s12) (fun u => zB D (va_A (ws) sz) (u.2.2.2)) (va_A (ws) sz)) (zXC (fun (X0 : String) (u : va_W) => zexIS (kR (ix v0 nd) hd (fun _ => some 0) (fun _ => true)) X0 ∧ zKeep ws u ∧ (∃ oc s8 s9 s10 s11 s12, zL cA u ad T Bd E PT PB PE n tr le sl mo la fc bo nd mk ck ct hd pq nj fw jf dl dn oc s8 s9 s10 s11 s12)) (fun u => u) D (va_A (ws) sz)) 2 12 (va_A (ws) sz) := by
  refine zOpenX (cc := cX4_insertedTime) (maxL := 2) (ret := (some .int)) (own := RX4) (by decide) rfl rfl (Nat.le_of_ble_eq_true rfl) ?_
  intro p e s m below meth c ls hx hb hr hml hts hown hlocks htab ⟨⟨hZ, hP, hD0, hsz⟩, hX⟩ hl
  subst hsz
  have hD := hD0.self (sz := s.heap.size)
  generalize hAe : va_A (ws) s.heap.size = A at hD hX ⊢
  have hA : ∀ q : Nat, s.heap.size ≤ q → A q := fun q h => by rw [← hAe]; exact Or.inr h
  have hS : va_S A s.heap s.heap [] := va_S.rf
  have iX4 : ∀ w ∈ wsX40, w ∈ wsX4_insertedTime := by decide +kernel
  have hl : lv_has ls 2 [(0, .ref (ad 0)), (1, .int (v0))] := hl
  have hL0 := hL
  obtain ⟨⟨l22, l23, l24, l25, l26, l27, l28, l29, l30, l31, l32, l33, l34⟩, hT, hE, hBne⟩ := hL
  obtain ⟨hn8, hd3, hj60, hIT, hID, hIJ, hIdl, hIw⟩ := hI
  have hI0 : zI n tr le sl mo fc bo nd mk ct hd pq nj fw jf dl := ⟨hn8, hd3, hj60, hIT, hID, hIJ, hIdl, hIw⟩
  refine lv_aload_n hx hb dX4_insertedTime_0 rfl (lv_at hl 0 rfl) ?_
  refine lv_aload_n hx hb dX4_insertedTime_1 rfl (lv_at hl 0 rfl) ?_
  refine lv_iload_n hx hb dX4_insertedTime_2 rfl (lv_at hl 1 rfl) ?_
  refine zt_V_a (n := 1) (mc := 1) (ms := 6) (As := [.int (v0)]) (rest := [.ref (ad 0)]) hx hb hml hts hown hZ hX hP hD hS hA (c_X4_driveNumbered l hlt D cA _ _ 0 (ad 0) (ad 1) n (ad 2) nd (ad 3) (ad 4) l22 2 E l24 hd3 v0) gX4_insertedTime_X4_driveNumbered rfl rfl ⟨rfl, rfl⟩ ⟨by decide +kernel, Nat.le_of_ble_eq_true rfl, Nat.le_of_ble_eq_true rfl⟩ l22 rfl hl.1 rfl (Nat.le_of_ble_eq_true rfl) ⟨Nat.le_of_ble_eq_true rfl, Nat.le_of_ble_eq_true rfl⟩ rfl dX4_insertedTime_3 (fun E9 ce9 q9 u9 H locs hpx hP hD hS hz hq1 hq2 hq3 => ?_) (fun u_1 r_3 H locs hp_2 hra hP hD hS hz => ?_)
  · exact zt_out ws hS hP hD (⟨Or.inl ⟨kR_1 (ix_none (by omega) hpx.2), hpx.1⟩, zKeep_rf, _, _, _, _, _, _, hL0⟩) htab hlocks hq1 hq2 hq3 (Nat.le_of_ble_eq_true rfl) (Nat.le_of_ble_eq_true rfl)
  have hP : va_P D vwCl (ws) H := hP
  have hD : va_D A (ws) := hD
  obtain ⟨hjn, hv_j⟩ := hp_2
  obtain ⟨j, rfl⟩ : ∃ z, z = u_1 := ⟨_, rfl⟩
  have hra : r_3 = E j := hra
  subst hra
  subst hv_j
  have hl : lv_has ls 2 [(0, .ref (ad 0)), (1, .int (nI (j)))] := hl
  obtain ⟨-, hPE_j⟩ := hE j hjn
  obtain ⟨hmk_j, hct_j, hpn_j, hps_j⟩ := hID j hjn
  refine zt_V_v (n := 1) (mc := 1) (ms := 6) (As := [.ref (E j)]) (rest := []) (w1 := fun u : Nat × Nat × (Nat → Int32) × va_W => u.2.2.2) hx hb hml hts hown hZ hX hP hD hS hA (c_X4_measureOrders l hlt D cA _ _ ad T Bd E PT PB PE n tr le sl mo la fc bo nd mk ck ct hd pq nj fw jf dl dn oc s8 s9 s10 s11 s12 hL0 hI0 j hjn) gX4_insertedTime_X4_measureOrders rfl rfl ⟨rfl, rfl⟩ ⟨by decide +kernel, Nat.le_of_ble_eq_true rfl, Nat.le_of_ble_eq_true rfl⟩ l22 rfl hl.1 rfl (Nat.le_of_ble_eq_true rfl) ⟨Nat.le_of_ble_eq_true rfl, Nat.le_of_ble_eq_true rfl⟩ rfl dX4_insertedTime_6 (fun E9 ce9 q9 u9 H locs hpx hP hD hS hz hq1 hq2 hq3 => ?_) (fun u_4 H locs hp_5 hP hD hS hz => ?_)
  · exact zt_out ws hS hP hD (⟨Or.inr ⟨kR_2 (ix_in (by omega) hjn) hpx.2, hpx.1⟩, zKeep_rf, _, _, _, _, _, _, hL0⟩) htab hlocks hq1 hq2 hq3 (Nat.le_of_ble_eq_true rfl) (Nat.le_of_ble_eq_true rfl)
  obtain ⟨t, P, u9, w9⟩ := u_4
  obtain ⟨hht, hPq0, hPm9, hkp, hu9, hL1⟩ := hp_5
  have hht : hd j = some t := hht
  have hPq0 : pq j = nI P := hPq0
  obtain ⟨htn, hmoj, P8, hPq8, hP9⟩ := hps_j t hht
  have hP8 : P8 ≤ 2 ^ 30 := by
    obtain ⟨k1, k2, k3, k4, -⟩ := hIT t htn
    have k5 : tr t * le t ≤ 8 * 200 := Nat.mul_le_mul k2 k4
    omega
  have hkp : zKeep ws w9 := hkp
  have hu9 : ∀ a b, (a < (wl fw (nI t) nj).length ∨ a = 7) → b < (wl fw (nI t) nj).length → u9 (a * 7 + b) = nI ((LG mk tr le bo jf j t P (wl fw (nI t) nj)) a b) := hu9
  have hL1 : zL cA w9 ad T Bd E PT PB PE n tr le sl mo la fc bo nd mk ck ct hd pq nj fw jf dl dn (wl fw (nI t) nj).length (colF s8 (wl fw (nI t) nj)) u9 s10 s11 s12 := hL1
  have hP : va_P D vwCl w9 H := hP
  have hD : va_D A w9 := hD
  obtain ⟨⟨m22, m23, m24, m25, m26, m27, m28, m29, m30, m31, m32, m33, m34⟩, -⟩ := id hL1
  have hoc7 : (wl fw (nI t) nj).length ≤ 7 := hIw t htn
  have hLGb : ∀ a b, (LG mk tr le bo jf j t P (wl fw (nI t) nj)) a b ≤ 100000 := by
    obtain ⟨k1, k2, k3, k4, k5, k6, k7, k8, k9, k10⟩ := hIT t htn
    have k11 : tr t * le t ≤ 8 * 200 := Nat.mul_le_mul k2 k4
    exact LG_le k1 k2 k3 k4 (fun x hx => by
      obtain ⟨g1, g2⟩ := wl_mem hx
      have g3 := hIJ x g1 t g2 htn
      have g5 := bmono _ k9 (jf x + 1) (by omega)
      omega)
  refine lv_aload_n hx hb dX4_insertedTime_9 rfl (lv_at hl 0 rfl) ?_
  refine va_get (D := D) (ci := 4) (v := .ref (ad 4)) (C := RX4) (T := TX4) (N := 6) hx hb hts iX4 hown hZ.1 hP 0 m22 rfl 5 (by decide) (hts (.fieldLink RX4 38 "TapeRobotics" "orders" "LTapeRobotics$Orders;") (by decide +kernel)) (fun _ h9 => h9) rfl dX4_insertedTime_10 ?_
  refine zw_VN_i (n := 0) (mc := 0) (ms := 0) (As := []) (rest := []) (w1 := fun u : Unit => w9.set 12 (ad 12, zInts cA 7 (colF s12 (insL (LG mk tr le bo jf j t P (wl fw (nI t) nj)) (wl fw (nI t) nj).length)))) hx hb hml hts hown hZ hP hD hS hA (c_X2_timeByInsertion l D cA _ _ 4 (ad 4) (wl fw (nI t) nj).length (ad 8) (ad 9) (ad 10) (ad 11) (ad 12) m26 9 u9 m31 12 s12 m34 (by decide) hoc7 (LG mk tr le bo jf j t P (wl fw (nI t) nj)) hu9 hLGb) ggX4_insertedTime_X2_timeByInsertion (List.mem_of_getElem? (i := 36) rfl) (by decide +kernel) rfl ⟨rfl, rfl⟩ ⟨by decide +kernel, Nat.le_of_ble_eq_true rfl, Nat.le_of_ble_eq_true rfl⟩ m26 rfl hl.1 rfl (Nat.le_of_ble_eq_true rfl) ⟨Nat.le_of_ble_eq_true rfl, Nat.le_of_ble_eq_true rfl⟩ rfl dX4_insertedTime_13 (fun r_7 u_9 H locs hr_8 hP hD hS hz_9 => ?_)
  obtain rfl := show r_7 = _ from hr_8
  have hP : va_P D vwCl (w9.set 12 (ad 12, zInts cA 7 (colF s12 (insL (LG mk tr le bo jf j t P (wl fw (nI t) nj)) (wl fw (nI t) nj).length)))) H := hP
  have hD : va_D A (w9.set 12 (ad 12, zInts cA 7 (colF s12 (insL (LG mk tr le bo jf j t P (wl fw (nI t) nj)) (wl fw (nI t) nj).length)))) := hD
  exact zr_ti (S := Nat × Nat × Nat × va_W) (w1 := fun u => u.2.2.2) (j, t, P, w9.set 12 (ad 12, zInts cA 7 (colF s12 (insL (LG mk tr le bo jf j t P (wl fw (nI t) nj)) (wl fw (nI t) nj).length)))) hx hb hr hlocks (⟨hjn, rfl, hht, hPq0, hPm9, rfl, zKeep_set hkp (by omega), _, _, _, _, _, _, zL_34 hL1 _⟩) hP hD hS (rfl) dX4_insertedTime_16 ⟨Nat.le_of_ble_eq_true rfl, Nat.le_of_ble_eq_true rfl⟩

set_option maxHeartbeats 4000000 in
set_option maxRecDepth 100000 in
theorem c_X4_triedTime (l : Launch) (hlt : l.stackTraces = false) (D : va_G) (cA : Nat → ClassId) (sz : Nat) (ws : va_W) (ad : Nat → Nat) (T : Nat → Nat) (Bd : Nat → Nat) (E : Nat → Nat) (PT : Nat → Nat) (PB : Nat → Nat) (PE : Nat → Nat) (n : Nat) (tr : Nat → Nat) (le : Nat → Nat) (sl : Nat → Nat) (mo : Nat → Option Nat) (la : Nat → Bool) (fc : Nat → Nat) (bo : Nat → Nat → Nat) (nd : Nat) (mk : Nat → Nat) (ck : Nat → Int32) (ct : Nat → Nat) (hd : Nat → Option Nat) (pq : Nat → Int32) (nj : Nat) (fw : Nat → Int32) (jf : Nat → Nat) (dl : Nat → Nat) (dn : Nat) (oc : Nat) (s8 : Nat → Int32) (s9 : Nat → Int32) (s10 : Nat → Int32) (s11 : Nat → Int32) (s12 : Nat → Int32) (hL : zL cA ws ad T Bd E PT PB PE n tr le sl mo la fc bo nd mk ck ct hd pq nj fw jf dl dn oc s8 s9 s10 s11 s12) (hI : zI n tr le sl mo fc bo nd mk ct hd pq nj fw jf dl) (v0 : Int32) : vx_Met l yX4_triedTime wsX4_triedTime ({ frames := 8, cells := 2, slots := 12, locals := 142 }) (va_Pc [.ref (ad 0), .int (v0)] (zMX D cA (ws) sz)) (va_Qi (fun (r : Int32) (u : Nat × Nat × Nat × va_W) => u.1 < nd ∧ v0 = nI u.1 ∧ hd u.1 = some u.2.1 ∧ pq u.1 = nI u.2.2.1 ∧ u.2.2.1 ≤ 1600 ∧ r = nI (BT (LG mk tr le bo jf u.1 u.2.1 u.2.2.1 (wl fw (nI u.2.1) nj)) (wl fw (nI u.2.1) nj).length (np 0) 7) ∧ zKeep ws u.2.2.2 ∧ ∃ oc s8 s9 s10 s11 s12, zL cA u.2.2.2 ad T Bd E PT PB PE n tr le sl mo la fc bo nd mk ck ct hd pq nj fw jf dl dn oc s8 s9 s10 s11 s12) (fun u => zB D (va_A (ws) sz) (u.2.2.2)) (va_A (ws) sz)) (zXC (fun (X0 : String) (u : va_W) => zexIS (kR (ix v0 nd) hd (fun _ => some 0) (fun _ => true)) X0 ∧ zKeep ws u ∧ (∃ oc s8 s9 s10 s11 s12, zL cA u ad T Bd E PT PB PE n tr le sl mo la fc bo nd mk ck ct hd pq nj fw jf dl dn oc s8 s9 s10 s11 s12)) (fun u => u) D (va_A (ws) sz)) 2 12 (va_A (ws) sz) := by
  refine zOpenX (cc := cX4_triedTime) (maxL := 2) (ret := (some .int)) (own := RX4) (by decide) rfl rfl (Nat.le_of_ble_eq_true rfl) ?_
  intro p e s m below meth c ls hx hb hr hml hts hown hlocks htab ⟨⟨hZ, hP, hD0, hsz⟩, hX⟩ hl
  subst hsz
  have hD := hD0.self (sz := s.heap.size)
  generalize hAe : va_A (ws) s.heap.size = A at hD hX ⊢
  have hA : ∀ q : Nat, s.heap.size ≤ q → A q := fun q h => by rw [← hAe]; exact Or.inr h
  have hS : va_S A s.heap s.heap [] := va_S.rf
  have iX4 : ∀ w ∈ wsX40, w ∈ wsX4_triedTime := by decide +kernel
  have hl : lv_has ls 2 [(0, .ref (ad 0)), (1, .int (v0))] := hl
  have hL0 := hL
  obtain ⟨⟨l22, l23, l24, l25, l26, l27, l28, l29, l30, l31, l32, l33, l34⟩, hT, hE, hBne⟩ := hL
  obtain ⟨hn8, hd3, hj60, hIT, hID, hIJ, hIdl, hIw⟩ := hI
  have hI0 : zI n tr le sl mo fc bo nd mk ct hd pq nj fw jf dl := ⟨hn8, hd3, hj60, hIT, hID, hIJ, hIdl, hIw⟩
  refine lv_aload_n hx hb dX4_triedTime_0 rfl (lv_at hl 0 rfl) ?_
  refine lv_aload_n hx hb dX4_triedTime_1 rfl (lv_at hl 0 rfl) ?_
  refine lv_iload_n hx hb dX4_triedTime_2 rfl (lv_at hl 1 rfl) ?_
  refine zt_V_a (n := 1) (mc := 1) (ms := 6) (As := [.int (v0)]) (rest := [.ref (ad 0)]) hx hb hml hts hown hZ hX hP hD hS hA (c_X4_driveNumbered l hlt D cA _ _ 0 (ad 0) (ad 1) n (ad 2) nd (ad 3) (ad 4) l22 2 E l24 hd3 v0) gX4_triedTime_X4_driveNumbered rfl rfl ⟨rfl, rfl⟩ ⟨by decide +kernel, Nat.le_of_ble_eq_true rfl, Nat.le_of_ble_eq_true rfl⟩ l22 rfl hl.1 rfl (Nat.le_of_ble_eq_true rfl) ⟨Nat.le_of_ble_eq_true rfl, Nat.le_of_ble_eq_true rfl⟩ rfl dX4_triedTime_3 (fun E9 ce9 q9 u9 H locs hpx hP hD hS hz hq1 hq2 hq3 => ?_) (fun u_1 r_3 H locs hp_2 hra hP hD hS hz => ?_)
  · exact zt_out ws hS hP hD (⟨Or.inl ⟨kR_1 (ix_none (by omega) hpx.2), hpx.1⟩, zKeep_rf, _, _, _, _, _, _, hL0⟩) htab hlocks hq1 hq2 hq3 (Nat.le_of_ble_eq_true rfl) (Nat.le_of_ble_eq_true rfl)
  have hP : va_P D vwCl (ws) H := hP
  have hD : va_D A (ws) := hD
  obtain ⟨hjn, hv_j⟩ := hp_2
  obtain ⟨j, rfl⟩ : ∃ z, z = u_1 := ⟨_, rfl⟩
  have hra : r_3 = E j := hra
  subst hra
  subst hv_j
  have hl : lv_has ls 2 [(0, .ref (ad 0)), (1, .int (nI (j)))] := hl
  obtain ⟨-, hPE_j⟩ := hE j hjn
  obtain ⟨hmk_j, hct_j, hpn_j, hps_j⟩ := hID j hjn
  refine zt_V_v (n := 1) (mc := 1) (ms := 6) (As := [.ref (E j)]) (rest := []) (w1 := fun u : Nat × Nat × (Nat → Int32) × va_W => u.2.2.2) hx hb hml hts hown hZ hX hP hD hS hA (c_X4_measureOrders l hlt D cA _ _ ad T Bd E PT PB PE n tr le sl mo la fc bo nd mk ck ct hd pq nj fw jf dl dn oc s8 s9 s10 s11 s12 hL0 hI0 j hjn) gX4_triedTime_X4_measureOrders rfl rfl ⟨rfl, rfl⟩ ⟨by decide +kernel, Nat.le_of_ble_eq_true rfl, Nat.le_of_ble_eq_true rfl⟩ l22 rfl hl.1 rfl (Nat.le_of_ble_eq_true rfl) ⟨Nat.le_of_ble_eq_true rfl, Nat.le_of_ble_eq_true rfl⟩ rfl dX4_triedTime_6 (fun E9 ce9 q9 u9 H locs hpx hP hD hS hz hq1 hq2 hq3 => ?_) (fun u_4 H locs hp_5 hP hD hS hz => ?_)
  · exact zt_out ws hS hP hD (⟨Or.inr ⟨kR_2 (ix_in (by omega) hjn) hpx.2, hpx.1⟩, zKeep_rf, _, _, _, _, _, _, hL0⟩) htab hlocks hq1 hq2 hq3 (Nat.le_of_ble_eq_true rfl) (Nat.le_of_ble_eq_true rfl)
  obtain ⟨t, P, u9, w9⟩ := u_4
  obtain ⟨hht, hPq0, hPm9, hkp, hu9, hL1⟩ := hp_5
  have hht : hd j = some t := hht
  have hPq0 : pq j = nI P := hPq0
  obtain ⟨htn, hmoj, P8, hPq8, hP9⟩ := hps_j t hht
  have hP8 : P8 ≤ 2 ^ 30 := by
    obtain ⟨k1, k2, k3, k4, -⟩ := hIT t htn
    have k5 : tr t * le t ≤ 8 * 200 := Nat.mul_le_mul k2 k4
    omega
  have hkp : zKeep ws w9 := hkp
  have hu9 : ∀ a b, (a < (wl fw (nI t) nj).length ∨ a = 7) → b < (wl fw (nI t) nj).length → u9 (a * 7 + b) = nI ((LG mk tr le bo jf j t P (wl fw (nI t) nj)) a b) := hu9
  have hL1 : zL cA w9 ad T Bd E PT PB PE n tr le sl mo la fc bo nd mk ck ct hd pq nj fw jf dl dn (wl fw (nI t) nj).length (colF s8 (wl fw (nI t) nj)) u9 s10 s11 s12 := hL1
  have hP : va_P D vwCl w9 H := hP
  have hD : va_D A w9 := hD
  obtain ⟨⟨m22, m23, m24, m25, m26, m27, m28, m29, m30, m31, m32, m33, m34⟩, -⟩ := id hL1
  have hoc7 : (wl fw (nI t) nj).length ≤ 7 := hIw t htn
  have hLGb : ∀ a b, (LG mk tr le bo jf j t P (wl fw (nI t) nj)) a b ≤ 100000 := by
    obtain ⟨k1, k2, k3, k4, k5, k6, k7, k8, k9, k10⟩ := hIT t htn
    have k11 : tr t * le t ≤ 8 * 200 := Nat.mul_le_mul k2 k4
    exact LG_le k1 k2 k3 k4 (fun x hx => by
      obtain ⟨g1, g2⟩ := wl_mem hx
      have g3 := hIJ x g1 t g2 htn
      have g5 := bmono _ k9 (jf x + 1) (by omega)
      omega)
  refine lv_aload_n hx hb dX4_triedTime_9 rfl (lv_at hl 0 rfl) ?_
  refine va_get (D := D) (ci := 4) (v := .ref (ad 4)) (C := RX4) (T := TX4) (N := 6) hx hb hts iX4 hown hZ.1 hP 0 m22 rfl 5 (by decide) (hts (.fieldLink RX4 38 "TapeRobotics" "orders" "LTapeRobotics$Orders;") (by decide +kernel)) (fun _ h9 => h9) rfl dX4_triedTime_10 ?_
  refine zw_VN_i (n := 0) (mc := 0) (ms := 0) (As := []) (rest := []) (w1 := fun u : (List Nat) => w9.set 12 (ad 12, zInts cA 7 (colF s12 u))) hx hb hml hts hown hZ hP hD hS hA (c_X2_timeByTrying l D cA _ _ 4 (ad 4) (wl fw (nI t) nj).length (ad 8) (ad 9) (ad 10) (ad 11) (ad 12) m26 9 u9 m31 12 s12 m34 (by decide) hoc7 (LG mk tr le bo jf j t P (wl fw (nI t) nj)) hu9 hLGb) ggX4_triedTime_X2_timeByTrying (List.mem_of_getElem? (i := 37) rfl) (by decide +kernel) rfl ⟨rfl, rfl⟩ ⟨by decide +kernel, Nat.le_of_ble_eq_true rfl, Nat.le_of_ble_eq_true rfl⟩ m26 rfl hl.1 rfl (Nat.le_of_ble_eq_true rfl) ⟨Nat.le_of_ble_eq_true rfl, Nat.le_of_ble_eq_true rfl⟩ rfl dX4_triedTime_13 (fun r_7 u_9 H locs hr_8 hP hD hS hz_9 => ?_)
  obtain rfl := show r_7 = _ from hr_8
  have hP : va_P D vwCl (w9.set 12 (ad 12, zInts cA 7 (colF s12 u_9))) H := hP
  have hD : va_D A (w9.set 12 (ad 12, zInts cA 7 (colF s12 u_9))) := hD
  exact zr_ti (S := Nat × Nat × Nat × va_W) (w1 := fun u => u.2.2.2) (j, t, P, w9.set 12 (ad 12, zInts cA 7 (colF s12 u_9))) hx hb hr hlocks (⟨hjn, rfl, hht, hPq0, hPm9, rfl, zKeep_set hkp (by omega), _, _, _, _, _, _, zL_34 hL1 _⟩) hP hD hS (rfl) dX4_triedTime_16 ⟨Nat.le_of_ble_eq_true rfl, Nat.le_of_ble_eq_true rfl⟩

set_option maxHeartbeats 4000000 in
set_option maxRecDepth 100000 in
theorem c_X4_bestJob (l : Launch) (hlt : l.stackTraces = false) (D : va_G) (cA : Nat → ClassId) (sz : Nat) (ws : va_W) (ad : Nat → Nat) (T : Nat → Nat) (Bd : Nat → Nat) (E : Nat → Nat) (PT : Nat → Nat) (PB : Nat → Nat) (PE : Nat → Nat) (n : Nat) (tr : Nat → Nat) (le : Nat → Nat) (sl : Nat → Nat) (mo : Nat → Option Nat) (la : Nat → Bool) (fc : Nat → Nat) (bo : Nat → Nat → Nat) (nd : Nat) (mk : Nat → Nat) (ck : Nat → Int32) (ct : Nat → Nat) (hd : Nat → Option Nat) (pq : Nat → Int32) (nj : Nat) (fw : Nat → Int32) (jf : Nat → Nat) (dl : Nat → Nat) (dn : Nat) (oc : Nat) (s8 : Nat → Int32) (s9 : Nat → Int32) (s10 : Nat → Int32) (s11 : Nat → Int32) (s12 : Nat → Int32) (hL : zL cA ws ad T Bd E PT PB PE n tr le sl mo la fc bo nd mk ck ct hd pq nj fw jf dl dn oc s8 s9 s10 s11 s12) (hI : zI n tr le sl mo fc bo nd mk ct hd pq nj fw jf dl) (v0 : Int32) (v1 : Int32) : vx_Met l yX4_bestJob wsX4_bestJob ({ frames := 8, cells := 3, slots := 18, locals := 142 }) (va_Pc [.ref (ad 0), .int (v0), .int (v1)] (zMX D cA (ws) sz)) (va_Qi (fun (r : Int32) (u : Nat × Nat × Nat × Nat × va_W) => u.1 < nd ∧ v0 = nI u.1 ∧ hd u.1 = some u.2.1 ∧ pq u.1 = nI u.2.2.1 ∧ u.2.2.1 ≤ 1600 ∧ u.2.2.2.1 < (wl fw (nI u.2.1) nj).length ∧ v1 = nI u.2.2.2.1 ∧ r = nI ((wl fw (nI u.2.1) nj).getD ((BO (LG mk tr le bo jf u.1 u.2.1 u.2.2.1 (wl fw (nI u.2.1) nj)) (wl fw (nI u.2.1) nj).length (np 0) 7).getD u.2.2.2.1 0) 0) ∧ zKeep ws u.2.2.2.2 ∧ ∃ oc s8 s9 s10 s11 s12, zL cA u.2.2.2.2 ad T Bd E PT PB PE n tr le sl mo la fc bo nd mk ck ct hd pq nj fw jf dl dn oc s8 s9 s10 s11 s12) (fun u => zB D (va_A (ws) sz) (u.2.2.2.2)) (va_A (ws) sz)) (zXC (fun (X0 : String) (u : va_W) => zexIS (kR (ix v0 nd) hd (fun t => ix v1 (wl fw (nI t) nj).length) (fun _ => true)) X0 ∧ zKeep ws u ∧ (∃ oc s8 s9 s10 s11 s12, zL cA u ad T Bd E PT PB PE n tr le sl mo la fc bo nd mk ck ct hd pq nj fw jf dl dn oc s8 s9 s10 s11 s12)) (fun u => u) D (va_A (ws) sz)) 3 18 (va_A (ws) sz) := by
  refine zOpenX (cc := cX4_bestJob) (maxL := 3) (ret := (some .int)) (own := RX4) (by decide) rfl rfl (Nat.le_of_ble_eq_true rfl) ?_
  intro p e s m below meth c ls hx hb hr hml hts hown hlocks htab ⟨⟨hZ, hP, hD0, hsz⟩, hX⟩ hl
  subst hsz
  have hD := hD0.self (sz := s.heap.size)
  generalize hAe : va_A (ws) s.heap.size = A at hD hX ⊢
  have hA : ∀ q : Nat, s.heap.size ≤ q → A q := fun q h => by rw [← hAe]; exact Or.inr h
  have hS : va_S A s.heap s.heap [] := va_S.rf
  have iX4 : ∀ w ∈ wsX40, w ∈ wsX4_bestJob := by decide +kernel
  have iX2 : ∀ w ∈ wsX20, w ∈ wsX4_bestJob := by decide +kernel
  have hl : lv_has ls 3 [(0, .ref (ad 0)), (1, .int (v0)), (2, .int (v1))] := hl
  have hL0 := hL
  obtain ⟨⟨l22, l23, l24, l25, l26, l27, l28, l29, l30, l31, l32, l33, l34⟩, hT, hE, hBne⟩ := hL
  obtain ⟨hn8, hd3, hj60, hIT, hID, hIJ, hIdl, hIw⟩ := hI
  have hI0 : zI n tr le sl mo fc bo nd mk ct hd pq nj fw jf dl := ⟨hn8, hd3, hj60, hIT, hID, hIJ, hIdl, hIw⟩
  refine lv_aload_n hx hb dX4_bestJob_0 rfl (lv_at hl 0 rfl) ?_
  refine lv_aload_n hx hb dX4_bestJob_1 rfl (lv_at hl 0 rfl) ?_
  refine lv_iload_n hx hb dX4_bestJob_2 rfl (lv_at hl 1 rfl) ?_
  refine zt_V_a (n := 1) (mc := 1) (ms := 6) (As := [.int (v0)]) (rest := [.ref (ad 0)]) hx hb hml hts hown hZ hX hP hD hS hA (c_X4_driveNumbered l hlt D cA _ _ 0 (ad 0) (ad 1) n (ad 2) nd (ad 3) (ad 4) l22 2 E l24 hd3 v0) gX4_bestJob_X4_driveNumbered rfl rfl ⟨rfl, rfl⟩ ⟨by decide +kernel, Nat.le_of_ble_eq_true rfl, Nat.le_of_ble_eq_true rfl⟩ l22 rfl hl.1 rfl (Nat.le_of_ble_eq_true rfl) ⟨Nat.le_of_ble_eq_true rfl, Nat.le_of_ble_eq_true rfl⟩ rfl dX4_bestJob_3 (fun E9 ce9 q9 u9 H locs hpx hP hD hS hz hq1 hq2 hq3 => ?_) (fun u_1 r_3 H locs hp_2 hra hP hD hS hz => ?_)
  · exact zt_out ws hS hP hD (⟨Or.inl ⟨kR_1 (ix_none (by omega) hpx.2), hpx.1⟩, zKeep_rf, _, _, _, _, _, _, hL0⟩) htab hlocks hq1 hq2 hq3 (Nat.le_of_ble_eq_true rfl) (Nat.le_of_ble_eq_true rfl)
  have hP : va_P D vwCl (ws) H := hP
  have hD : va_D A (ws) := hD
  obtain ⟨hjn, hv_j⟩ := hp_2
  obtain ⟨j, rfl⟩ : ∃ z, z = u_1 := ⟨_, rfl⟩
  have hra : r_3 = E j := hra
  subst hra
  subst hv_j
  have hl : lv_has ls 3 [(0, .ref (ad 0)), (1, .int (nI (j))), (2, .int (v1))] := hl
  obtain ⟨-, hPE_j⟩ := hE j hjn
  obtain ⟨hmk_j, hct_j, hpn_j, hps_j⟩ := hID j hjn
  refine zt_V_v (n := 1) (mc := 1) (ms := 6) (As := [.ref (E j)]) (rest := []) (w1 := fun u : Nat × Nat × (Nat → Int32) × va_W => u.2.2.2) hx hb hml hts hown hZ hX hP hD hS hA (c_X4_measureOrders l hlt D cA _ _ ad T Bd E PT PB PE n tr le sl mo la fc bo nd mk ck ct hd pq nj fw jf dl dn oc s8 s9 s10 s11 s12 hL0 hI0 j hjn) gX4_bestJob_X4_measureOrders rfl rfl ⟨rfl, rfl⟩ ⟨by decide +kernel, Nat.le_of_ble_eq_true rfl, Nat.le_of_ble_eq_true rfl⟩ l22 rfl hl.1 rfl (Nat.le_of_ble_eq_true rfl) ⟨Nat.le_of_ble_eq_true rfl, Nat.le_of_ble_eq_true rfl⟩ rfl dX4_bestJob_6 (fun E9 ce9 q9 u9 H locs hpx hP hD hS hz hq1 hq2 hq3 => ?_) (fun u_4 H locs hp_5 hP hD hS hz => ?_)
  · exact zt_out ws hS hP hD (⟨Or.inr ⟨kR_2 (ix_in (by omega) hjn) hpx.2, hpx.1⟩, zKeep_rf, _, _, _, _, _, _, hL0⟩) htab hlocks hq1 hq2 hq3 (Nat.le_of_ble_eq_true rfl) (Nat.le_of_ble_eq_true rfl)
  obtain ⟨t, P, u9, w9⟩ := u_4
  obtain ⟨hht, hPq0, hPm9, hkp, hu9, hL1⟩ := hp_5
  have hht : hd j = some t := hht
  have hPq0 : pq j = nI P := hPq0
  obtain ⟨htn, hmoj, P8, hPq8, hP9⟩ := hps_j t hht
  have hP8 : P8 ≤ 2 ^ 30 := by
    obtain ⟨k1, k2, k3, k4, -⟩ := hIT t htn
    have k5 : tr t * le t ≤ 8 * 200 := Nat.mul_le_mul k2 k4
    omega
  have hkp : zKeep ws w9 := hkp
  have hu9 : ∀ a b, (a < (wl fw (nI t) nj).length ∨ a = 7) → b < (wl fw (nI t) nj).length → u9 (a * 7 + b) = nI ((LG mk tr le bo jf j t P (wl fw (nI t) nj)) a b) := hu9
  have hL1 : zL cA w9 ad T Bd E PT PB PE n tr le sl mo la fc bo nd mk ck ct hd pq nj fw jf dl dn (wl fw (nI t) nj).length (colF s8 (wl fw (nI t) nj)) u9 s10 s11 s12 := hL1
  have hP : va_P D vwCl w9 H := hP
  have hD : va_D A w9 := hD
  obtain ⟨⟨m22, m23, m24, m25, m26, m27, m28, m29, m30, m31, m32, m33, m34⟩, -⟩ := id hL1
  have hoc7 : (wl fw (nI t) nj).length ≤ 7 := hIw t htn
  have hLGb : ∀ a b, (LG mk tr le bo jf j t P (wl fw (nI t) nj)) a b ≤ 100000 := by
    obtain ⟨k1, k2, k3, k4, k5, k6, k7, k8, k9, k10⟩ := hIT t htn
    have k11 : tr t * le t ≤ 8 * 200 := Nat.mul_le_mul k2 k4
    exact LG_le k1 k2 k3 k4 (fun x hx => by
      obtain ⟨g1, g2⟩ := wl_mem hx
      have g3 := hIJ x g1 t g2 htn
      have g5 := bmono _ k9 (jf x + 1) (by omega)
      omega)
  rcases zI_split v1 with hneg | ⟨p9, hp31, rfl⟩
  · refine lv_iload_n hx hb dX4_bestJob_9 rfl (lv_at hl 2 rfl) ?_
    refine lv_if_lt (tgt := 24) hx hb dX4_bestJob_10 (by decide) (fun c_7 => ?_) (fun c_7 => absurd hneg c_7)
    exact zt_throw (cls := "java/lang/IndexOutOfBoundsException") (text := "no such place in the order") (ik := 67) (is := 208) (ic := 71) w9 hx hb hlt hown hZ hX hS hP hD (⟨Or.inl ⟨kR_3 (ix_in (by omega) hjn) hht (ix_neg hneg), rfl⟩, hkp, _, _, _, _, _, _, hL1⟩) htab hlocks (hl.1.trans hml.symm) (by decide) (hts (.classLink RX4 67 "java/lang/IndexOutOfBoundsException") (by decide +kernel)) (hts (.initialized "java/lang/IndexOutOfBoundsException") (by decide +kernel)) (fun w hw => hts w ((by decide +kernel : ∀ w ∈ (vx_atS RX4 71 "java/lang/IndexOutOfBoundsException" ["java/lang/RuntimeException", "java/lang/Exception"]).filter goodWord, w ∈ wsX4_bestJob) w hw)) (by decide +kernel) (by decide +kernel) (by decide +kernel) dX4_bestJob_24 dX4_bestJob_27 dX4_bestJob_28 dX4_bestJob_30 dX4_bestJob_33 ⟨Nat.le_of_ble_eq_true rfl, Nat.le_of_ble_eq_true rfl, Nat.le_of_ble_eq_true rfl, Nat.le_of_ble_eq_true rfl⟩ (Nat.le_of_ble_eq_true rfl) (Nat.le_of_ble_eq_true rfl)
  · refine lv_iload_n hx hb dX4_bestJob_9 rfl (lv_at hl 2 rfl) ?_
    refine zf_lt (tgt := 24) hx hb (by omega) dX4_bestJob_10 (by decide) ?_
    refine lv_iload_n hx hb dX4_bestJob_13 rfl (lv_at hl 2 rfl) ?_
    refine lv_aload_n hx hb dX4_bestJob_14 rfl (lv_at hl 0 rfl) ?_
    refine va_get (D := D) (ci := 4) (v := .ref (ad 4)) (C := RX4) (T := TX4) (N := 6) hx hb hts iX4 hown hZ.1 hP 0 m22 rfl 5 (by decide) (hts (.fieldLink RX4 38 "TapeRobotics" "orders" "LTapeRobotics$Orders;") (by decide +kernel)) (fun _ h9 => h9) rfl dX4_bestJob_15 ?_
    refine va_getN (D := D) (ci := 2) (v := .int (nI ((wl fw (nI t) nj).length))) (C := RX2) (T := TX2) (N := 6) hx hb hts iX2 hown hZ.1 hP 4 m26 rfl 0 (by decide) (va_Nw.use rfl (hZ.2 (.fieldLinkNest RX4 203 RX2 "count" "I" "TapeRobotics") (List.mem_of_getElem? (i := 43) rfl))) (fun _ h9 => h9) rfl dX4_bestJob_18 ?_
    refine zc_lt (tgt := 34) hx hb (by omega) (by omega) dX4_bestJob_21 (by decide) (fun c_9 => ?_) (fun c_9 => ?_)
    · refine lv_aload_n hx hb dX4_bestJob_34 rfl (lv_at hl 0 rfl) ?_
      refine va_get (D := D) (ci := 4) (v := .ref (ad 4)) (C := RX4) (T := TX4) (N := 6) hx hb hts iX4 hown hZ.1 hP 0 m22 rfl 5 (by decide) (hts (.fieldLink RX4 38 "TapeRobotics" "orders" "LTapeRobotics$Orders;") (by decide +kernel)) (fun _ h9 => h9) rfl dX4_bestJob_35 ?_
      refine zw_VN_v (n := 0) (mc := 0) (ms := 0) (As := []) (rest := []) (w1 := fun u : (Nat → Int32) => (w9.set 10 (ad 10, zInts cA 896 u)).set 11 (ad 11, zInts cA 7 (colF s11 (BO (LG mk tr le bo jf j t P (wl fw (nI t) nj)) (wl fw (nI t) nj).length (np 0) 7)))) hx hb hml hts hown hZ hP hD hS hA (c_X2_findBest l D cA _ _ 4 (ad 4) (wl fw (nI t) nj).length (ad 8) (ad 9) (ad 10) (ad 11) (ad 12) m26 9 u9 m31 10 s10 m32 11 s11 m33 (by decide) (by decide) (by decide) hoc7 (LG mk tr le bo jf j t P (wl fw (nI t) nj)) hu9 (fun a b _ => hLGb a b)) ggX4_bestJob_X2_findBest (List.mem_of_getElem? (i := 33) rfl) (by decide +kernel) rfl ⟨rfl, rfl⟩ ⟨by decide +kernel, Nat.le_of_ble_eq_true rfl, Nat.le_of_ble_eq_true rfl⟩ m26 rfl hl.1 rfl (Nat.le_of_ble_eq_true rfl) ⟨Nat.le_of_ble_eq_true rfl, Nat.le_of_ble_eq_true rfl⟩ rfl dX4_bestJob_38 (fun u_12 H locs hr_11 hP hD hS hz_12 => ?_)
      have hP : va_P D vwCl ((w9.set 10 (ad 10, zInts cA 896 u_12)).set 11 (ad 11, zInts cA 7 (colF s11 (BO (LG mk tr le bo jf j t P (wl fw (nI t) nj)) (wl fw (nI t) nj).length (np 0) 7)))) H := hP
      have hD : va_D A ((w9.set 10 (ad 10, zInts cA 896 u_12)).set 11 (ad 11, zInts cA 7 (colF s11 (BO (LG mk tr le bo jf j t P (wl fw (nI t) nj)) (wl fw (nI t) nj).length (np 0) 7)))) := hD
      have hboL : (BO (LG mk tr le bo jf j t P (wl fw (nI t) nj)) (wl fw (nI t) nj).length (np 0) 7).length = (wl fw (nI t) nj).length := by rw [BO_length, np_0, cnt_all]
      have hboM : ∀ x, x ∈ (BO (LG mk tr le bo jf j t P (wl fw (nI t) nj)) (wl fw (nI t) nj).length (np 0) 7) → x < (wl fw (nI t) nj).length := fun x hx => (BO_mem hx).1
      refine lv_aload_n hx hb dX4_bestJob_41 rfl (lv_at hl 0 rfl) ?_
      refine va_get (D := D) (ci := 4) (v := .ref (ad 4)) (C := RX4) (T := TX4) (N := 6) hx hb hts iX4 hown hZ.1 hP 0 (zset_n (zset_n m22 (by decide)) (by decide)) rfl 5 (by decide) (hts (.fieldLink RX4 38 "TapeRobotics" "orders" "LTapeRobotics$Orders;") (by decide +kernel)) (fun _ h9 => h9) rfl dX4_bestJob_42 ?_
      refine lv_iload_n hx hb dX4_bestJob_45 rfl (lv_at hl 2 rfl) ?_
      refine zk_VN_i (n := 1) (As := [.int (nI (p9))]) (rest := []) hx hb hml hts hown hZ hP (c_X2_bestJobAt l D cA _ 4 (ad 4) (wl fw (nI t) nj).length (ad 8) (ad 9) (ad 10) (ad 11) (ad 12) (zset_n (zset_n m26 (by decide)) (by decide)) 8 (colF s8 (wl fw (nI t) nj)) (zset_n (zset_n m30 (by decide)) (by decide)) 11 (colF s11 (BO (LG mk tr le bo jf j t P (wl fw (nI t) nj)) (wl fw (nI t) nj).length (np 0) 7)) (zset_s (zset_n m33 (by decide))) p9 ((BO (LG mk tr le bo jf j t P (wl fw (nI t) nj)) (wl fw (nI t) nj).length (np 0) 7).getD p9 0) (by omega) (colF_in (by omega)) (Nat.lt_of_lt_of_le (hboM _ (getD_mem (by omega))) hoc7)) ggX4_bestJob_X2_bestJobAt (List.mem_of_getElem? (i := 35) rfl) (by decide +kernel) rfl ⟨rfl, rfl⟩ ⟨by decide +kernel, Nat.le_of_ble_eq_true rfl, Nat.le_of_ble_eq_true rfl⟩ (zset_n (zset_n m26 (by decide)) (by decide)) rfl hl.1 rfl (Nat.le_of_ble_eq_true rfl) ⟨Nat.le_of_ble_eq_true rfl, Nat.le_of_ble_eq_true rfl⟩ rfl dX4_bestJob_46 (fun r_13 hr_14 => ?_)
      obtain rfl := show r_13 = _ from hr_14
      refine zx_val (y := nI ((wl fw (nI t) nj).getD ((BO (LG mk tr le bo jf j t P (wl fw (nI t) nj)) (wl fw (nI t) nj).length (np 0) 7).getD p9 0) 0)) (colF_in (hboM _ (getD_mem (by omega)))) ?_
      exact zr_ti (S := Nat × Nat × Nat × Nat × va_W) (w1 := fun u => u.2.2.2.2) (j, t, P, p9, (w9.set 10 (ad 10, zInts cA 896 u_12)).set 11 (ad 11, zInts cA 7 (colF s11 (BO (LG mk tr le bo jf j t P (wl fw (nI t) nj)) (wl fw (nI t) nj).length (np 0) 7)))) hx hb hr hlocks (⟨hjn, rfl, hht, hPq0, hPm9, by assumption, rfl, rfl, zKeep_set (zKeep_set hkp (by omega)) (by omega), _, _, _, _, _, _, zL_33 (zL_32 hL1 u_12) (colF s11 (BO (LG mk tr le bo jf j t P (wl fw (nI t) nj)) (wl fw (nI t) nj).length (np 0) 7))⟩) hP hD hS (rfl) dX4_bestJob_49 ⟨Nat.le_of_ble_eq_true rfl, Nat.le_of_ble_eq_true rfl⟩
    · exact zt_throw (cls := "java/lang/IndexOutOfBoundsException") (text := "no such place in the order") (ik := 67) (is := 208) (ic := 71) w9 hx hb hlt hown hZ hX hS hP hD (⟨Or.inl ⟨kR_3 (ix_in (by omega) hjn) hht (by rw [ix_nI hp31]; exact if_neg (by omega)), rfl⟩, hkp, _, _, _, _, _, _, hL1⟩) htab hlocks (hl.1.trans hml.symm) (by decide) (hts (.classLink RX4 67 "java/lang/IndexOutOfBoundsException") (by decide +kernel)) (hts (.initialized "java/lang/IndexOutOfBoundsException") (by decide +kernel)) (fun w hw => hts w ((by decide +kernel : ∀ w ∈ (vx_atS RX4 71 "java/lang/IndexOutOfBoundsException" ["java/lang/RuntimeException", "java/lang/Exception"]).filter goodWord, w ∈ wsX4_bestJob) w hw)) (by decide +kernel) (by decide +kernel) (by decide +kernel) dX4_bestJob_24 dX4_bestJob_27 dX4_bestJob_28 dX4_bestJob_30 dX4_bestJob_33 ⟨Nat.le_of_ble_eq_true rfl, Nat.le_of_ble_eq_true rfl, Nat.le_of_ble_eq_true rfl, Nat.le_of_ble_eq_true rfl⟩ (Nat.le_of_ble_eq_true rfl) (Nat.le_of_ble_eq_true rfl)
