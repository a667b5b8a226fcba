set_option maxHeartbeats 4000000 in
set_option maxRecDepth 100000 in
theorem c_X4_work (l : Launch) (hlt : l.stackTraces = false) (D : va_G) (cA : Nat → ClassId) (sz : Nat) (ws : va_W) (ad : Nat → Nat) (T : Nat → Nat) (Bd : Nat → Nat) (E : Nat → Nat) (PT : Nat → Nat) (PB : Nat → Nat) (PE : Nat → Nat) (n : Nat) (tr : Nat → Nat) (le : Nat → Nat) (sl : Nat → Nat) (mo : Nat → Option Nat) (la : Nat → Bool) (fc : Nat → Nat) (bo : Nat → Nat → Nat) (nd : Nat) (mk : Nat → Nat) (ck : Nat → Int32) (ct : Nat → Nat) (hd : Nat → Option Nat) (pq : Nat → Int32) (nj : Nat) (fw : Nat → Int32) (jf : Nat → Nat) (dl : Nat → Nat) (dn : Nat) (oc : Nat) (s8 : Nat → Int32) (s9 : Nat → Int32) (s10 : Nat → Int32) (s11 : Nat → Int32) (s12 : Nat → Int32) (hL : zL cA ws ad T Bd E PT PB PE n tr le sl mo la fc bo nd mk ck ct hd pq nj fw jf dl dn oc s8 s9 s10 s11 s12) (hI : zI n tr le sl mo fc bo nd mk ct hd pq nj fw jf dl) (v0 : Int32) : vx_Met l yX4_work wsX4_work ({ frames := 8, cells := 4, slots := 24, locals := 142 }) (va_Pc [.ref (ad 0), .int (v0)] (zMX D cA (ws) sz)) (va_Qi (fun (r : Int32) (u : Nat × Nat × Nat × va_W) => u.1 < nd ∧ v0 = nI u.1 ∧ hd u.1 = some u.2.1 ∧ pq u.1 = nI u.2.2.1 ∧ u.2.2.1 ≤ 1600 ∧ ct u.1 < 12 ∧ r = nI (wkL mk tr le bo jf dl u.1 u.2.1 (fun i9 => (wl fw (nI u.2.1) nj).getD ((BO (LG mk tr le bo jf u.1 u.2.1 u.2.2.1 (wl fw (nI u.2.1) nj)) (wl fw (nI u.2.1) nj).length (np 0) 7).getD i9 0) 0) u.2.2.1 (ck u.1) (min (wl fw (nI u.2.1) nj).length (12 - ct u.1))) ∧ zKeep ws u.2.2.2 ∧ ∃ oc s8 s9 s10 s11 s12, (zL cA u.2.2.2 ad T Bd E PT PB PE n tr le sl mo la fc bo nd mk (va_up ck u.1 (wkC mk tr le bo jf u.1 u.2.1 (fun i9 => (wl fw (nI u.2.1) nj).getD ((BO (LG mk tr le bo jf u.1 u.2.1 u.2.2.1 (wl fw (nI u.2.1) nj)) (wl fw (nI u.2.1) nj).length (np 0) 7).getD i9 0) 0) u.2.2.1 (ck u.1) (min (wl fw (nI u.2.1) nj).length (12 - ct u.1)))) (va_up ct u.1 (ct u.1 + (min (wl fw (nI u.2.1) nj).length (12 - ct u.1)))) hd (va_up pq u.1 (nI (wkP bo jf u.2.1 (fun i9 => (wl fw (nI u.2.1) nj).getD ((BO (LG mk tr le bo jf u.1 u.2.1 u.2.2.1 (wl fw (nI u.2.1) nj)) (wl fw (nI u.2.1) nj).length (np 0) 7).getD i9 0) 0) u.2.2.1 (min (wl fw (nI u.2.1) nj).length (12 - ct u.1))))) nj (wkF (fun i9 => (wl fw (nI u.2.1) nj).getD ((BO (LG mk tr le bo jf u.1 u.2.1 u.2.2.1 (wl fw (nI u.2.1) nj)) (wl fw (nI u.2.1) nj).length (np 0) 7).getD i9 0) 0) fw (min (wl fw (nI u.2.1) nj).length (12 - ct u.1))) jf dl (dn + (min (wl fw (nI u.2.1) nj).length (12 - ct u.1))) oc s8 s9 s10 s11 s12)) (fun u => zB D (va_A (ws) sz) (u.2.2.2)) (va_A (ws) sz)) (zXC (fun (X0 : String) (u : va_W) => zexIS (kS (ix v0 nd) (fun j => (hd j).isSome && decide (ct j < 12))) X0 ∧ zKeep ws u ∧ (∃ oc s8 s9 s10 s11 s12, zL cA u ad T Bd E PT PB PE n tr le sl mo la fc bo nd mk ck ct hd pq nj fw jf dl dn oc s8 s9 s10 s11 s12)) (fun u => u) D (va_A (ws) sz)) 4 24 (va_A (ws) sz) := by
  refine zOpenX (cc := cX4_work) (maxL := 7) (ret := (some .int)) (own := RX4) (by decide) rfl rfl (Nat.le_of_ble_eq_true rfl) ?_
  intro p e s m below meth c ls hx hb hr hml hts hown hlocks htab ⟨⟨hZ, hP, hD0, hsz⟩, hX⟩ hl
  subst hsz
  have hD := hD0.self (sz := s.heap.size)
  generalize hAe : va_A (ws) s.heap.size = A at hD hX ⊢
  have hA : ∀ q : Nat, s.heap.size ≤ q → A q := fun q h => by rw [← hAe]; exact Or.inr h
  have hS : va_S A s.heap s.heap [] := va_S.rf
  have iX4 : ∀ w ∈ wsX40, w ∈ wsX4_work := by decide +kernel
  have iX2 : ∀ w ∈ wsX20, w ∈ wsX4_work := by decide +kernel
  have iX0 : ∀ w ∈ wsX00, w ∈ wsX4_work := by decide +kernel
  have hl : lv_has ls 7 [(0, .ref (ad 0)), (1, .int (v0))] := hl
  have hL0 := hL
  obtain ⟨⟨l22, l23, l24, l25, l26, l27, l28, l29, l30, l31, l32, l33, l34⟩, hT, hE, hBne⟩ := hL
  obtain ⟨hn8, hd3, hj60, hIT, hID, hIJ, hIdl, hIw⟩ := hI
  have hI0 : zI n tr le sl mo fc bo nd mk ct hd pq nj fw jf dl := ⟨hn8, hd3, hj60, hIT, hID, hIJ, hIdl, hIw⟩
  refine lv_aload_n hx hb dX4_work_0 rfl (lv_at hl 0 rfl) ?_
  refine lv_iload_n hx hb dX4_work_1 rfl (lv_at hl 1 rfl) ?_
  refine zt_V_a (n := 1) (mc := 1) (ms := 6) (As := [.int (v0)]) (rest := []) hx hb hml hts hown hZ hX hP hD hS hA (c_X4_driveNumbered l hlt D cA _ _ 0 (ad 0) (ad 1) n (ad 2) nd (ad 3) (ad 4) l22 2 E l24 hd3 v0) gX4_work_X4_driveNumbered rfl rfl ⟨rfl, rfl⟩ ⟨by decide +kernel, Nat.le_of_ble_eq_true rfl, Nat.le_of_ble_eq_true rfl⟩ l22 rfl hl.1 rfl (Nat.le_of_ble_eq_true rfl) ⟨Nat.le_of_ble_eq_true rfl, Nat.le_of_ble_eq_true rfl⟩ rfl dX4_work_2 (fun E9 ce9 q9 u9 H locs hpx hP hD hS hz hq1 hq2 hq3 => ?_) (fun u_1 r_3 H locs hp_2 hra hP hD hS hz => ?_)
  · exact zt_out ws hS hP hD (⟨Or.inl ⟨kS_1 (ix_none (by omega) hpx.2), hpx.1⟩, zKeep_rf, _, _, _, _, _, _, hL0⟩) htab hlocks hq1 hq2 hq3 (Nat.le_of_ble_eq_true rfl) (Nat.le_of_ble_eq_true rfl)
  have hP : va_P D vwCl (ws) H := hP
  have hD : va_D A (ws) := hD
  obtain ⟨hjn, hv_j⟩ := hp_2
  obtain ⟨j, rfl⟩ : ∃ z, z = u_1 := ⟨_, rfl⟩
  have hra : r_3 = E j := hra
  subst hra
  subst hv_j
  have hl : lv_has ls 7 [(0, .ref (ad 0)), (1, .int (nI (j)))] := hl
  obtain ⟨-, hPE_j⟩ := hE j hjn
  obtain ⟨hmk_j, hct_j, hpn_j, hps_j⟩ := hID j hjn
  refine lv_astore_n (lv' := [(2, .ref (E j)), (0, .ref (ad 0)), (1, .int (nI (j)))]) hx hb dX4_work_5 rfl hl (by decide) rfl (fun ls hl => ?_)
  refine lv_aload_n hx hb dX4_work_6 rfl (lv_at hl 0 rfl) ?_
  refine zt_S_a (n := 1) (mc := 1) (ms := 6) (As := [.ref (E j)]) (rest := []) hx hb hml hts hown hZ hX hP hD hS hA (c_X4_mountedIn l hlt D cA _ _ (PE j) (E j) j (zpa (mk j)) (zsp (mk j)) ((hd j).map T) (pq j) (ck j) (ct j) (hE j hjn).1) gX4_work_X4_mountedIn rfl ⟨rfl, rfl⟩ ⟨by decide +kernel, Nat.le_of_ble_eq_true rfl, Nat.le_of_ble_eq_true rfl⟩ hl.1 rfl (Nat.le_of_ble_eq_true rfl) ⟨Nat.le_of_ble_eq_true rfl, Nat.le_of_ble_eq_true rfl⟩ rfl dX4_work_7 (fun E9 ce9 q9 u9 H locs hpx hP hD hS hz hq1 hq2 hq3 => ?_) (fun u_4 r_6 H locs hp_5 hra hP hD hS hz => ?_)
  · have hhd : hd j = none := Option.map_eq_none_iff.mp (show (hd j).map T = none from hpx.2)
    exact zt_out ws hS hP hD (⟨Or.inr ⟨kS_n (ix_in (by omega) hjn) (by rw [hhd]; rfl), hpx.1⟩, zKeep_rf, _, _, _, _, _, _, hL0⟩) htab hlocks hq1 hq2 hq3 (Nat.le_of_ble_eq_true rfl) (Nat.le_of_ble_eq_true rfl)
  have hP : va_P D vwCl (ws) H := hP
  have hD : va_D A (ws) := hD
  obtain ⟨t, hht, hTt⟩ := Option.map_eq_some_iff.mp (show (hd j).map T = some u_4 from hp_5)
  have hra : r_6 = u_4 := hra
  rw [← hTt] at hra
  subst hra
  obtain ⟨htn, hmoj, P, hPq, hP9⟩ := hps_j t hht
  obtain ⟨-, -, hPT_t, hPB_t⟩ := hT t htn
  obtain ⟨htr1_t, htr8_t, hle4_t, hle200_t, hsl12_t, hmo_t, hfc10_t, hbo0_t, hbinc_t, hbtop_t⟩ := hIT t htn
  have hmul : tr t * le t ≤ 8 * 200 := Nat.mul_le_mul (by omega) (by omega)
  have hEj : ws[PE j]? = some (E j, zDrive j (zpa (mk j)) (zsp (mk j)) ((hd j).map T) (nI P) (ck j) (ct j)) := by rw [← hPq]; exact (hE j hjn).1
  refine lv_astore_n (lv' := [(3, .ref (T t)), (2, .ref (E j)), (0, .ref (ad 0)), (1, .int (nI (j)))]) hx hb dX4_work_10 rfl hl (by decide) rfl (fun ls hl => ?_)
  refine lv_aload_n hx hb dX4_work_11 rfl (lv_at hl 1 rfl) ?_
  refine zt_S_v (n := 1) (mc := 1) (ms := 6) (As := [.ref (E j)]) (rest := []) hx hb hml hts hown hZ hX hP hD hS hA (c_X4_refuseUnclean l hlt D cA _ _ (PE j) (E j) j (zpa (mk j)) (zsp (mk j)) ((hd j).map T) (nI (P)) (ck j) (ct j) hEj (by omega)) gX4_work_X4_refuseUnclean rfl ⟨rfl, rfl⟩ ⟨by decide +kernel, Nat.le_of_ble_eq_true rfl, Nat.le_of_ble_eq_true rfl⟩ hl.1 rfl (Nat.le_of_ble_eq_true rfl) ⟨Nat.le_of_ble_eq_true rfl, Nat.le_of_ble_eq_true rfl⟩ rfl dX4_work_12 (fun E9 ce9 q9 u9 H locs hpx hP hD hS hz hq1 hq2 hq3 => ?_) (fun u_7 H locs hp_8 hP hD hS hz => ?_)
  · exact zt_out ws hS hP hD (⟨Or.inr ⟨kS_n (ix_in (by omega) hjn) (by rw [decide_eq_false (show ¬ ct j < 12 by have := hpx.2; omega), Bool.and_false]), hpx.1⟩, zKeep_rf, _, _, _, _, _, _, hL0⟩) htab hlocks hq1 hq2 hq3 (Nat.le_of_ble_eq_true rfl) (Nat.le_of_ble_eq_true rfl)
  have hP : va_P D vwCl (ws) H := hP
  have hD : va_D A (ws) := hD
  have hcl12 : ct j < 12 := hp_8
  refine lv_aload_n hx hb dX4_work_15 rfl (lv_at hl 2 rfl) ?_
  refine lv_aload_n hx hb dX4_work_16 rfl (lv_at hl 1 rfl) ?_
  refine zt_V_v (n := 1) (mc := 1) (ms := 6) (As := [.ref (E j)]) (rest := []) (w1 := fun u : Nat × Nat × (Nat → Int32) × va_W => u.2.2.2) hx hb hml hts hown hZ hX hP hD hS hA (c_X4_measureOrders l hlt D cA _ _ ad T Bd E PT PB PE n tr le sl mo la fc bo nd mk ck ct hd pq nj fw jf dl dn oc s8 s9 s10 s11 s12 hL0 hI0 j hjn) gX4_work_X4_measureOrders rfl rfl ⟨rfl, rfl⟩ ⟨by decide +kernel, Nat.le_of_ble_eq_true rfl, Nat.le_of_ble_eq_true rfl⟩ l22 rfl hl.1 rfl (Nat.le_of_ble_eq_true rfl) ⟨Nat.le_of_ble_eq_true rfl, Nat.le_of_ble_eq_true rfl⟩ rfl dX4_work_17 (fun E9 ce9 q9 u9 H locs hpx hP hD hS hz hq1 hq2 hq3 => ?_) (fun u_10 H locs hp_11 hP hD hS hz => ?_)
  · exact zt_out ws hS hP hD (⟨False.elim (by rw [hht] at hpx; cases hpx.2), zKeep_rf, _, _, _, _, _, _, hL0⟩) htab hlocks hq1 hq2 hq3 (Nat.le_of_ble_eq_true rfl) (Nat.le_of_ble_eq_true rfl)
  obtain ⟨t2, P2, u9, w9⟩ := u_10
  obtain ⟨hht2, hPq0, hPm9, hkp, hu9, hL1⟩ := hp_11
  have hht2 : hd j = some t2 := hht2
  have hPq0 : pq j = nI P2 := hPq0
  have e9 : t = t2 := by rw [hht] at hht2; cases hht2; rfl
  subst e9
  have e9 : P = P2 := (nI_eq (by have h9 : P2 ≤ 1600 := hPm9; omega) (by omega)).mp (hPq0.symm.trans hPq) |>.symm
  subst e9
  have hP8 : P ≤ 2 ^ 30 := by omega
  
  have hkp : zKeep ws w9 := hkp
  have hu9 : ∀ a b, (a < (wl fw (nI t) nj).length ∨ a = 7) → b < (wl fw (nI t) nj).length → u9 (a * 7 + b) = nI ((LG mk tr le bo jf j t P (wl fw (nI t) nj)) a b) := hu9
  have hL1 : zL cA w9 ad T Bd E PT PB PE n tr le sl mo la fc bo nd mk ck ct hd pq nj fw jf dl dn (wl fw (nI t) nj).length (colF s8 (wl fw (nI t) nj)) u9 s10 s11 s12 := hL1
  have hP : va_P D vwCl w9 H := hP
  have hD : va_D A w9 := hD
  obtain ⟨⟨m22, m23, m24, m25, m26, m27, m28, m29, m30, m31, m32, m33, m34⟩, -⟩ := id hL1
  have hoc7 : (wl fw (nI t) nj).length ≤ 7 := hIw t htn
  have hLGb : ∀ a b, (LG mk tr le bo jf j t P (wl fw (nI t) nj)) a b ≤ 100000 := by
    obtain ⟨k1, k2, k3, k4, k5, k6, k7, k8, k9, k10⟩ := hIT t htn
    have k11 : tr t * le t ≤ 8 * 200 := Nat.mul_le_mul k2 k4
    exact LG_le k1 k2 k3 k4 (fun x hx => by
      obtain ⟨g1, g2⟩ := wl_mem hx
      have g3 := hIJ x g1 t g2 htn
      have g5 := bmono _ k9 (jf x + 1) (by omega)
      omega)
  refine lv_aload_n hx hb dX4_work_20 rfl (lv_at hl 2 rfl) ?_
  refine va_get (D := D) (ci := 4) (v := .ref (ad 4)) (C := RX4) (T := TX4) (N := 6) hx hb hts iX4 hown hZ.1 hP 0 m22 rfl 5 (by decide) (hts (.fieldLink RX4 38 "TapeRobotics" "orders" "LTapeRobotics$Orders;") (by decide +kernel)) (fun _ h9 => h9) rfl dX4_work_21 ?_
  refine zw_VN_v (n := 0) (mc := 0) (ms := 0) (As := []) (rest := []) (w1 := fun u : (Nat → Int32) => (w9.set 10 (ad 10, zInts cA 896 u)).set 11 (ad 11, zInts cA 7 (colF s11 (BO (LG mk tr le bo jf j t P (wl fw (nI t) nj)) (wl fw (nI t) nj).length (np 0) 7)))) hx hb hml hts hown hZ hP hD hS hA (c_X2_findBest l D cA _ _ 4 (ad 4) (wl fw (nI t) nj).length (ad 8) (ad 9) (ad 10) (ad 11) (ad 12) m26 9 u9 m31 10 s10 m32 11 s11 m33 (by decide) (by decide) (by decide) hoc7 (LG mk tr le bo jf j t P (wl fw (nI t) nj)) hu9 (fun a b _ => hLGb a b)) ggX4_work_X2_findBest (List.mem_of_getElem? (i := 33) rfl) (by decide +kernel) rfl ⟨rfl, rfl⟩ ⟨by decide +kernel, Nat.le_of_ble_eq_true rfl, Nat.le_of_ble_eq_true rfl⟩ m26 rfl hl.1 rfl (Nat.le_of_ble_eq_true rfl) ⟨Nat.le_of_ble_eq_true rfl, Nat.le_of_ble_eq_true rfl⟩ rfl dX4_work_24 (fun u_15 H locs hr_14 hP hD hS hz_15 => ?_)
  have hP : va_P D vwCl ((w9.set 10 (ad 10, zInts cA 896 u_15)).set 11 (ad 11, zInts cA 7 (colF s11 (BO (LG mk tr le bo jf j t P (wl fw (nI t) nj)) (wl fw (nI t) nj).length (np 0) 7)))) H := hP
  have hD : va_D A ((w9.set 10 (ad 10, zInts cA 896 u_15)).set 11 (ad 11, zInts cA 7 (colF s11 (BO (LG mk tr le bo jf j t P (wl fw (nI t) nj)) (wl fw (nI t) nj).length (np 0) 7)))) := hD
  have hboL : (BO (LG mk tr le bo jf j t P (wl fw (nI t) nj)) (wl fw (nI t) nj).length (np 0) 7).length = (wl fw (nI t) nj).length := by rw [BO_length, np_0, cnt_all]
  have hboM : ∀ x, x ∈ (BO (LG mk tr le bo jf j t P (wl fw (nI t) nj)) (wl fw (nI t) nj).length (np 0) 7) → x < (wl fw (nI t) nj).length := fun x hx => (BO_mem hx).1
  refine lv_iconst (v := nI (0)) hx hb dX4_work_27 (by decide) ?_
  refine lv_istore (lv' := [(4, .int (nI (0))), (3, .ref (T t)), (2, .ref (E j)), (0, .ref (ad 0)), (1, .int (nI (j)))]) hx hb dX4_work_28 hl (by decide) rfl (fun ls hl => ?_)
  refine lv_iconst (v := nI (0)) hx hb dX4_work_30 (by decide) ?_
  refine lv_istore (lv' := [(5, .int (nI (0))), (4, .int (nI (0))), (3, .ref (T t)), (2, .ref (E j)), (0, .ref (ad 0)), (1, .int (nI (j)))]) hx hb dX4_work_31 hl (by decide) rfl (fun ls hl => ?_)
  obtain ⟨W0, hW0⟩ : ∃ z, z = (w9.set 10 (ad 10, zInts cA 896 u_15)).set 11 (ad 11, zInts cA 7 (colF s11 (BO (LG mk tr le bo jf j t P (wl fw (nI t) nj)) (wl fw (nI t) nj).length (np 0) 7))) := ⟨_, rfl⟩
  rw [← hW0] at hP hD
  have hkp2 : zKeep ws W0 := by rw [hW0]; exact zKeep_set (zKeep_set hkp (by omega)) (by omega)
  obtain ⟨z10, hz10⟩ : ∃ z, z = u_15 := ⟨_, rfl⟩
  have hL2 : zL cA W0 ad T Bd E PT PB PE n tr le sl mo la fc bo nd mk (va_up ck j (wkC mk tr le bo jf j t (fun i9 => (wl fw (nI t) nj).getD ((BO (LG mk tr le bo jf j t P (wl fw (nI t) nj)) (wl fw (nI t) nj).length (np 0) 7).getD i9 0) 0) P (ck j) 0)) (va_up ct j (ct j + 0)) hd (va_up pq j (nI (wkP bo jf t (fun i9 => (wl fw (nI t) nj).getD ((BO (LG mk tr le bo jf j t P (wl fw (nI t) nj)) (wl fw (nI t) nj).length (np 0) 7).getD i9 0) 0) P 0))) nj (wkF (fun i9 => (wl fw (nI t) nj).getD ((BO (LG mk tr le bo jf j t P (wl fw (nI t) nj)) (wl fw (nI t) nj).length (np 0) 7).getD i9 0) 0) fw 0) jf dl (dn + 0) (wl fw (nI t) nj).length (colF s8 (wl fw (nI t) nj)) u9 z10 (colF s11 (BO (LG mk tr le bo jf j t P (wl fw (nI t) nj)) (wl fw (nI t) nj).length (np 0) 7)) s12 := by
    rw [hW0, hz10]
    have h9 := zL_33 (zL_32 hL1 u_15) (colF s11 (BO (LG mk tr le bo jf j t P (wl fw (nI t) nj)) (wl fw (nI t) nj).length (np 0) 7))
    have e1 : va_up pq j (nI P) = pq := by rw [← hPq0]; exact va_up_id _ _
    show zL cA (((w9.set 10 (ad 10, zInts cA 896 u_15)).set 11 (ad 11, zInts cA 7 (colF s11 (BO (LG mk tr le bo jf j t P (wl fw (nI t) nj)) (wl fw (nI t) nj).length (np 0) 7))))) ad T Bd E PT PB PE n tr le sl mo la fc bo nd mk (va_up ck j (wkC mk tr le bo jf j t (fun i9 => (wl fw (nI t) nj).getD ((BO (LG mk tr le bo jf j t P (wl fw (nI t) nj)) (wl fw (nI t) nj).length (np 0) 7).getD i9 0) 0) P (ck j) 0)) (va_up ct j (ct j + 0)) hd (va_up pq j (nI (wkP bo jf t (fun i9 => (wl fw (nI t) nj).getD ((BO (LG mk tr le bo jf j t P (wl fw (nI t) nj)) (wl fw (nI t) nj).length (np 0) 7).getD i9 0) 0) P 0))) nj (wkF (fun i9 => (wl fw (nI t) nj).getD ((BO (LG mk tr le bo jf j t P (wl fw (nI t) nj)) (wl fw (nI t) nj).length (np 0) 7).getD i9 0) 0) fw 0) jf dl (dn + 0) (wl fw (nI t) nj).length (colF s8 (wl fw (nI t) nj)) u9 u_15 (colF s11 (BO (LG mk tr le bo jf j t P (wl fw (nI t) nj)) (wl fw (nI t) nj).length (np 0) 7)) s12
    rw [show (wkP bo jf t (fun i9 => (wl fw (nI t) nj).getD ((BO (LG mk tr le bo jf j t P (wl fw (nI t) nj)) (wl fw (nI t) nj).length (np 0) 7).getD i9 0) 0) P 0) = P from rfl, show (wkC mk tr le bo jf j t (fun i9 => (wl fw (nI t) nj).getD ((BO (LG mk tr le bo jf j t P (wl fw (nI t) nj)) (wl fw (nI t) nj).length (np 0) 7).getD i9 0) 0) P (ck j) 0) = ck j from rfl, show (wkF (fun i9 => (wl fw (nI t) nj).getD ((BO (LG mk tr le bo jf j t P (wl fw (nI t) nj)) (wl fw (nI t) nj).length (np 0) 7).getD i9 0) 0) fw 0) = fw from rfl, e1, va_up_id, Nat.add_zero, va_up_id]
    exact h9
  refine z_loopW (α := Nat × Nat × va_W) (fun v => (wl fw (nI t) nj).length - v.1) (fun v H locs ls => lv_has ls 7 [(0, .ref (ad 0)), (2, .ref (E j)), (3, .ref (T t)), (5, .int (nI (v.1))), (4, .int (nI (v.2.1)))] ∧ va_P D vwCl (v.2.2) H ∧ va_D A (v.2.2) ∧ va_S A s.heap H locs ∧ zL cA v.2.2 ad T Bd E PT PB PE n tr le sl mo la fc bo nd mk (va_up ck j (wkC mk tr le bo jf j t (fun i9 => (wl fw (nI t) nj).getD ((BO (LG mk tr le bo jf j t P (wl fw (nI t) nj)) (wl fw (nI t) nj).length (np 0) 7).getD i9 0) 0) P (ck j) v.1)) (va_up ct j (ct j + v.1)) hd (va_up pq j (nI (wkP bo jf t (fun i9 => (wl fw (nI t) nj).getD ((BO (LG mk tr le bo jf j t P (wl fw (nI t) nj)) (wl fw (nI t) nj).length (np 0) 7).getD i9 0) 0) P v.1))) nj (wkF (fun i9 => (wl fw (nI t) nj).getD ((BO (LG mk tr le bo jf j t P (wl fw (nI t) nj)) (wl fw (nI t) nj).length (np 0) 7).getD i9 0) 0) fw v.1) jf dl (dn + v.1) (wl fw (nI t) nj).length (colF s8 (wl fw (nI t) nj)) u9 z10 (colF s11 (BO (LG mk tr le bo jf j t P (wl fw (nI t) nj)) (wl fw (nI t) nj).length (np 0) 7)) s12 ∧ zKeep ws v.2.2 ∧ v.2.1 = (wkL mk tr le bo jf dl j t (fun i9 => (wl fw (nI t) nj).getD ((BO (LG mk tr le bo jf j t P (wl fw (nI t) nj)) (wl fw (nI t) nj).length (np 0) 7).getD i9 0) 0) P (ck j) v.1) ∧ v.1 ≤ (wl fw (nI t) nj).length ∧ ct j + v.1 ≤ 12) (fun _ => []) (0, 0, W0) ⟨lv_sub hl [4, 3, 2, 0, 1] rfl, hP, hD, hS, hL2, hkp2, rfl, Nat.zero_le _, by dsimp only; omega⟩ ?_
  intro v ih33 H locs ls hv
  obtain ⟨i, la9, wx⟩ := v
  obtain ⟨hl, hP, hD, hS, hI⟩ := hv
  have hP : va_P D vwCl (wx) H := hP
  have hD : va_D A (wx) := hD
  have hl : lv_has ls 7 [(0, .ref (ad 0)), (2, .ref (E j)), (3, .ref (T t)), (5, .int (nI (i))), (4, .int (nI (la9)))] := hl
  have hI : zL cA wx ad T Bd E PT PB PE n tr le sl mo la fc bo nd mk (va_up ck j (wkC mk tr le bo jf j t (fun i9 => (wl fw (nI t) nj).getD ((BO (LG mk tr le bo jf j t P (wl fw (nI t) nj)) (wl fw (nI t) nj).length (np 0) 7).getD i9 0) 0) P (ck j) i)) (va_up ct j (ct j + i)) hd (va_up pq j (nI (wkP bo jf t (fun i9 => (wl fw (nI t) nj).getD ((BO (LG mk tr le bo jf j t P (wl fw (nI t) nj)) (wl fw (nI t) nj).length (np 0) 7).getD i9 0) 0) P i))) nj (wkF (fun i9 => (wl fw (nI t) nj).getD ((BO (LG mk tr le bo jf j t P (wl fw (nI t) nj)) (wl fw (nI t) nj).length (np 0) 7).getD i9 0) 0) fw i) jf dl (dn + i) (wl fw (nI t) nj).length (colF s8 (wl fw (nI t) nj)) u9 z10 (colF s11 (BO (LG mk tr le bo jf j t P (wl fw (nI t) nj)) (wl fw (nI t) nj).length (np 0) 7)) s12 ∧ zKeep ws wx ∧ la9 = (wkL mk tr le bo jf dl j t (fun i9 => (wl fw (nI t) nj).getD ((BO (LG mk tr le bo jf j t P (wl fw (nI t) nj)) (wl fw (nI t) nj).length (np 0) 7).getD i9 0) 0) P (ck j) i) ∧ i ≤ (wl fw (nI t) nj).length ∧ ct j + i ≤ 12 := hI
  obtain ⟨hLx, hkx, hla, hi, hc12⟩ := hI
  have hlai := wkL_le (mk := mk) (tr := tr) (le := le) (bo := bo) (jf := jf) (dl := dl) (j := j) (t := t) (Js := (fun i9 => (wl fw (nI t) nj).getD ((BO (LG mk tr le bo jf j t P (wl fw (nI t) nj)) (wl fw (nI t) nj).length (np 0) 7).getD i9 0) 0)) (P := P) (c := ck j) i
  obtain ⟨⟨l22, l23, l24, l25, l26, l27, l28, l29, l30, l31, l32, l33, l34⟩, hT9, hE9, -⟩ := id hLx
  have hEj9 : wx[PE j]? = some (E j, zDrive j (zpa (mk j)) (zsp (mk j)) ((hd j).map T) (nI (wkP bo jf t (fun i9 => (wl fw (nI t) nj).getD ((BO (LG mk tr le bo jf j t P (wl fw (nI t) nj)) (wl fw (nI t) nj).length (np 0) 7).getD i9 0) 0) P i)) (wkC mk tr le bo jf j t (fun i9 => (wl fw (nI t) nj).getD ((BO (LG mk tr le bo jf j t P (wl fw (nI t) nj)) (wl fw (nI t) nj).length (np 0) 7).getD i9 0) 0) P (ck j) i) (ct j + i)) := by
    have h9 := (hE9 j hjn).1
    rw [va_up_self, va_up_self, va_up_self] at h9; exact h9
  refine lv_iload hx hb dX4_work_33 (lv_at hl 3 rfl) ?_
  refine lv_aload_n hx hb dX4_work_35 rfl (lv_at hl 0 rfl) ?_
  refine va_get (D := D) (ci := 4) (v := .ref (ad 4)) (C := RX4) (T := TX4) (N := 6) hx hb hts iX4 hown hZ.1 hP 0 l22 rfl 5 (by decide) (hts (.fieldLink RX4 38 "TapeRobotics" "orders" "LTapeRobotics$Orders;") (by decide +kernel)) (fun _ h9 => h9) rfl dX4_work_36 ?_
  refine va_getN (D := D) (ci := 2) (v := .int (nI ((wl fw (nI t) nj).length))) (C := RX2) (T := TX2) (N := 6) hx hb hts iX2 hown hZ.1 hP 4 l26 rfl 0 (by decide) (va_Nw.use rfl (hZ.2 (.fieldLinkNest RX4 203 RX2 "count" "I" "TapeRobotics") (List.mem_of_getElem? (i := 43) rfl))) (fun _ h9 => h9) rfl dX4_work_39 ?_
  refine zc_ge (tgt := 112) hx hb (by omega) (by omega) dX4_work_42 (by decide) (fun c_16 => ?_) (fun c_16 => ?_)
  · have hfin : i = (min (wl fw (nI t) nj).length (12 - ct j)) := by
      rcases Nat.lt_or_ge i (wl fw (nI t) nj).length with h9 | h9
      · have h8 : 12 ≤ ct j + i := by first | exact of_decide_eq_true (by assumption) | exact absurd h9 (Nat.not_lt.mpr (by assumption))
        rw [Nat.min_eq_right (by omega)]; omega
      · rw [Nat.min_eq_left (by omega)]; exact Nat.le_antisymm hi h9
    refine lv_iload hx hb dX4_work_112 (lv_at hl 4 rfl) ?_
    exact zr_ti (S := Nat × Nat × Nat × va_W) (w1 := fun u => u.2.2.2) (j, t, P, wx) hx hb hr hlocks (⟨hjn, rfl, hht, hPq0, (by show P ≤ 1600; omega), hcl12, by rw [← hfin]; exact congrArg nI hla, hkx, _, _, _, _, _, _, by rw [← hfin]; exact hLx⟩) hP hD hS (rfl) dX4_work_114 ⟨Nat.le_of_ble_eq_true rfl, Nat.le_of_ble_eq_true rfl⟩
  · refine lv_aload_n hx hb dX4_work_45 rfl (lv_at hl 1 rfl) ?_
    refine zk_VN_i (n := 0) (As := []) (rest := []) hx hb hml hts hown hZ hP (c_X0_wantsCleaning l D cA _ (PE j) (E j) j (zpa (mk j)) (zsp (mk j)) ((hd j).map T) (nI ((wkP bo jf t (fun i9 => (wl fw (nI t) nj).getD ((BO (LG mk tr le bo jf j t P (wl fw (nI t) nj)) (wl fw (nI t) nj).length (np 0) 7).getD i9 0) 0) P i))) ((wkC mk tr le bo jf j t (fun i9 => (wl fw (nI t) nj).getD ((BO (LG mk tr le bo jf j t P (wl fw (nI t) nj)) (wl fw (nI t) nj).length (np 0) 7).getD i9 0) 0) P (ck j) i)) (ct j + i) hEj9 (by omega)) ggX4_work_X0_wantsCleaning (List.mem_of_getElem? (i := 17) rfl) (by decide +kernel) rfl ⟨rfl, rfl⟩ ⟨by decide +kernel, Nat.le_of_ble_eq_true rfl, Nat.le_of_ble_eq_true rfl⟩ hEj9 rfl hl.1 rfl (Nat.le_of_ble_eq_true rfl) ⟨Nat.le_of_ble_eq_true rfl, Nat.le_of_ble_eq_true rfl⟩ rfl dX4_work_46 (fun r_17 hr_18 => ?_)
    obtain rfl := show r_17 = _ from hr_18
    refine zb_ne (tgt := 112) hx hb dX4_work_49 (by decide) (fun c_19 => ?_) (fun c_19 => ?_)
    · have hfin : i = (min (wl fw (nI t) nj).length (12 - ct j)) := by
        rcases Nat.lt_or_ge i (wl fw (nI t) nj).length with h9 | h9
        · have h8 : 12 ≤ ct j + i := by first | exact of_decide_eq_true (by assumption) | exact absurd h9 (Nat.not_lt.mpr (by assumption))
          rw [Nat.min_eq_right (by omega)]; omega
        · rw [Nat.min_eq_left (by omega)]; exact Nat.le_antisymm hi h9
      refine lv_iload hx hb dX4_work_112 (lv_at hl 4 rfl) ?_
      exact zr_ti (S := Nat × Nat × Nat × va_W) (w1 := fun u => u.2.2.2) (j, t, P, wx) hx hb hr hlocks (⟨hjn, rfl, hht, hPq0, (by show P ≤ 1600; omega), hcl12, by rw [← hfin]; exact congrArg nI hla, hkx, _, _, _, _, _, _, by rw [← hfin]; exact hLx⟩) hP hD hS (rfl) dX4_work_114 ⟨Nat.le_of_ble_eq_true rfl, Nat.le_of_ble_eq_true rfl⟩
    · have hcl9 : ct j + i < 12 := Nat.lt_of_not_le (of_decide_eq_false (by assumption))
      have him : i < (wl fw (nI t) nj).length := by omega
      obtain ⟨x9, hx9⟩ : ∃ x, x = (wl fw (nI t) nj).getD ((BO (LG mk tr le bo jf j t P (wl fw (nI t) nj)) (wl fw (nI t) nj).length (np 0) 7).getD i 0) 0 := ⟨_, rfl⟩
      have hxm : x9 ∈ (wl fw (nI t) nj) := by rw [hx9]; exact getD_mem (hboM _ (getD_mem (by omega)))
      obtain ⟨g1, g2⟩ := wl_mem hxm
      have g3 := hIJ x9 g1 t g2 htn
      have g4 := hbinc_t _ g3
      have g5 := bmono _ hbinc_t (jf x9 + 1) (by omega)
      have hbb0 : bo t (jf x9) ≤ bo t (jf x9 + 1) := by omega
      have hbb1 : bo t (jf x9) < 2 ^ 31 := by omega
      have hwp9 : (wkP bo jf t (fun i9 => (wl fw (nI t) nj).getD ((BO (LG mk tr le bo jf j t P (wl fw (nI t) nj)) (wl fw (nI t) nj).length (np 0) 7).getD i9 0) 0) P i) ≤ 1600 := by
        cases i with
        | zero => show P ≤ 1600; omega
        | succ i9 =>
          have h8 : (wl fw (nI t) nj).getD ((BO (LG mk tr le bo jf j t P (wl fw (nI t) nj)) (wl fw (nI t) nj).length (np 0) 7).getD i9 0) 0 ∈ (wl fw (nI t) nj) := getD_mem (hboM _ (getD_mem (by omega)))
          obtain ⟨k1, k2⟩ := wl_mem h8
          have k3 := hIJ _ k1 t k2 htn
          have k5 := bmono _ hbinc_t (jf ((wl fw (nI t) nj).getD ((BO (LG mk tr le bo jf j t P (wl fw (nI t) nj)) (wl fw (nI t) nj).length (np 0) 7).getD i9 0) 0) + 1) (by omega)
          show bo t (jf ((wl fw (nI t) nj).getD ((BO (LG mk tr le bo jf j t P (wl fw (nI t) nj)) (wl fw (nI t) nj).length (np 0) 7).getD i9 0) 0) + 1) ≤ 1600
          omega
      refine lv_aload_n hx hb dX4_work_52 rfl (lv_at hl 0 rfl) ?_
      refine va_get (D := D) (ci := 4) (v := .ref (ad 4)) (C := RX4) (T := TX4) (N := 6) hx hb hts iX4 hown hZ.1 hP 0 l22 rfl 5 (by decide) (hts (.fieldLink RX4 38 "TapeRobotics" "orders" "LTapeRobotics$Orders;") (by decide +kernel)) (fun _ h9 => h9) rfl dX4_work_53 ?_
      refine lv_iload hx hb dX4_work_56 (lv_at hl 3 rfl) ?_
      refine zk_VN_i (n := 1) (As := [.int (nI (i))]) (rest := []) hx hb hml hts hown hZ hP (c_X2_bestJobAt l D cA _ 4 (ad 4) (wl fw (nI t) nj).length (ad 8) (ad 9) (ad 10) (ad 11) (ad 12) l26 8 (colF s8 (wl fw (nI t) nj)) l30 11 (colF s11 (BO (LG mk tr le bo jf j t P (wl fw (nI t) nj)) (wl fw (nI t) nj).length (np 0) 7)) l33 i ((BO (LG mk tr le bo jf j t P (wl fw (nI t) nj)) (wl fw (nI t) nj).length (np 0) 7).getD i 0) (by omega) (colF_in (by omega)) (Nat.lt_of_lt_of_le (hboM _ (getD_mem (by omega))) hoc7)) ggX4_work_X2_bestJobAt (List.mem_of_getElem? (i := 35) rfl) (by decide +kernel) rfl ⟨rfl, rfl⟩ ⟨by decide +kernel, Nat.le_of_ble_eq_true rfl, Nat.le_of_ble_eq_true rfl⟩ l26 rfl hl.1 rfl (Nat.le_of_ble_eq_true rfl) ⟨Nat.le_of_ble_eq_true rfl, Nat.le_of_ble_eq_true rfl⟩ rfl dX4_work_58 (fun r_20 hr_21 => ?_)
      obtain rfl := show r_20 = _ from hr_21
      refine zx_val (y := nI (x9)) (by rw [hx9]; exact colF_in (hboM _ (getD_mem (by omega)))) ?_
      refine lv_istore (lv' := [(6, .int (nI (x9))), (0, .ref (ad 0)), (2, .ref (E j)), (3, .ref (T t)), (5, .int (nI (i))), (4, .int (nI (la9)))]) hx hb dX4_work_61 hl (by decide) rfl (fun ls hl => ?_)
      refine lv_aload_n hx hb dX4_work_63 rfl (lv_at hl 2 rfl) ?_
      refine lv_aload_n hx hb dX4_work_64 rfl (lv_at hl 3 rfl) ?_
      refine lv_aload_n hx hb dX4_work_65 rfl (lv_at hl 1 rfl) ?_
      refine va_get (D := D) (ci := 4) (v := .ref (ad 3)) (C := RX4) (T := TX4) (N := 6) hx hb hts iX4 hown hZ.1 hP 0 l22 rfl 4 (by decide) (hts (.fieldLink RX4 31 "TapeRobotics" "jobs" "LTapeRobotics$Jobs;") (by decide +kernel)) (fun _ h9 => h9) rfl dX4_work_66 ?_
      refine lv_iload hx hb dX4_work_69 (lv_at hl 0 rfl) ?_
      refine zk_VN_i (n := 1) (As := [.int (nI (x9))]) (rest := [.ref (T t), .ref (E j)]) hx hb hml hts hown hZ hP (c_X1_fileOf l D cA _ 3 (ad 3) nj (dn + i) (ad 5) (ad 6) (ad 7) l25 6 jf l28 x9 (by omega)) ggX4_work_X1_fileOf (List.mem_of_getElem? (i := 38) rfl) (by decide +kernel) rfl ⟨rfl, rfl⟩ ⟨by decide +kernel, Nat.le_of_ble_eq_true rfl, Nat.le_of_ble_eq_true rfl⟩ l25 rfl hl.1 rfl (Nat.le_of_ble_eq_true rfl) ⟨Nat.le_of_ble_eq_true rfl, Nat.le_of_ble_eq_true rfl⟩ rfl dX4_work_71 (fun r_22 hr_23 => ?_)
      obtain rfl := show r_22 = _ from hr_23
      refine zw_VN_i (n := 2) (mc := 0) (ms := 0) (As := [.ref (T t), .int (nI (jf x9))]) (rest := []) (w1 := fun u : Unit => wx.set (PE j) (E j, zDrive j (zpa (mk j)) (zsp (mk j)) ((hd j).map T) (nI (bo t (jf x9 + 1))) ((wkC mk tr le bo jf j t (fun i9 => (wl fw (nI t) nj).getD ((BO (LG mk tr le bo jf j t P (wl fw (nI t) nj)) (wl fw (nI t) nj).length (np 0) 7).getD i9 0) 0) P (ck j) i) + nI (wayT (zpa (mk j)) (zsp (mk j)) (tr t) (le t) (wkP bo jf t (fun i9 => (wl fw (nI t) nj).getD ((BO (LG mk tr le bo jf j t P (wl fw (nI t) nj)) (wl fw (nI t) nj).length (np 0) 7).getD i9 0) 0) P i) (bo t (jf x9)) + 3 * (bo t (jf x9 + 1) - bo t (jf x9)))) (ct j + i + 1))) hx hb hml hts hown hZ hP hD hS hA (c_X0_passFile l D cA _ _ (wkP bo jf t (fun i9 => (wl fw (nI t) nj).getD ((BO (LG mk tr le bo jf j t P (wl fw (nI t) nj)) (wl fw (nI t) nj).length (np 0) 7).getD i9 0) 0) P i) (PE j) (E j) j (zpa (mk j)) (zsp (mk j)) ((hd j).map T) (wkC mk tr le bo jf j t (fun i9 => (wl fw (nI t) nj).getD ((BO (LG mk tr le bo jf j t P (wl fw (nI t) nj)) (wl fw (nI t) nj).length (np 0) 7).getD i9 0) 0) P (ck j) i) (ct j + i) hEj9 (PT t) (T t) t (tr t) (le t) (sl t) (fc t) (Bd t) ((mo t)) (la t) (hT9 t htn).1 (PB t) 11 (bo t) (hT9 t htn).2.1 (by omega) (jf x9) (by omega) (by omega) (by omega) (by omega) (by omega) (by omega) hbb0 hbb1) ggX4_work_X0_passFile (List.mem_of_getElem? (i := 21) rfl) (by decide +kernel) rfl ⟨rfl, rfl⟩ ⟨by decide +kernel, Nat.le_of_ble_eq_true rfl, Nat.le_of_ble_eq_true rfl⟩ hEj9 rfl hl.1 rfl (Nat.le_of_ble_eq_true rfl) ⟨Nat.le_of_ble_eq_true rfl, Nat.le_of_ble_eq_true rfl⟩ rfl dX4_work_74 (fun r_24 u_26 H locs hr_25 hP hD hS hz_26 => ?_)
      obtain rfl := show r_24 = _ from hr_25
      have hP : va_P D vwCl (wx.set (PE j) (E j, zDrive j (zpa (mk j)) (zsp (mk j)) ((hd j).map T) (nI (bo t (jf x9 + 1))) ((wkC mk tr le bo jf j t (fun i9 => (wl fw (nI t) nj).getD ((BO (LG mk tr le bo jf j t P (wl fw (nI t) nj)) (wl fw (nI t) nj).length (np 0) 7).getD i9 0) 0) P (ck j) i) + nI (wayT (zpa (mk j)) (zsp (mk j)) (tr t) (le t) (wkP bo jf t (fun i9 => (wl fw (nI t) nj).getD ((BO (LG mk tr le bo jf j t P (wl fw (nI t) nj)) (wl fw (nI t) nj).length (np 0) 7).getD i9 0) 0) P i) (bo t (jf x9)) + 3 * (bo t (jf x9 + 1) - bo t (jf x9)))) (ct j + i + 1))) H := hP
      have hD : va_D A (wx.set (PE j) (E j, zDrive j (zpa (mk j)) (zsp (mk j)) ((hd j).map T) (nI (bo t (jf x9 + 1))) ((wkC mk tr le bo jf j t (fun i9 => (wl fw (nI t) nj).getD ((BO (LG mk tr le bo jf j t P (wl fw (nI t) nj)) (wl fw (nI t) nj).length (np 0) 7).getD i9 0) 0) P (ck j) i) + nI (wayT (zpa (mk j)) (zsp (mk j)) (tr t) (le t) (wkP bo jf t (fun i9 => (wl fw (nI t) nj).getD ((BO (LG mk tr le bo jf j t P (wl fw (nI t) nj)) (wl fw (nI t) nj).length (np 0) 7).getD i9 0) 0) P i) (bo t (jf x9)) + 3 * (bo t (jf x9 + 1) - bo t (jf x9)))) (ct j + i + 1))) := hD
      refine lv_pop hx hb dX4_work_77 rfl ?_
      refine lv_aload_n hx hb dX4_work_78 rfl (lv_at hl 1 rfl) ?_
      refine va_get (D := D) (ci := 4) (v := .ref (ad 3)) (C := RX4) (T := TX4) (N := 6) hx hb hts iX4 hown hZ.1 hP 0 (zset_n l22 (by omega)) rfl 4 (by decide) (hts (.fieldLink RX4 31 "TapeRobotics" "jobs" "LTapeRobotics$Jobs;") (by decide +kernel)) (fun _ h9 => h9) rfl dX4_work_79 ?_
      refine lv_iload hx hb dX4_work_82 (lv_at hl 0 rfl) ?_
      refine zw_VN_v (n := 1) (mc := 0) (ms := 0) (As := [.int (nI (x9))]) (rest := []) (w1 := fun u : Unit => ((wx.set (PE j) (E j, zDrive j (zpa (mk j)) (zsp (mk j)) ((hd j).map T) (nI (bo t (jf x9 + 1))) ((wkC mk tr le bo jf j t (fun i9 => (wl fw (nI t) nj).getD ((BO (LG mk tr le bo jf j t P (wl fw (nI t) nj)) (wl fw (nI t) nj).length (np 0) 7).getD i9 0) 0) P (ck j) i) + nI (wayT (zpa (mk j)) (zsp (mk j)) (tr t) (le t) (wkP bo jf t (fun i9 => (wl fw (nI t) nj).getD ((BO (LG mk tr le bo jf j t P (wl fw (nI t) nj)) (wl fw (nI t) nj).length (np 0) 7).getD i9 0) 0) P i) (bo t (jf x9)) + 3 * (bo t (jf x9 + 1) - bo t (jf x9)))) (ct j + i + 1))).set 5 (ad 5, zInts cA 60 (upd (wkF (fun i9 => (wl fw (nI t) nj).getD ((BO (LG mk tr le bo jf j t P (wl fw (nI t) nj)) (wl fw (nI t) nj).length (np 0) 7).getD i9 0) 0) fw i) x9 (-1)))).set 3 (ad 3, zJobs nj (dn + i + 1) (ad 5) (ad 6) (ad 7))) hx hb hml hts hown hZ hP hD hS hA (c_X1_finish l D cA _ _ 3 (ad 3) nj (dn + i) (ad 5) (ad 6) (ad 7) (zset_n l25 (by omega)) 5 (wkF (fun i9 => (wl fw (nI t) nj).getD ((BO (LG mk tr le bo jf j t P (wl fw (nI t) nj)) (wl fw (nI t) nj).length (np 0) 7).getD i9 0) 0) fw i) (zset_n l27 (by omega)) x9 (by omega)) ggX4_work_X1_finish (List.mem_of_getElem? (i := 39) rfl) (by decide +kernel) rfl ⟨rfl, rfl⟩ ⟨by decide +kernel, Nat.le_of_ble_eq_true rfl, Nat.le_of_ble_eq_true rfl⟩ (zset_n l25 (by omega)) rfl hl.1 rfl (Nat.le_of_ble_eq_true rfl) ⟨Nat.le_of_ble_eq_true rfl, Nat.le_of_ble_eq_true rfl⟩ rfl dX4_work_84 (fun u_29 H locs hr_28 hP hD hS hz_29 => ?_)
      have hP : va_P D vwCl (((wx.set (PE j) (E j, zDrive j (zpa (mk j)) (zsp (mk j)) ((hd j).map T) (nI (bo t (jf x9 + 1))) ((wkC mk tr le bo jf j t (fun i9 => (wl fw (nI t) nj).getD ((BO (LG mk tr le bo jf j t P (wl fw (nI t) nj)) (wl fw (nI t) nj).length (np 0) 7).getD i9 0) 0) P (ck j) i) + nI (wayT (zpa (mk j)) (zsp (mk j)) (tr t) (le t) (wkP bo jf t (fun i9 => (wl fw (nI t) nj).getD ((BO (LG mk tr le bo jf j t P (wl fw (nI t) nj)) (wl fw (nI t) nj).length (np 0) 7).getD i9 0) 0) P i) (bo t (jf x9)) + 3 * (bo t (jf x9 + 1) - bo t (jf x9)))) (ct j + i + 1))).set 5 (ad 5, zInts cA 60 (upd (wkF (fun i9 => (wl fw (nI t) nj).getD ((BO (LG mk tr le bo jf j t P (wl fw (nI t) nj)) (wl fw (nI t) nj).length (np 0) 7).getD i9 0) 0) fw i) x9 (-1)))).set 3 (ad 3, zJobs nj (dn + i + 1) (ad 5) (ad 6) (ad 7))) H := hP
      have hD : va_D A (((wx.set (PE j) (E j, zDrive j (zpa (mk j)) (zsp (mk j)) ((hd j).map T) (nI (bo t (jf x9 + 1))) ((wkC mk tr le bo jf j t (fun i9 => (wl fw (nI t) nj).getD ((BO (LG mk tr le bo jf j t P (wl fw (nI t) nj)) (wl fw (nI t) nj).length (np 0) 7).getD i9 0) 0) P (ck j) i) + nI (wayT (zpa (mk j)) (zsp (mk j)) (tr t) (le t) (wkP bo jf t (fun i9 => (wl fw (nI t) nj).getD ((BO (LG mk tr le bo jf j t P (wl fw (nI t) nj)) (wl fw (nI t) nj).length (np 0) 7).getD i9 0) 0) P i) (bo t (jf x9)) + 3 * (bo t (jf x9 + 1) - bo t (jf x9)))) (ct j + i + 1))).set 5 (ad 5, zInts cA 60 (upd (wkF (fun i9 => (wl fw (nI t) nj).getD ((BO (LG mk tr le bo jf j t P (wl fw (nI t) nj)) (wl fw (nI t) nj).length (np 0) 7).getD i9 0) 0) fw i) x9 (-1)))).set 3 (ad 3, zJobs nj (dn + i + 1) (ad 5) (ad 6) (ad 7))) := hD
      have hLn : zL cA (((wx.set (PE j) (E j, zDrive j (zpa (mk j)) (zsp (mk j)) ((hd j).map T) (nI (bo t (jf x9 + 1))) ((wkC mk tr le bo jf j t (fun i9 => (wl fw (nI t) nj).getD ((BO (LG mk tr le bo jf j t P (wl fw (nI t) nj)) (wl fw (nI t) nj).length (np 0) 7).getD i9 0) 0) P (ck j) i) + nI (wayT (zpa (mk j)) (zsp (mk j)) (tr t) (le t) (wkP bo jf t (fun i9 => (wl fw (nI t) nj).getD ((BO (LG mk tr le bo jf j t P (wl fw (nI t) nj)) (wl fw (nI t) nj).length (np 0) 7).getD i9 0) 0) P i) (bo t (jf x9)) + 3 * (bo t (jf x9 + 1) - bo t (jf x9)))) (ct j + i + 1))).set 5 (ad 5, zInts cA 60 (upd (wkF (fun i9 => (wl fw (nI t) nj).getD ((BO (LG mk tr le bo jf j t P (wl fw (nI t) nj)) (wl fw (nI t) nj).length (np 0) 7).getD i9 0) 0) fw i) x9 (-1)))).set 3 (ad 3, zJobs nj (dn + i + 1) (ad 5) (ad 6) (ad 7))) ad T Bd E PT PB PE n tr le sl mo la fc bo nd mk (va_up ck j (wkC mk tr le bo jf j t (fun i9 => (wl fw (nI t) nj).getD ((BO (LG mk tr le bo jf j t P (wl fw (nI t) nj)) (wl fw (nI t) nj).length (np 0) 7).getD i9 0) 0) P (ck j) (i + 1))) (va_up ct j (ct j + (i + 1))) hd (va_up pq j (nI (wkP bo jf t (fun i9 => (wl fw (nI t) nj).getD ((BO (LG mk tr le bo jf j t P (wl fw (nI t) nj)) (wl fw (nI t) nj).length (np 0) 7).getD i9 0) 0) P (i + 1)))) nj (wkF (fun i9 => (wl fw (nI t) nj).getD ((BO (LG mk tr le bo jf j t P (wl fw (nI t) nj)) (wl fw (nI t) nj).length (np 0) 7).getD i9 0) 0) fw (i + 1)) jf dl (dn + (i + 1)) (wl fw (nI t) nj).length (colF s8 (wl fw (nI t) nj)) u9 z10 (colF s11 (BO (LG mk tr le bo jf j t P (wl fw (nI t) nj)) (wl fw (nI t) nj).length (np 0) 7)) s12 := by
        have h7 := zL_E hLx hd3 hjn (hd j) (nI (bo t (jf x9 + 1))) ((wkC mk tr le bo jf j t (fun i9 => (wl fw (nI t) nj).getD ((BO (LG mk tr le bo jf j t P (wl fw (nI t) nj)) (wl fw (nI t) nj).length (np 0) 7).getD i9 0) 0) P (ck j) i) + nI (wayT (zpa (mk j)) (zsp (mk j)) (tr t) (le t) (wkP bo jf t (fun i9 => (wl fw (nI t) nj).getD ((BO (LG mk tr le bo jf j t P (wl fw (nI t) nj)) (wl fw (nI t) nj).length (np 0) 7).getD i9 0) 0) P i) (bo t (jf x9)) + 3 * (bo t (jf x9 + 1) - bo t (jf x9)))) (ct j + i + 1)
        have h8 := zL_27 h7 (upd (wkF (fun i9 => (wl fw (nI t) nj).getD ((BO (LG mk tr le bo jf j t P (wl fw (nI t) nj)) (wl fw (nI t) nj).length (np 0) 7).getD i9 0) 0) fw i) x9 (-1))
        have h9 := zL_25 h8 nj (dn + i + 1)
        simp only [va_up_up, va_up_id] at h9
        rw [hx9] at h9 ⊢
        exact h9
      refine lv_aload_n hx hb dX4_work_87 rfl (lv_at hl 2 rfl) ?_
      refine va_getN (D := D) (ci := 0) (v := .int ((wkC mk tr le bo jf j t (fun i9 => (wl fw (nI t) nj).getD ((BO (LG mk tr le bo jf j t P (wl fw (nI t) nj)) (wl fw (nI t) nj).length (np 0) 7).getD i9 0) 0) P (ck j) i) + nI (wayT (zpa (mk j)) (zsp (mk j)) (tr t) (le t) (wkP bo jf t (fun i9 => (wl fw (nI t) nj).getD ((BO (LG mk tr le bo jf j t P (wl fw (nI t) nj)) (wl fw (nI t) nj).length (np 0) 7).getD i9 0) 0) P i) (bo t (jf x9)) + 3 * (bo t (jf x9 + 1) - bo t (jf x9))))) (C := RX0) (T := TX0) (N := 7) hx hb hts iX0 hown hZ.1 hP (PE j) (zset_n (zset_n (zset_s hEj9) (by omega)) (by omega)) rfl 5 (by decide) (va_Nw.use rfl (hZ.2 (.fieldLinkNest RX4 171 RX0 "time" "I" "TapeRobotics") (List.mem_of_getElem? (i := 55) rfl))) (fun _ h9 => h9) rfl dX4_work_88 ?_
      refine lv_aload_n hx hb dX4_work_91 rfl (lv_at hl 1 rfl) ?_
      refine va_get (D := D) (ci := 4) (v := .ref (ad 3)) (C := RX4) (T := TX4) (N := 6) hx hb hts iX4 hown hZ.1 hP 0 (zset_n (zset_n (zset_n l22 (by omega)) (by decide)) (by decide)) rfl 4 (by decide) (hts (.fieldLink RX4 31 "TapeRobotics" "jobs" "LTapeRobotics$Jobs;") (by decide +kernel)) (fun _ h9 => h9) rfl dX4_work_92 ?_
      refine lv_iload hx hb dX4_work_95 (lv_at hl 0 rfl) ?_
      refine zk_VN_i (n := 1) (As := [.int (nI (x9))]) (rest := [.int ((wkC mk tr le bo jf j t (fun i9 => (wl fw (nI t) nj).getD ((BO (LG mk tr le bo jf j t P (wl fw (nI t) nj)) (wl fw (nI t) nj).length (np 0) 7).getD i9 0) 0) P (ck j) i) + nI (wayT (zpa (mk j)) (zsp (mk j)) (tr t) (le t) (wkP bo jf t (fun i9 => (wl fw (nI t) nj).getD ((BO (LG mk tr le bo jf j t P (wl fw (nI t) nj)) (wl fw (nI t) nj).length (np 0) 7).getD i9 0) 0) P i) (bo t (jf x9)) + 3 * (bo t (jf x9 + 1) - bo t (jf x9))))]) hx hb hml hts hown hZ hP (c_X1_deadlineOf l D cA _ 3 (ad 3) nj (dn + i + 1) (ad 5) (ad 6) (ad 7) (zset_s (zset_n (zset_n l25 (by omega)) (by decide))) 7 dl (zset_n (zset_n (zset_n l29 (by omega)) (by decide)) (by decide)) x9 (by omega)) ggX4_work_X1_deadlineOf (List.mem_of_getElem? (i := 40) rfl) (by decide +kernel) rfl ⟨rfl, rfl⟩ ⟨by decide +kernel, Nat.le_of_ble_eq_true rfl, Nat.le_of_ble_eq_true rfl⟩ (zset_s (zset_n (zset_n l25 (by omega)) (by decide))) rfl hl.1 rfl (Nat.le_of_ble_eq_true rfl) ⟨Nat.le_of_ble_eq_true rfl, Nat.le_of_ble_eq_true rfl⟩ rfl dX4_work_97 (fun r_30 hr_31 => ?_)
      obtain rfl := show r_30 = _ from hr_31
      refine lv_icmp_le (tgt := 106) hx hb dX4_work_100 (by decide) (fun c_32 => ?_) (fun c_32 => ?_)
      · refine lv_iinc (v := nI (i + 1)) (lv' := [(5, .int (nI (i + 1))), (6, .int (nI (x9))), (0, .ref (ad 0)), (2, .ref (E j)), (3, .ref (T t)), (4, .int (nI (la9)))]) hx hb dX4_work_106 hl (k := 4) rfl (zinc 1 _) (by decide) rfl (fun ls hl => ?_)
        refine lv_goto (tgt := 33) hx hb dX4_work_109 (by decide) ?_
        exact ih33 (i + 1, la9, (((wx.set (PE j) (E j, zDrive j (zpa (mk j)) (zsp (mk j)) ((hd j).map T) (nI (bo t (jf x9 + 1))) ((wkC mk tr le bo jf j t (fun i9 => (wl fw (nI t) nj).getD ((BO (LG mk tr le bo jf j t P (wl fw (nI t) nj)) (wl fw (nI t) nj).length (np 0) 7).getD i9 0) 0) P (ck j) i) + nI (wayT (zpa (mk j)) (zsp (mk j)) (tr t) (le t) (wkP bo jf t (fun i9 => (wl fw (nI t) nj).getD ((BO (LG mk tr le bo jf j t P (wl fw (nI t) nj)) (wl fw (nI t) nj).length (np 0) 7).getD i9 0) 0) P i) (bo t (jf x9)) + 3 * (bo t (jf x9 + 1) - bo t (jf x9)))) (ct j + i + 1))).set 5 (ad 5, zInts cA 60 (upd (wkF (fun i9 => (wl fw (nI t) nj).getD ((BO (LG mk tr le bo jf j t P (wl fw (nI t) nj)) (wl fw (nI t) nj).length (np 0) 7).getD i9 0) 0) fw i) x9 (-1)))).set 3 (ad 3, zJobs nj (dn + i + 1) (ad 5) (ad 6) (ad 7)))) H locs ls (by first | omega | (dsimp only; omega)) ⟨lv_sub hl [2, 3, 4, 0, 5] rfl, hP, hD, hS, hLn, zKeep_set (zKeep_set (zKeep_set hkx (by omega)) (by omega)) (by omega), (by
            rw [hx9] at c_32
            show _ = _
            rw [wkL, ← hla]
            first | (rw [if_pos (show wkC mk tr le bo jf j t (fun i9 => (wl fw (nI t) nj).getD ((BO (LG mk tr le bo jf j t P (wl fw (nI t) nj)) (wl fw (nI t) nj).length (np 0) 7).getD i9 0) 0) P (ck j) (i + 1) ≤ _ from c_32)]; rfl) | (rw [if_neg (show ¬ wkC mk tr le bo jf j t (fun i9 => (wl fw (nI t) nj).getD ((BO (LG mk tr le bo jf j t P (wl fw (nI t) nj)) (wl fw (nI t) nj).length (np 0) 7).getD i9 0) 0) P (ck j) (i + 1) ≤ _ from c_32)])), by dsimp only; omega, by dsimp only; omega⟩
      · refine lv_iinc (v := nI (la9 + 1)) (lv' := [(4, .int (nI (la9 + 1))), (6, .int (nI (x9))), (0, .ref (ad 0)), (2, .ref (E j)), (3, .ref (T t)), (5, .int (nI (i)))]) hx hb dX4_work_103 hl (k := 5) rfl (zinc 1 _) (by decide) rfl (fun ls hl => ?_)
        refine lv_iinc (v := nI (i + 1)) (lv' := [(5, .int (nI (i + 1))), (4, .int (nI (la9 + 1))), (6, .int (nI (x9))), (0, .ref (ad 0)), (2, .ref (E j)), (3, .ref (T t))]) hx hb dX4_work_106 hl (k := 5) rfl (zinc 1 _) (by decide) rfl (fun ls hl => ?_)
        refine lv_goto (tgt := 33) hx hb dX4_work_109 (by decide) ?_
        exact ih33 (i + 1, la9 + 1, (((wx.set (PE j) (E j, zDrive j (zpa (mk j)) (zsp (mk j)) ((hd j).map T) (nI (bo t (jf x9 + 1))) ((wkC mk tr le bo jf j t (fun i9 => (wl fw (nI t) nj).getD ((BO (LG mk tr le bo jf j t P (wl fw (nI t) nj)) (wl fw (nI t) nj).length (np 0) 7).getD i9 0) 0) P (ck j) i) + nI (wayT (zpa (mk j)) (zsp (mk j)) (tr t) (le t) (wkP bo jf t (fun i9 => (wl fw (nI t) nj).getD ((BO (LG mk tr le bo jf j t P (wl fw (nI t) nj)) (wl fw (nI t) nj).length (np 0) 7).getD i9 0) 0) P i) (bo t (jf x9)) + 3 * (bo t (jf x9 + 1) - bo t (jf x9)))) (ct j + i + 1))).set 5 (ad 5, zInts cA 60 (upd (wkF (fun i9 => (wl fw (nI t) nj).getD ((BO (LG mk tr le bo jf j t P (wl fw (nI t) nj)) (wl fw (nI t) nj).length (np 0) 7).getD i9 0) 0) fw i) x9 (-1)))).set 3 (ad 3, zJobs nj (dn + i + 1) (ad 5) (ad 6) (ad 7)))) H locs ls (by first | omega | (dsimp only; omega)) ⟨lv_sub hl [3, 4, 5, 0, 1] rfl, hP, hD, hS, hLn, zKeep_set (zKeep_set (zKeep_set hkx (by omega)) (by omega)) (by omega), (by
            rw [hx9] at c_32
            show _ = _
            rw [wkL, ← hla]
            first | (rw [if_pos (show wkC mk tr le bo jf j t (fun i9 => (wl fw (nI t) nj).getD ((BO (LG mk tr le bo jf j t P (wl fw (nI t) nj)) (wl fw (nI t) nj).length (np 0) 7).getD i9 0) 0) P (ck j) (i + 1) ≤ _ from c_32)]; rfl) | (rw [if_neg (show ¬ wkC mk tr le bo jf j t (fun i9 => (wl fw (nI t) nj).getD ((BO (LG mk tr le bo jf j t P (wl fw (nI t) nj)) (wl fw (nI t) nj).length (np 0) 7).getD i9 0) 0) P (ck j) (i + 1) ≤ _ from c_32)])), by dsimp only; omega, by dsimp only; omega⟩
