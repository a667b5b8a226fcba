set_option maxHeartbeats 4000000 in
set_option maxRecDepth 100000 in
theorem c_X4_unmount (l : Launch) (hlt : l.stackTraces = false) (D : va_G) (cA : Nat → ClassId) (sz : Nat) (ws : va_W) (ad : Nat → Nat) (T : Nat → Nat) (Bd : Nat → Nat) (E : Nat → Nat) (PT : Nat → Nat) (PB : Nat → Nat) (PE : Nat → Nat) (n : Nat) (tr : Nat → Nat) (le : Nat → Nat) (sl : Nat → Nat) (mo : Nat → Option Nat) (la : Nat → Bool) (fc : Nat → Nat) (bo : Nat → Nat → Nat) (nd : Nat) (mk : Nat → Nat) (ck : Nat → Int32) (ct : Nat → Nat) (hd : Nat → Option Nat) (pq : Nat → Int32) (nj : Nat) (fw : Nat → Int32) (jf : Nat → Nat) (dl : Nat → Nat) (dn : Nat) (oc : Nat) (s8 : Nat → Int32) (s9 : Nat → Int32) (s10 : Nat → Int32) (s11 : Nat → Int32) (s12 : Nat → Int32) (hL : zL cA ws ad T Bd E PT PB PE n tr le sl mo la fc bo nd mk ck ct hd pq nj fw jf dl dn oc s8 s9 s10 s11 s12) (hI : zI n tr le sl mo fc bo nd mk ct hd pq nj fw jf dl) (v0 : Int32) : vx_Met l yX4_unmount wsX4_unmount ({ frames := 7, cells := 2, slots := 12, locals := 118 }) (va_Pc [.ref (ad 0), .int (v0)] (zMX D cA (ws) sz)) (va_Qi (fun (r : Int32) (u : Nat × Nat × Nat × va_W) => u.1 < nd ∧ v0 = nI u.1 ∧ hd u.1 = some u.2.1 ∧ pq u.1 = nI u.2.2.1 ∧ u.2.2.1 ≤ 1600 ∧ r = nI (wayT (zpa (mk u.1)) (zsp (mk u.1)) (tr u.2.1) (le u.2.1) u.2.2.1 0 + (20 + 2 * dif (4 * u.1) (sl u.2.1))) ∧ zKeep ws u.2.2.2 ∧ zL cA u.2.2.2 ad T Bd E PT PB PE n tr le sl (va_up mo u.2.1 none) la fc bo nd mk (va_up ck u.1 (ck u.1 + nI (wayT (zpa (mk u.1)) (zsp (mk u.1)) (tr u.2.1) (le u.2.1) u.2.2.1 0 + (20 + 2 * dif (4 * u.1) (sl u.2.1))))) ct (va_up hd u.1 none) (va_up pq u.1 (-1)) nj fw jf dl dn oc s8 s9 s10 s11 s12) (fun u => zB D (va_A (ws) sz) (u.2.2.2)) (va_A (ws) sz)) (zXC (fun (E : String) (u : Unit) => zexIS (kS (ix v0 nd) (fun j => (hd j).isSome)) E) (fun u => ws) D (va_A (ws) sz)) 2 12 (va_A (ws) sz) := by
  refine zOpenX (cc := cX4_unmount) (maxL := 5) (ret := (some .int)) (own := RX4) (by decide) rfl rfl (Nat.le_of_ble_eq_true rfl) ?_
  intro p e s m below meth c ls hx hb hr hml hts hown hlocks htab ⟨⟨hZ, hP, hD0, hsz⟩, hX⟩ hl
  subst hsz
  have hD := hD0.self (sz := s.heap.size)
  generalize hAe : va_A (ws) s.heap.size = A at hD hX ⊢
  have hA : ∀ q : Nat, s.heap.size ≤ q → A q := fun q h => by rw [← hAe]; exact Or.inr h
  have hS : va_S A s.heap s.heap [] := va_S.rf
  have iX0 : ∀ w ∈ wsX00, w ∈ wsX4_unmount := by decide +kernel
  have iX3 : ∀ w ∈ wsX30, w ∈ wsX4_unmount := by decide +kernel
  have hl : lv_has ls 5 [(0, .ref (ad 0)), (1, .int (v0))] := hl
  have hL0 := hL
  obtain ⟨⟨l22, l23, l24, l25, l26, l27, l28, l29, l30, l31, l32, l33, l34⟩, hT, hE, hBne⟩ := hL
  obtain ⟨hn8, hd3, hj60, hIT, hID, hIJ, hIdl, hIw⟩ := hI
  refine lv_aload_n hx hb dX4_unmount_0 rfl (lv_at hl 0 rfl) ?_
  refine lv_iload_n hx hb dX4_unmount_1 rfl (lv_at hl 1 rfl) ?_
  refine zt_V_a (n := 1) (mc := 1) (ms := 6) (As := [.int (v0)]) (rest := []) hx hb hml hts hown hZ hX hP hD hS hA (c_X4_driveNumbered l hlt D cA _ _ 0 (ad 0) (ad 1) n (ad 2) nd (ad 3) (ad 4) l22 2 E l24 hd3 v0) gX4_unmount_X4_driveNumbered rfl rfl ⟨rfl, rfl⟩ ⟨by decide +kernel, Nat.le_of_ble_eq_true rfl, Nat.le_of_ble_eq_true rfl⟩ l22 rfl hl.1 rfl (Nat.le_of_ble_eq_true rfl) ⟨Nat.le_of_ble_eq_true rfl, Nat.le_of_ble_eq_true rfl⟩ rfl dX4_unmount_2 (fun E9 ce9 q9 u9 H locs hpx hP hD hS hz hq1 hq2 hq3 => ?_) (fun u_1 r_3 H locs hp_2 hra hP hD hS hz => ?_)
  · exact zt_out () hS hP hD (Or.inl ⟨kS_1 (ix_none (by omega) hpx.2), hpx.1⟩) htab hlocks hq1 hq2 hq3 (Nat.le_of_ble_eq_true rfl) (Nat.le_of_ble_eq_true rfl)
  have hP : va_P D vwCl (ws) H := hP
  have hD : va_D A (ws) := hD
  obtain ⟨hjn, hv_j⟩ := hp_2
  obtain ⟨j, rfl⟩ : ∃ z, z = u_1 := ⟨_, rfl⟩
  have hra : r_3 = E j := hra
  subst hra
  subst hv_j
  have hl : lv_has ls 5 [(0, .ref (ad 0)), (1, .int (nI (j)))] := hl
  obtain ⟨-, hPE_j⟩ := hE j hjn
  obtain ⟨hmk_j, hct_j, hpn_j, hps_j⟩ := hID j hjn
  refine lv_astore_n (lv' := [(2, .ref (E j)), (0, .ref (ad 0)), (1, .int (nI (j)))]) hx hb dX4_unmount_5 rfl hl (by decide) rfl (fun ls hl => ?_)
  refine lv_aload_n hx hb dX4_unmount_6 rfl (lv_at hl 0 rfl) ?_
  refine zt_S_a (n := 1) (mc := 1) (ms := 6) (As := [.ref (E j)]) (rest := []) hx hb hml hts hown hZ hX hP hD hS hA (c_X4_mountedIn l hlt D cA _ _ (PE j) (E j) j (zpa (mk j)) (zsp (mk j)) ((hd j).map T) (pq j) (ck j) (ct j) (hE j hjn).1) gX4_unmount_X4_mountedIn rfl ⟨rfl, rfl⟩ ⟨by decide +kernel, Nat.le_of_ble_eq_true rfl, Nat.le_of_ble_eq_true rfl⟩ hl.1 rfl (Nat.le_of_ble_eq_true rfl) ⟨Nat.le_of_ble_eq_true rfl, Nat.le_of_ble_eq_true rfl⟩ rfl dX4_unmount_7 (fun E9 ce9 q9 u9 H locs hpx hP hD hS hz hq1 hq2 hq3 => ?_) (fun u_4 r_6 H locs hp_5 hra hP hD hS hz => ?_)
  · have hhd : hd j = none := Option.map_eq_none_iff.mp (show (hd j).map T = none from hpx.2)
    exact zt_out () hS hP hD (Or.inr ⟨kS_n (ix_in (by omega) hjn) (by rw [hhd]; rfl), hpx.1⟩) htab hlocks hq1 hq2 hq3 (Nat.le_of_ble_eq_true rfl) (Nat.le_of_ble_eq_true rfl)
  have hP : va_P D vwCl (ws) H := hP
  have hD : va_D A (ws) := hD
  obtain ⟨t, hht, hTt⟩ := Option.map_eq_some_iff.mp (show (hd j).map T = some u_4 from hp_5)
  have hra : r_6 = u_4 := hra
  rw [← hTt] at hra
  subst hra
  obtain ⟨htn, hmoj, P, hPq, hP9⟩ := hps_j t hht
  obtain ⟨-, -, hPT_t, hPB_t⟩ := hT t htn
  obtain ⟨htr1_t, htr8_t, hle4_t, hle200_t, hsl12_t, hmo_t, hfc10_t, hbo0_t, hbinc_t, hbtop_t⟩ := hIT t htn
  have hmul : tr t * le t ≤ 8 * 200 := Nat.mul_le_mul (by omega) (by omega)
  have hEj : ws[PE j]? = some (E j, zDrive j (zpa (mk j)) (zsp (mk j)) ((hd j).map T) (nI P) (ck j) (ct j)) := by rw [← hPq]; exact (hE j hjn).1
  refine lv_astore_n (lv' := [(3, .ref (T t)), (2, .ref (E j)), (0, .ref (ad 0)), (1, .int (nI (j)))]) hx hb dX4_unmount_10 rfl hl (by decide) rfl (fun ls hl => ?_)
  refine lv_aload_n hx hb dX4_unmount_11 rfl (lv_at hl 1 rfl) ?_
  refine lv_aload_n hx hb dX4_unmount_12 rfl (lv_at hl 0 rfl) ?_
  refine lv_aload_n hx hb dX4_unmount_13 rfl (lv_at hl 1 rfl) ?_
  refine va_getN (D := D) (ci := 0) (v := .int (nI (P))) (C := RX0) (T := TX0) (N := 7) hx hb hts iX0 hown hZ.1 hP (PE j) hEj rfl 4 (by decide) (va_Nw.use rfl (hZ.2 (.fieldLinkNest RX4 128 RX0 "place" "I" "TapeRobotics") (List.mem_of_getElem? (i := 54) rfl))) (fun _ h9 => h9) rfl dX4_unmount_14 ?_
  refine lv_iconst (v := nI (0)) hx hb dX4_unmount_17 (by decide) ?_
  refine zk_VN_i (n := 3) (As := [.ref (T t), .int (nI (P)), .int (nI (0))]) (rest := []) hx hb hml hts hown hZ hP (c_X0_wayTime l D cA _ (PE j) (E j) j (zpa (mk j)) (zsp (mk j)) ((hd j).map T) (nI (P)) (ck j) (ct j) hEj (PT t) (T t) t (tr t) (le t) (sl t) (fc t) (Bd t) ((mo t)) (la t) (hT t htn).1 P 0 (by omega) (by omega) (by omega) (by omega) (by omega) (by omega)) ggX4_unmount_X0_wayTime (List.mem_of_getElem? (i := 14) rfl) (by decide +kernel) rfl ⟨rfl, rfl⟩ ⟨by decide +kernel, Nat.le_of_ble_eq_true rfl, Nat.le_of_ble_eq_true rfl⟩ hEj rfl hl.1 rfl (Nat.le_of_ble_eq_true rfl) ⟨Nat.le_of_ble_eq_true rfl, Nat.le_of_ble_eq_true rfl⟩ rfl dX4_unmount_18 (fun r_7 hr_8 => ?_)
  obtain rfl := show r_7 = _ from hr_8
  refine lv_istore (lv' := [(4, .int (nI (wayT (zpa (mk j)) (zsp (mk j)) (tr t) (le t) P 0))), (3, .ref (T t)), (2, .ref (E j)), (0, .ref (ad 0)), (1, .int (nI (j)))]) hx hb dX4_unmount_21 hl (by decide) rfl (fun ls hl => ?_)
  refine lv_aload_n hx hb dX4_unmount_23 rfl (lv_at hl 2 rfl) ?_
  refine lv_null hx hb dX4_unmount_24 ?_
  refine va_putN (D := D) (ci := 0) (v := .null) (ty := tyX0 3) (C := RX0) (T := TX0) (N := 7) hx hb hts iX0 tyX0 tyX0_ok nmX0 hown hZ.1 hP hD hS (PE j) hEj rfl 3 (by decide) (va_Nw.use rfl (hZ.2 (.fieldLinkNest RX4 118 RX0 "mounted" "LTapeRobotics$Tape;" "TapeRobotics") (List.mem_of_getElem? (i := 52) rfl))) (fun _ h9 => h9) rfl (by decide +kernel) rfl rfl (Nat.le_of_ble_eq_true rfl) dX4_unmount_25 (fun H locs hP hD hS => ?_)
  have hP : va_P D vwCl (ws.set (PE j) (E j, .inr (0, [.int (nI (j)), .int (nI (zpa (mk j))), .int (nI (zsp (mk j))), .null, .int (nI (P)), .int (ck j), .int (nI (ct j))]))) H := hP
  have hD : va_D A (ws.set (PE j) (E j, .inr (0, [.int (nI (j)), .int (nI (zpa (mk j))), .int (nI (zsp (mk j))), .null, .int (nI (P)), .int (ck j), .int (nI (ct j))]))) := hD
  refine lv_aload_n hx hb dX4_unmount_28 rfl (lv_at hl 2 rfl) ?_
  refine lv_iconst (v := (-1)) hx hb dX4_unmount_29 (by decide) ?_
  refine va_putN (D := D) (ci := 0) (v := .int ((-1))) (ty := .int) (C := RX0) (T := TX0) (N := 7) hx hb hts iX0 tyX0 tyX0_ok nmX0 hown hZ.1 hP hD hS (PE j) (zset_s hEj) rfl 4 (by decide) (va_Nw.use rfl (hZ.2 (.fieldLinkNest RX4 128 RX0 "place" "I" "TapeRobotics") (List.mem_of_getElem? (i := 54) rfl))) (fun _ h9 => h9) rfl (by decide +kernel) rfl rfl (Nat.le_of_ble_eq_true rfl) dX4_unmount_30 (fun H locs hP hD hS => ?_)
  have hP : va_P D vwCl ((ws.set (PE j) (E j, .inr (0, [.int (nI (j)), .int (nI (zpa (mk j))), .int (nI (zsp (mk j))), .null, .int (nI (P)), .int (ck j), .int (nI (ct j))]))).set (PE j) (E j, .inr (0, [.int (nI (j)), .int (nI (zpa (mk j))), .int (nI (zsp (mk j))), .null, .int ((-1)), .int (ck j), .int (nI (ct j))]))) H := hP
  have hD : va_D A ((ws.set (PE j) (E j, .inr (0, [.int (nI (j)), .int (nI (zpa (mk j))), .int (nI (zsp (mk j))), .null, .int (nI (P)), .int (ck j), .int (nI (ct j))]))).set (PE j) (E j, .inr (0, [.int (nI (j)), .int (nI (zpa (mk j))), .int (nI (zsp (mk j))), .null, .int ((-1)), .int (ck j), .int (nI (ct j))]))) := hD
  refine lv_aload_n hx hb dX4_unmount_33 rfl (lv_at hl 1 rfl) ?_
  refine lv_iconst (v := (-1)) hx hb dX4_unmount_34 (by decide) ?_
  refine va_putN (D := D) (ci := 3) (v := .int ((-1))) (ty := .int) (C := RX3) (T := TX3) (N := 8) hx hb hts iX3 tyX3 tyX3_ok nmX3 hown hZ.1 hP hD hS (PT t) (zset_n (zset_n (hT t htn).1 (zapc (hE j hjn).1 (hT t htn).1 (by decide))) (zapc (hE j hjn).1 (hT t htn).1 (by decide))) rfl 4 (by decide) (va_Nw.use rfl (hZ.2 (.fieldLinkNest RX4 85 RX3 "driveNumber" "I" "TapeRobotics") (List.mem_of_getElem? (i := 48) rfl))) (fun _ h9 => h9) rfl (by decide +kernel) rfl rfl (Nat.le_of_ble_eq_true rfl) dX4_unmount_35 (fun H locs hP hD hS => ?_)
  have hP : va_P D vwCl (((ws.set (PE j) (E j, .inr (0, [.int (nI (j)), .int (nI (zpa (mk j))), .int (nI (zsp (mk j))), .null, .int (nI (P)), .int (ck j), .int (nI (ct j))]))).set (PE j) (E j, .inr (0, [.int (nI (j)), .int (nI (zpa (mk j))), .int (nI (zsp (mk j))), .null, .int ((-1)), .int (ck j), .int (nI (ct j))]))).set (PT t) (T t, .inr (3, [.int (nI (t)), .int (nI (tr t)), .int (nI (le t)), .int (nI (sl t)), .int ((-1)), .int (bI (la t)), .int (nI (fc t)), .ref (Bd t)]))) H := hP
  have hD : va_D A (((ws.set (PE j) (E j, .inr (0, [.int (nI (j)), .int (nI (zpa (mk j))), .int (nI (zsp (mk j))), .null, .int (nI (P)), .int (ck j), .int (nI (ct j))]))).set (PE j) (E j, .inr (0, [.int (nI (j)), .int (nI (zpa (mk j))), .int (nI (zsp (mk j))), .null, .int ((-1)), .int (ck j), .int (nI (ct j))]))).set (PT t) (T t, .inr (3, [.int (nI (t)), .int (nI (tr t)), .int (nI (le t)), .int (nI (sl t)), .int ((-1)), .int (bI (la t)), .int (nI (fc t)), .ref (Bd t)]))) := hD
  refine lv_aload_n hx hb dX4_unmount_38 rfl (lv_at hl 2 rfl) ?_
  refine lv_iload hx hb dX4_unmount_39 (lv_at hl 0 rfl) ?_
  refine lv_aload_n hx hb dX4_unmount_41 rfl (lv_at hl 2 rfl) ?_
  refine lv_aload_n hx hb dX4_unmount_42 rfl (lv_at hl 1 rfl) ?_
  refine va_getN (D := D) (ci := 3) (v := .int (nI (sl t))) (C := RX3) (T := TX3) (N := 8) hx hb hts iX3 hown hZ.1 hP (PT t) (zset_s (zset_n (zset_n (hT t htn).1 (zapc (hE j hjn).1 (hT t htn).1 (by decide))) (zapc (hE j hjn).1 (hT t htn).1 (by decide)))) rfl 3 (by decide) (va_Nw.use rfl (hZ.2 (.fieldLinkNest RX4 82 RX3 "slot" "I" "TapeRobotics") (List.mem_of_getElem? (i := 47) rfl))) (fun _ h9 => h9) rfl dX4_unmount_43 ?_
  refine zk_VN_i (n := 1) (As := [.int (nI (sl t))]) (rest := [.int (nI (wayT (zpa (mk j)) (zsp (mk j)) (tr t) (le t) P 0)), .ref (E j)]) hx hb hml hts hown hZ hP (c_X0_robotTime l D cA _ (PE j) (E j) j (zpa (mk j)) (zsp (mk j)) none ((-1)) (ck j) (ct j) (zset_n (zset_s (zset_s hEj)) (zapc (hT t htn).1 (hE j hjn).1 (by decide))) (sl t) (by omega) (by omega)) ggX4_unmount_X0_robotTime (List.mem_of_getElem? (i := 12) rfl) (by decide +kernel) rfl ⟨rfl, rfl⟩ ⟨by decide +kernel, Nat.le_of_ble_eq_true rfl, Nat.le_of_ble_eq_true rfl⟩ (zset_n (zset_s (zset_s hEj)) (zapc (hT t htn).1 (hE j hjn).1 (by decide))) rfl hl.1 rfl (Nat.le_of_ble_eq_true rfl) ⟨Nat.le_of_ble_eq_true rfl, Nat.le_of_ble_eq_true rfl⟩ rfl dX4_unmount_46 (fun r_9 hr_10 => ?_)
  obtain rfl := show r_9 = _ from hr_10
  refine zo_add hx hb dX4_unmount_49 ?_
  refine zw_VN_i (n := 1) (mc := 0) (ms := 0) (As := [.int (nI ((wayT (zpa (mk j)) (zsp (mk j)) (tr t) (le t) P 0) + (20 + 2 * dif (4 * j) (sl t))))]) (rest := []) (w1 := fun u : Unit => (((ws.set (PE j) (E j, .inr (0, [.int (nI (j)), .int (nI (zpa (mk j))), .int (nI (zsp (mk j))), .null, .int (nI (P)), .int (ck j), .int (nI (ct j))]))).set (PE j) (E j, .inr (0, [.int (nI (j)), .int (nI (zpa (mk j))), .int (nI (zsp (mk j))), .null, .int ((-1)), .int (ck j), .int (nI (ct j))]))).set (PT t) (T t, .inr (3, [.int (nI (t)), .int (nI (tr t)), .int (nI (le t)), .int (nI (sl t)), .int ((-1)), .int (bI (la t)), .int (nI (fc t)), .ref (Bd t)]))).set (PE j) (E j, .inr (0, [.int (nI (j)), .int (nI (zpa (mk j))), .int (nI (zsp (mk j))), .null, .int ((-1)), .int (ck j + (nI ((wayT (zpa (mk j)) (zsp (mk j)) (tr t) (le t) P 0) + (20 + 2 * dif (4 * j) (sl t))))), .int (nI (ct j))]))) hx hb hml hts hown hZ hP hD hS hA (c_X0_spend l D cA _ _ (PE j) (E j) j (zpa (mk j)) (zsp (mk j)) none ((-1)) (ck j) (ct j) (zset_n (zset_s (zset_s hEj)) (zapc (hT t htn).1 (hE j hjn).1 (by decide))) (nI ((wayT (zpa (mk j)) (zsp (mk j)) (tr t) (le t) P 0) + (20 + 2 * dif (4 * j) (sl t))))) ggX4_unmount_X0_spend (List.mem_of_getElem? (i := 13) rfl) (by decide +kernel) rfl ⟨rfl, rfl⟩ ⟨by decide +kernel, Nat.le_of_ble_eq_true rfl, Nat.le_of_ble_eq_true rfl⟩ (zset_n (zset_s (zset_s hEj)) (zapc (hT t htn).1 (hE j hjn).1 (by decide))) rfl hl.1 rfl (Nat.le_of_ble_eq_true rfl) ⟨Nat.le_of_ble_eq_true rfl, Nat.le_of_ble_eq_true rfl⟩ rfl dX4_unmount_50 (fun r_11 u_13 H locs hr_12 hP hD hS hz_13 => ?_)
  obtain rfl := show r_11 = _ from hr_12
  have hP : va_P D vwCl ((((ws.set (PE j) (E j, .inr (0, [.int (nI (j)), .int (nI (zpa (mk j))), .int (nI (zsp (mk j))), .null, .int (nI (P)), .int (ck j), .int (nI (ct j))]))).set (PE j) (E j, .inr (0, [.int (nI (j)), .int (nI (zpa (mk j))), .int (nI (zsp (mk j))), .null, .int ((-1)), .int (ck j), .int (nI (ct j))]))).set (PT t) (T t, .inr (3, [.int (nI (t)), .int (nI (tr t)), .int (nI (le t)), .int (nI (sl t)), .int ((-1)), .int (bI (la t)), .int (nI (fc t)), .ref (Bd t)]))).set (PE j) (E j, .inr (0, [.int (nI (j)), .int (nI (zpa (mk j))), .int (nI (zsp (mk j))), .null, .int ((-1)), .int (ck j + (nI ((wayT (zpa (mk j)) (zsp (mk j)) (tr t) (le t) P 0) + (20 + 2 * dif (4 * j) (sl t))))), .int (nI (ct j))]))) H := hP
  have hD : va_D A ((((ws.set (PE j) (E j, .inr (0, [.int (nI (j)), .int (nI (zpa (mk j))), .int (nI (zsp (mk j))), .null, .int (nI (P)), .int (ck j), .int (nI (ct j))]))).set (PE j) (E j, .inr (0, [.int (nI (j)), .int (nI (zpa (mk j))), .int (nI (zsp (mk j))), .null, .int ((-1)), .int (ck j), .int (nI (ct j))]))).set (PT t) (T t, .inr (3, [.int (nI (t)), .int (nI (tr t)), .int (nI (le t)), .int (nI (sl t)), .int ((-1)), .int (bI (la t)), .int (nI (fc t)), .ref (Bd t)]))).set (PE j) (E j, .inr (0, [.int (nI (j)), .int (nI (zpa (mk j))), .int (nI (zsp (mk j))), .null, .int ((-1)), .int (ck j + (nI ((wayT (zpa (mk j)) (zsp (mk j)) (tr t) (le t) P 0) + (20 + 2 * dif (4 * j) (sl t))))), .int (nI (ct j))]))) := hD
  exact zr_ti (S := Nat × Nat × Nat × va_W) (w1 := fun u => u.2.2.2) (j, t, P, (((ws.set (PE j) (E j, .inr (0, [.int (nI (j)), .int (nI (zpa (mk j))), .int (nI (zsp (mk j))), .null, .int (nI (P)), .int (ck j), .int (nI (ct j))]))).set (PE j) (E j, .inr (0, [.int (nI (j)), .int (nI (zpa (mk j))), .int (nI (zsp (mk j))), .null, .int ((-1)), .int (ck j), .int (nI (ct j))]))).set (PT t) (T t, .inr (3, [.int (nI (t)), .int (nI (tr t)), .int (nI (le t)), .int (nI (sl t)), .int ((-1)), .int (bI (la t)), .int (nI (fc t)), .ref (Bd t)]))).set (PE j) (E j, .inr (0, [.int (nI (j)), .int (nI (zpa (mk j))), .int (nI (zsp (mk j))), .null, .int ((-1)), .int (ck j + (nI ((wayT (zpa (mk j)) (zsp (mk j)) (tr t) (le t) P 0) + (20 + 2 * dif (4 * j) (sl t))))), .int (nI (ct j))]))) hx hb hr hlocks (⟨hjn, rfl, hht, hPq, (by show P ≤ 1600; omega), rfl, zKeep_set (zKeep_set (zKeep_set (zKeep_set zKeep_rf (by omega)) (by omega)) (by omega)) (by omega), by
      have h6 := zL_E hL0 hd3 hjn none (nI P) (ck j) (ct j)
      have h7 := zL_E h6 hd3 hjn none (-1) (ck j) (ct j)
      have h8 := zL_T h7 hn8 htn (sl t) none (la t) (fc t)
      have h9 := zL_E h8 hd3 hjn none (-1) (ck j + nI (wayT (zpa (mk j)) (zsp (mk j)) (tr t) (le t) P 0 + (20 + 2 * dif (4 * j) (sl t)))) (ct j)
      simp only [va_up_id, va_up_up] at h9
      exact h9⟩) hP hD hS (rfl) dX4_unmount_53 ⟨Nat.le_of_ble_eq_true rfl, Nat.le_of_ble_eq_true rfl⟩

set_option maxHeartbeats 4000000 in
set_option maxRecDepth 100000 in
theorem c_X4_read (l : Launch) (hlt : l.stackTraces = false) (D : va_G) (cA : Nat → ClassId) (sz : Nat) (ws : va_W) (ad : Nat → Nat) (T : Nat → Nat) (Bd : Nat → Nat) (E : Nat → Nat) (PT : Nat → Nat) (PB : Nat → Nat) (PE : Nat → Nat) (n : Nat) (tr : Nat → Nat) (le : Nat → Nat) (sl : Nat → Nat) (mo : Nat → Option Nat) (la : Nat → Bool) (fc : Nat → Nat) (bo : Nat → Nat → Nat) (nd : Nat) (mk : Nat → Nat) (ck : Nat → Int32) (ct : Nat → Nat) (hd : Nat → Option Nat) (pq : Nat → Int32) (nj : Nat) (fw : Nat → Int32) (jf : Nat → Nat) (dl : Nat → Nat) (dn : Nat) (oc : Nat) (s8 : Nat → Int32) (s9 : Nat → Int32) (s10 : Nat → Int32) (s11 : Nat → Int32) (s12 : Nat → Int32) (hL : zL cA ws ad T Bd E PT PB PE n tr le sl mo la fc bo nd mk ck ct hd pq nj fw jf dl dn oc s8 s9 s10 s11 s12) (hI : zI n tr le sl mo fc bo nd mk ct hd pq nj fw jf dl) (v0 : Int32) (v1 : Int32) : vx_Met l yX4_read wsX4_read ({ frames := 7, cells := 4, slots := 24, locals := 118 }) (va_Pc [.ref (ad 0), .int (v0), .int (v1)] (zMX D cA (ws) sz)) (va_Qi (fun (r : Int32) (u : Nat × Nat × Nat × Nat × va_W) => u.1 < nd ∧ v0 = nI u.1 ∧ hd u.1 = some u.2.1 ∧ pq u.1 = nI u.2.2.1 ∧ u.2.2.1 ≤ 1600 ∧ u.2.2.2.1 < fc u.2.1 ∧ v1 = nI u.2.2.2.1 ∧ ct u.1 < 12 ∧ r = nI (legT (zpa (mk u.1)) (zsp (mk u.1)) (tr u.2.1) (le u.2.1) (bo u.2.1) u.2.2.1 u.2.2.2.1) ∧ zKeep ws u.2.2.2.2 ∧ zL cA u.2.2.2.2 ad T Bd E PT PB PE n tr le sl mo la fc bo nd mk (va_up ck u.1 (ck u.1 + nI (legT (zpa (mk u.1)) (zsp (mk u.1)) (tr u.2.1) (le u.2.1) (bo u.2.1) u.2.2.1 u.2.2.2.1))) (va_up ct u.1 (ct u.1 + 1)) hd (va_up pq u.1 (nI (bo u.2.1 (u.2.2.2.1 + 1)))) nj fw jf dl dn oc s8 s9 s10 s11 s12) (fun u => zB D (va_A (ws) sz) (u.2.2.2.2)) (va_A (ws) sz)) (zXC (fun (E : String) (u : Unit) => zexIS (kR (ix v0 nd) hd (fun t => ix v1 (fc t)) (fun j => decide (ct j < 12))) E) (fun u => ws) D (va_A (ws) sz)) 4 24 (va_A (ws) sz) := by
  refine zOpenX (cc := cX4_read) (maxL := 5) (ret := (some .int)) (own := RX4) (by decide) rfl rfl (Nat.le_of_ble_eq_true rfl) ?_
  intro p e s m below meth c ls hx hb hr hml hts hown hlocks htab ⟨⟨hZ, hP, hD0, hsz⟩, hX⟩ hl
  subst hsz
  have hD := hD0.self (sz := s.heap.size)
  generalize hAe : va_A (ws) s.heap.size = A at hD hX ⊢
  have hA : ∀ q : Nat, s.heap.size ≤ q → A q := fun q h => by rw [← hAe]; exact Or.inr h
  have hS : va_S A s.heap s.heap [] := va_S.rf
  have hl : lv_has ls 5 [(0, .ref (ad 0)), (1, .int (v0)), (2, .int (v1))] := hl
  have hL0 := hL
  obtain ⟨⟨l22, l23, l24, l25, l26, l27, l28, l29, l30, l31, l32, l33, l34⟩, hT, hE, hBne⟩ := hL
  obtain ⟨hn8, hd3, hj60, hIT, hID, hIJ, hIdl, hIw⟩ := hI
  refine lv_aload_n hx hb dX4_read_0 rfl (lv_at hl 0 rfl) ?_
  refine lv_iload_n hx hb dX4_read_1 rfl (lv_at hl 1 rfl) ?_
  refine zt_V_a (n := 1) (mc := 1) (ms := 6) (As := [.int (v0)]) (rest := []) hx hb hml hts hown hZ hX hP hD hS hA (c_X4_driveNumbered l hlt D cA _ _ 0 (ad 0) (ad 1) n (ad 2) nd (ad 3) (ad 4) l22 2 E l24 hd3 v0) gX4_read_X4_driveNumbered rfl rfl ⟨rfl, rfl⟩ ⟨by decide +kernel, Nat.le_of_ble_eq_true rfl, Nat.le_of_ble_eq_true rfl⟩ l22 rfl hl.1 rfl (Nat.le_of_ble_eq_true rfl) ⟨Nat.le_of_ble_eq_true rfl, Nat.le_of_ble_eq_true rfl⟩ rfl dX4_read_2 (fun E9 ce9 q9 u9 H locs hpx hP hD hS hz hq1 hq2 hq3 => ?_) (fun u_1 r_3 H locs hp_2 hra hP hD hS hz => ?_)
  · exact zt_out () hS hP hD (Or.inl ⟨kR_1 (ix_none (by omega) hpx.2), hpx.1⟩) htab hlocks hq1 hq2 hq3 (Nat.le_of_ble_eq_true rfl) (Nat.le_of_ble_eq_true rfl)
  have hP : va_P D vwCl (ws) H := hP
  have hD : va_D A (ws) := hD
  obtain ⟨hjn, hv_j⟩ := hp_2
  obtain ⟨j, rfl⟩ : ∃ z, z = u_1 := ⟨_, rfl⟩
  have hra : r_3 = E j := hra
  subst hra
  subst hv_j
  have hl : lv_has ls 5 [(0, .ref (ad 0)), (1, .int (nI (j))), (2, .int (v1))] := hl
  obtain ⟨-, hPE_j⟩ := hE j hjn
  obtain ⟨hmk_j, hct_j, hpn_j, hps_j⟩ := hID j hjn
  refine lv_astore_n (lv' := [(3, .ref (E j)), (0, .ref (ad 0)), (1, .int (nI (j))), (2, .int (v1))]) hx hb dX4_read_5 rfl hl (by decide) rfl (fun ls hl => ?_)
  refine lv_aload_n hx hb dX4_read_6 rfl (lv_at hl 0 rfl) ?_
  refine zt_S_a (n := 1) (mc := 1) (ms := 6) (As := [.ref (E j)]) (rest := []) hx hb hml hts hown hZ hX hP hD hS hA (c_X4_mountedIn l hlt D cA _ _ (PE j) (E j) j (zpa (mk j)) (zsp (mk j)) ((hd j).map T) (pq j) (ck j) (ct j) (hE j hjn).1) gX4_read_X4_mountedIn rfl ⟨rfl, rfl⟩ ⟨by decide +kernel, Nat.le_of_ble_eq_true rfl, Nat.le_of_ble_eq_true rfl⟩ hl.1 rfl (Nat.le_of_ble_eq_true rfl) ⟨Nat.le_of_ble_eq_true rfl, Nat.le_of_ble_eq_true rfl⟩ rfl dX4_read_7 (fun E9 ce9 q9 u9 H locs hpx hP hD hS hz hq1 hq2 hq3 => ?_) (fun u_4 r_6 H locs hp_5 hra hP hD hS hz => ?_)
  · have hhd : hd j = none := Option.map_eq_none_iff.mp (show (hd j).map T = none from hpx.2)
    exact zt_out () hS hP hD (Or.inr ⟨kR_2 (ix_in (by omega) hjn) hhd, hpx.1⟩) htab hlocks hq1 hq2 hq3 (Nat.le_of_ble_eq_true rfl) (Nat.le_of_ble_eq_true rfl)
  have hP : va_P D vwCl (ws) H := hP
  have hD : va_D A (ws) := hD
  obtain ⟨t, hht, hTt⟩ := Option.map_eq_some_iff.mp (show (hd j).map T = some u_4 from hp_5)
  have hra : r_6 = u_4 := hra
  rw [← hTt] at hra
  subst hra
  obtain ⟨htn, hmoj, P, hPq, hP9⟩ := hps_j t hht
  obtain ⟨-, -, hPT_t, hPB_t⟩ := hT t htn
  obtain ⟨htr1_t, htr8_t, hle4_t, hle200_t, hsl12_t, hmo_t, hfc10_t, hbo0_t, hbinc_t, hbtop_t⟩ := hIT t htn
  have hmul : tr t * le t ≤ 8 * 200 := Nat.mul_le_mul (by omega) (by omega)
  have hEj : ws[PE j]? = some (E j, zDrive j (zpa (mk j)) (zsp (mk j)) ((hd j).map T) (nI P) (ck j) (ct j)) := by rw [← hPq]; exact (hE j hjn).1
  refine lv_astore (lv' := [(4, .ref (T t)), (3, .ref (E j)), (0, .ref (ad 0)), (1, .int (nI (j))), (2, .int (v1))]) hx hb dX4_read_10 hl (by decide) rfl (fun ls hl => ?_)
  refine lv_aload hx hb dX4_read_12 (lv_at hl 0 rfl) ?_
  refine lv_iload_n hx hb dX4_read_14 rfl (lv_at hl 4 rfl) ?_
  refine zt_S_v (n := 2) (mc := 1) (ms := 6) (As := [.ref (T t), .int (v1)]) (rest := []) hx hb hml hts hown hZ hX hP hD hS hA (c_X4_refuseMissingFile l hlt D cA _ _ (PT t) (T t) t (tr t) (le t) (sl t) (fc t) (Bd t) ((mo t)) (la t) (hT t htn).1 (by omega) v1) gX4_read_X4_refuseMissingFile rfl ⟨rfl, rfl⟩ ⟨by decide +kernel, Nat.le_of_ble_eq_true rfl, Nat.le_of_ble_eq_true rfl⟩ hl.1 rfl (Nat.le_of_ble_eq_true rfl) ⟨Nat.le_of_ble_eq_true rfl, Nat.le_of_ble_eq_true rfl⟩ rfl dX4_read_15 (fun E9 ce9 q9 u9 H locs hpx hP hD hS hz hq1 hq2 hq3 => ?_) (fun u_7 H locs hp_8 hP hD hS hz => ?_)
  · exact zt_out () hS hP hD (Or.inl ⟨kR_3 (ix_in (by omega) hjn) hht (ix_none (by omega) hpx.2), hpx.1⟩) htab hlocks hq1 hq2 hq3 (Nat.le_of_ble_eq_true rfl) (Nat.le_of_ble_eq_true rfl)
  have hP : va_P D vwCl (ws) H := hP
  have hD : va_D A (ws) := hD
  obtain ⟨hfn, hv_f⟩ := hp_8
  obtain ⟨f, rfl⟩ : ∃ z, z = u_7 := ⟨_, rfl⟩
  subst hv_f
  have hl : lv_has ls 5 [(4, .ref (T t)), (3, .ref (E j)), (0, .ref (ad 0)), (1, .int (nI (j))), (2, .int (nI (f)))] := hl
  refine lv_aload_n hx hb dX4_read_18 rfl (lv_at hl 1 rfl) ?_
  refine zt_S_v (n := 1) (mc := 1) (ms := 6) (As := [.ref (E j)]) (rest := []) hx hb hml hts hown hZ hX hP hD hS hA (c_X4_refuseUnclean l hlt D cA _ _ (PE j) (E j) j (zpa (mk j)) (zsp (mk j)) ((hd j).map T) (nI (P)) (ck j) (ct j) hEj (by omega)) gX4_read_X4_refuseUnclean rfl ⟨rfl, rfl⟩ ⟨by decide +kernel, Nat.le_of_ble_eq_true rfl, Nat.le_of_ble_eq_true rfl⟩ hl.1 rfl (Nat.le_of_ble_eq_true rfl) ⟨Nat.le_of_ble_eq_true rfl, Nat.le_of_ble_eq_true rfl⟩ rfl dX4_read_19 (fun E9 ce9 q9 u9 H locs hpx hP hD hS hz hq1 hq2 hq3 => ?_) (fun u_10 H locs hp_11 hP hD hS hz => ?_)
  · exact zt_out () hS hP hD (Or.inr ⟨kR_4 (ix_in (by omega) hjn) hht (ix_in (by omega) hfn) (decide_eq_false (by have := hpx.2; omega)), hpx.1⟩) htab hlocks hq1 hq2 hq3 (Nat.le_of_ble_eq_true rfl) (Nat.le_of_ble_eq_true rfl)
  have hP : va_P D vwCl (ws) H := hP
  have hD : va_D A (ws) := hD
  have hcl12 : ct j < 12 := hp_11
  have hbi := hbinc_t f hfn
  have hbm := bmono _ hbinc_t (f + 1) (by omega)
  have hbb0 : bo t f ≤ bo t (f + 1) := by omega
  have hbb1 : bo t f < 2 ^ 31 := by omega
  refine lv_aload_n hx hb dX4_read_22 rfl (lv_at hl 1 rfl) ?_
  refine lv_aload hx hb dX4_read_23 (lv_at hl 0 rfl) ?_
  refine lv_iload_n hx hb dX4_read_25 rfl (lv_at hl 4 rfl) ?_
  refine zw_VN_i (n := 2) (mc := 0) (ms := 0) (As := [.ref (T t), .int (nI (f))]) (rest := []) (w1 := fun u : Unit => ws.set (PE j) (E j, zDrive j (zpa (mk j)) (zsp (mk j)) ((hd j).map T) (nI ((bo t) (f + 1))) (ck j + nI (wayT (zpa (mk j)) (zsp (mk j)) (tr t) (le t) P ((bo t) f) + 3 * ((bo t) (f + 1) - (bo t) f))) (ct j + 1))) hx hb hml hts hown hZ hP hD hS hA (c_X0_passFile l D cA _ _ P (PE j) (E j) j (zpa (mk j)) (zsp (mk j)) ((hd j).map T) (ck j) (ct j) hEj (PT t) (T t) t (tr t) (le t) (sl t) (fc t) (Bd t) ((mo t)) (la t) (hT t htn).1 (PB t) 11 (bo t) (hT t htn).2.1 (by omega) f (by omega) (by omega) (by omega) (by omega) (by omega) (by omega) hbb0 hbb1) ggX4_read_X0_passFile (List.mem_of_getElem? (i := 21) rfl) (by decide +kernel) rfl ⟨rfl, rfl⟩ ⟨by decide +kernel, Nat.le_of_ble_eq_true rfl, Nat.le_of_ble_eq_true rfl⟩ hEj rfl hl.1 rfl (Nat.le_of_ble_eq_true rfl) ⟨Nat.le_of_ble_eq_true rfl, Nat.le_of_ble_eq_true rfl⟩ rfl dX4_read_26 (fun r_13 u_15 H locs hr_14 hP hD hS hz_15 => ?_)
  obtain rfl := show r_13 = _ from hr_14
  have hP : va_P D vwCl (ws.set (PE j) (E j, zDrive j (zpa (mk j)) (zsp (mk j)) ((hd j).map T) (nI ((bo t) (f + 1))) (ck j + nI (wayT (zpa (mk j)) (zsp (mk j)) (tr t) (le t) P ((bo t) f) + 3 * ((bo t) (f + 1) - (bo t) f))) (ct j + 1))) H := hP
  have hD : va_D A (ws.set (PE j) (E j, zDrive j (zpa (mk j)) (zsp (mk j)) ((hd j).map T) (nI ((bo t) (f + 1))) (ck j + nI (wayT (zpa (mk j)) (zsp (mk j)) (tr t) (le t) P ((bo t) f) + 3 * ((bo t) (f + 1) - (bo t) f))) (ct j + 1))) := hD
  exact zr_ti (S := Nat × Nat × Nat × Nat × va_W) (w1 := fun u => u.2.2.2.2) (j, t, P, f, ws.set (PE j) (E j, zDrive j (zpa (mk j)) (zsp (mk j)) ((hd j).map T) (nI ((bo t) (f + 1))) (ck j + nI (wayT (zpa (mk j)) (zsp (mk j)) (tr t) (le t) P ((bo t) f) + 3 * ((bo t) (f + 1) - (bo t) f))) (ct j + 1))) hx hb hr hlocks (⟨hjn, rfl, hht, hPq, (by show P ≤ 1600; omega), hfn, rfl, hcl12, rfl, zKeep_set zKeep_rf (by omega), by
      have h9 := zL_E hL0 hd3 hjn (hd j) (nI (bo t (f + 1))) (ck j + nI (legT (zpa (mk j)) (zsp (mk j)) (tr t) (le t) (bo t) P f)) (ct j + 1)
      simp only [va_up_id] at h9
      exact h9⟩) hP hD hS (rfl) dX4_read_29 ⟨Nat.le_of_ble_eq_true rfl, Nat.le_of_ble_eq_true rfl⟩
