set_option maxHeartbeats 4000000 in
set_option maxRecDepth 100000 in
theorem c_X4_write (l : Launch) (hlt : l.stackTraces = false) (D : va_G) (cA : Nat → ClassId) (sz : Nat) (ws : va_W) (ad : Nat → Nat) (T : Nat → Nat) (Bd : Nat → Nat) (E : Nat → Nat) (PT : Nat → Nat) (PB : Nat → Nat) (PE : Nat → Nat) (n : Nat) (tr : Nat → Nat) (le : Nat → Nat) (sl : Nat → Nat) (mo : Nat → Option Nat) (la : Nat → Bool) (fc : Nat → Nat) (bo : Nat → Nat → Nat) (nd : Nat) (mk : Nat → Nat) (ck : Nat → Int32) (ct : Nat → Nat) (hd : Nat → Option Nat) (pq : Nat → Int32) (nj : Nat) (fw : Nat → Int32) (jf : Nat → Nat) (dl : Nat → Nat) (dn : Nat) (oc : Nat) (s8 : Nat → Int32) (s9 : Nat → Int32) (s10 : Nat → Int32) (s11 : Nat → Int32) (s12 : Nat → Int32) (hL : zL cA ws ad T Bd E PT PB PE n tr le sl mo la fc bo nd mk ck ct hd pq nj fw jf dl dn oc s8 s9 s10 s11 s12) (hI : zI n tr le sl mo fc bo nd mk ct hd pq nj fw jf dl) (v0 : Int32) (v1 : Int32) : vx_Met l yX4_write wsX4_write ({ frames := 7, cells := 4, slots := 24, locals := 118 }) (va_Pc [.ref (ad 0), .int (v0), .int (v1)] (zMX D cA (ws) sz)) (va_Qi (fun (r : Int32) (u : Nat × Nat × Nat × Nat × va_W) => u.1 < nd ∧ v0 = nI u.1 ∧ 1 ≤ u.2.2.2.1 ∧ u.2.2.2.1 ≤ 100 ∧ v1 = nI u.2.2.2.1 ∧ hd u.1 = some u.2.1 ∧ pq u.1 = nI u.2.2.1 ∧ u.2.2.1 ≤ 1600 ∧ ct u.1 < 12 ∧ fc u.2.1 < 10 ∧ bo u.2.1 (fc u.2.1) + u.2.2.2.1 ≤ tr u.2.1 * le u.2.1 ∧ r = nI (wayT (zpa (mk u.1)) (zsp (mk u.1)) (tr u.2.1) (le u.2.1) u.2.2.1 (bo u.2.1 (fc u.2.1)) + 3 * u.2.2.2.1) ∧ zKeep ws u.2.2.2.2 ∧ zL cA u.2.2.2.2 ad T Bd E PT PB PE n tr le sl mo la (va_up fc u.2.1 (fc u.2.1 + 1)) (va_up bo u.2.1 (va_up (bo u.2.1) (fc u.2.1 + 1) (bo u.2.1 (fc u.2.1) + u.2.2.2.1))) nd mk (va_up ck u.1 (ck u.1 + nI (wayT (zpa (mk u.1)) (zsp (mk u.1)) (tr u.2.1) (le u.2.1) u.2.2.1 (bo u.2.1 (fc u.2.1)) + 3 * u.2.2.2.1))) (va_up ct u.1 (ct u.1 + 1)) hd (va_up pq u.1 (nI (bo u.2.1 (fc u.2.1) + u.2.2.2.1))) nj fw jf dl dn oc s8 s9 s10 s11 s12) (fun u => zB D (va_A (ws) sz) (u.2.2.2.2)) (va_A (ws) sz)) (zXC (fun (E : String) (u : Unit) => zexIAS (k3 (ix v0 nd) (rg v1 1 100) (fun j b => match hd j with | none => false | some t => decide (ct j < 12) && decide (fc t < 10 ∧ bo t (fc t) + b ≤ tr t * le t))) E) (fun u => ws) D (va_A (ws) sz)) 4 24 (va_A (ws) sz) := by
  refine zOpenX (cc := cX4_write) (maxL := 6) (ret := (some .int)) (own := RX4) (by decide) rfl rfl (Nat.le_of_ble_eq_true rfl) ?_
  intro p e s m below meth c ls hx hb hr hml hts hown hlocks htab ⟨⟨hZ, hP, hD0, hsz⟩, hX⟩ hl
  subst hsz
  have hD := hD0.self (sz := s.heap.size)
  generalize hAe : va_A (ws) s.heap.size = A at hD hX ⊢
  have hA : ∀ q : Nat, s.heap.size ≤ q → A q := fun q h => by rw [← hAe]; exact Or.inr h
  have hS : va_S A s.heap s.heap [] := va_S.rf
  have hl : lv_has ls 6 [(0, .ref (ad 0)), (1, .int (v0)), (2, .int (v1))] := hl
  have hL0 := hL
  obtain ⟨⟨l22, l23, l24, l25, l26, l27, l28, l29, l30, l31, l32, l33, l34⟩, hT, hE, hBne⟩ := hL
  obtain ⟨hn8, hd3, hj60, hIT, hID, hIJ, hIdl, hIw⟩ := hI
  refine lv_aload_n hx hb dX4_write_0 rfl (lv_at hl 0 rfl) ?_
  refine lv_iload_n hx hb dX4_write_1 rfl (lv_at hl 1 rfl) ?_
  refine zt_V_a (n := 1) (mc := 1) (ms := 6) (As := [.int (v0)]) (rest := []) hx hb hml hts hown hZ hX hP hD hS hA (c_X4_driveNumbered l hlt D cA _ _ 0 (ad 0) (ad 1) n (ad 2) nd (ad 3) (ad 4) l22 2 E l24 hd3 v0) gX4_write_X4_driveNumbered rfl rfl ⟨rfl, rfl⟩ ⟨by decide +kernel, Nat.le_of_ble_eq_true rfl, Nat.le_of_ble_eq_true rfl⟩ l22 rfl hl.1 rfl (Nat.le_of_ble_eq_true rfl) ⟨Nat.le_of_ble_eq_true rfl, Nat.le_of_ble_eq_true rfl⟩ rfl dX4_write_2 (fun E9 ce9 q9 u9 H locs hpx hP hD hS hz hq1 hq2 hq3 => ?_) (fun u_1 r_3 H locs hp_2 hra hP hD hS hz => ?_)
  · exact zt_out () hS hP hD (Or.inl ⟨k3_1 (ix_none (by omega) hpx.2), hpx.1⟩) htab hlocks hq1 hq2 hq3 (Nat.le_of_ble_eq_true rfl) (Nat.le_of_ble_eq_true rfl)
  have hP : va_P D vwCl (ws) H := hP
  have hD : va_D A (ws) := hD
  obtain ⟨hjn, hv_j⟩ := hp_2
  obtain ⟨j, rfl⟩ : ∃ z, z = u_1 := ⟨_, rfl⟩
  have hra : r_3 = E j := hra
  subst hra
  subst hv_j
  have hl : lv_has ls 6 [(0, .ref (ad 0)), (1, .int (nI (j))), (2, .int (v1))] := hl
  obtain ⟨-, hPE_j⟩ := hE j hjn
  obtain ⟨hmk_j, hct_j, hpn_j, hps_j⟩ := hID j hjn
  refine lv_astore_n (lv' := [(3, .ref (E j)), (0, .ref (ad 0)), (1, .int (nI (j))), (2, .int (v1))]) hx hb dX4_write_5 rfl hl (by decide) rfl (fun ls hl => ?_)
  rcases zI_split v1 with hneg | ⟨b, hb31, rfl⟩
  · refine lv_iload_n hx hb dX4_write_6 rfl (lv_at hl 3 rfl) ?_
    refine lv_iconst (v := nI (1)) hx hb dX4_write_7 (by decide) ?_
    refine lv_icmp_lt (tgt := 17) hx hb dX4_write_8 (by decide) (fun c_4 => ?_) (fun c_4 => absurd (zneg_lt hneg) c_4)
    exact zt_throw (cls := "java/lang/IllegalArgumentException") (text := "blocks out of range") (ik := 42) (is := 148) (ic := 46) () hx hb hlt hown hZ hX hS hP hD (Or.inr (Or.inl ⟨k3_2 (ix_in (by omega) hjn) (rg_neg hneg), rfl⟩)) htab hlocks (hl.1.trans hml.symm) (by decide) (hts (.classLink RX4 42 "java/lang/IllegalArgumentException") (by decide +kernel)) (hts (.initialized "java/lang/IllegalArgumentException") (by decide +kernel)) (fun w hw => hts w ((by decide +kernel : ∀ w ∈ (vx_atS RX4 46 "java/lang/IllegalArgumentException" ["java/lang/RuntimeException", "java/lang/Exception"]).filter goodWord, w ∈ wsX4_write) w hw)) (by decide +kernel) (by decide +kernel) (by decide +kernel) dX4_write_17 dX4_write_20 dX4_write_21 dX4_write_23 dX4_write_26 ⟨Nat.le_of_ble_eq_true rfl, Nat.le_of_ble_eq_true rfl, Nat.le_of_ble_eq_true rfl, Nat.le_of_ble_eq_true rfl⟩ (Nat.le_of_ble_eq_true rfl) (Nat.le_of_ble_eq_true rfl)
  · refine lv_iload_n hx hb dX4_write_6 rfl (lv_at hl 3 rfl) ?_
    refine lv_iconst (v := nI (1)) hx hb dX4_write_7 (by decide) ?_
    refine zc_lt (tgt := 17) hx hb (by omega) (by omega) dX4_write_8 (by decide) (fun c_5 => ?_) (fun c_5 => ?_)
    · exact zt_throw (cls := "java/lang/IllegalArgumentException") (text := "blocks out of range") (ik := 42) (is := 148) (ic := 46) () hx hb hlt hown hZ hX hS hP hD (Or.inr (Or.inl ⟨k3_2 (ix_in (by omega) hjn) (rg_out hb31 (by omega)), rfl⟩)) htab hlocks (hl.1.trans hml.symm) (by decide) (hts (.classLink RX4 42 "java/lang/IllegalArgumentException") (by decide +kernel)) (hts (.initialized "java/lang/IllegalArgumentException") (by decide +kernel)) (fun w hw => hts w ((by decide +kernel : ∀ w ∈ (vx_atS RX4 46 "java/lang/IllegalArgumentException" ["java/lang/RuntimeException", "java/lang/Exception"]).filter goodWord, w ∈ wsX4_write) w hw)) (by decide +kernel) (by decide +kernel) (by decide +kernel) dX4_write_17 dX4_write_20 dX4_write_21 dX4_write_23 dX4_write_26 ⟨Nat.le_of_ble_eq_true rfl, Nat.le_of_ble_eq_true rfl, Nat.le_of_ble_eq_true rfl, Nat.le_of_ble_eq_true rfl⟩ (Nat.le_of_ble_eq_true rfl) (Nat.le_of_ble_eq_true rfl)
    · refine lv_iload_n hx hb dX4_write_11 rfl (lv_at hl 3 rfl) ?_
      refine lv_bipush (v := nI (100)) hx hb dX4_write_12 (by decide) ?_
      refine zc_le (tgt := 27) hx hb (by omega) (by omega) dX4_write_14 (by decide) (fun c_6 => ?_) (fun c_6 => ?_)
      · refine lv_aload_n hx hb dX4_write_27 rfl (lv_at hl 0 rfl) ?_
        refine zt_S_a (n := 1) (mc := 1) (ms := 6) (As := [.ref (E j)]) (rest := []) hx hb hml hts hown hZ hX hP hD hS hA (c_X4_mountedIn l hlt D cA _ _ (PE j) (E j) j (zpa (mk j)) (zsp (mk j)) ((hd j).map T) (pq j) (ck j) (ct j) (hE j hjn).1) gX4_write_X4_mountedIn rfl ⟨rfl, rfl⟩ ⟨by decide +kernel, Nat.le_of_ble_eq_true rfl, Nat.le_of_ble_eq_true rfl⟩ hl.1 rfl (Nat.le_of_ble_eq_true rfl) ⟨Nat.le_of_ble_eq_true rfl, Nat.le_of_ble_eq_true rfl⟩ rfl dX4_write_28 (fun E9 ce9 q9 u9 H locs hpx hP hD hS hz hq1 hq2 hq3 => ?_) (fun u_7 r_9 H locs hp_8 hra hP hD hS hz => ?_)
        · have hhd : hd j = none := Option.map_eq_none_iff.mp (show (hd j).map T = none from hpx.2)
          exact zt_out () hS hP hD (Or.inr (Or.inr ⟨k3_3 (ix_in (by omega) hjn) (rg_in hb31 (by omega) (by omega)) (by rw [hhd]), hpx.1⟩)) htab hlocks hq1 hq2 hq3 (Nat.le_of_ble_eq_true rfl) (Nat.le_of_ble_eq_true rfl)
        have hP : va_P D vwCl (ws) H := hP
        have hD : va_D A (ws) := hD
        obtain ⟨t, hht, hTt⟩ := Option.map_eq_some_iff.mp (show (hd j).map T = some u_7 from hp_8)
        have hra : r_9 = u_7 := hra
        rw [← hTt] at hra
        subst hra
        obtain ⟨htn, hmoj, P, hPq, hP9⟩ := hps_j t hht
        obtain ⟨-, -, hPT_t, hPB_t⟩ := hT t htn
        obtain ⟨htr1_t, htr8_t, hle4_t, hle200_t, hsl12_t, hmo_t, hfc10_t, hbo0_t, hbinc_t, hbtop_t⟩ := hIT t htn
        have hmul : tr t * le t ≤ 8 * 200 := Nat.mul_le_mul (by omega) (by omega)
        have hEj : ws[PE j]? = some (E j, zDrive j (zpa (mk j)) (zsp (mk j)) ((hd j).map T) (nI P) (ck j) (ct j)) := by rw [← hPq]; exact (hE j hjn).1
        refine lv_astore (lv' := [(4, .ref (T t)), (3, .ref (E j)), (0, .ref (ad 0)), (1, .int (nI (j))), (2, .int (nI (b)))]) hx hb dX4_write_31 hl (by decide) rfl (fun ls hl => ?_)
        refine lv_aload_n hx hb dX4_write_33 rfl (lv_at hl 1 rfl) ?_
        refine zt_S_v (n := 1) (mc := 1) (ms := 6) (As := [.ref (E j)]) (rest := []) hx hb hml hts hown hZ hX hP hD hS hA (c_X4_refuseUnclean l hlt D cA _ _ (PE j) (E j) j (zpa (mk j)) (zsp (mk j)) ((hd j).map T) (nI (P)) (ck j) (ct j) hEj (by omega)) gX4_write_X4_refuseUnclean rfl ⟨rfl, rfl⟩ ⟨by decide +kernel, Nat.le_of_ble_eq_true rfl, Nat.le_of_ble_eq_true rfl⟩ hl.1 rfl (Nat.le_of_ble_eq_true rfl) ⟨Nat.le_of_ble_eq_true rfl, Nat.le_of_ble_eq_true rfl⟩ rfl dX4_write_34 (fun E9 ce9 q9 u9 H locs hpx hP hD hS hz hq1 hq2 hq3 => ?_) (fun u_10 H locs hp_11 hP hD hS hz => ?_)
        · exact zt_out () hS hP hD (Or.inr (Or.inr ⟨k3_3 (ix_in (by omega) hjn) (rg_in hb31 (by omega) (by omega)) (by rw [hht]; show (decide (ct j < 12) && _) = false; rw [decide_eq_false (by have := hpx.2; omega), Bool.false_and]), hpx.1⟩)) htab hlocks hq1 hq2 hq3 (Nat.le_of_ble_eq_true rfl) (Nat.le_of_ble_eq_true rfl)
        have hP : va_P D vwCl (ws) H := hP
        have hD : va_D A (ws) := hD
        have hcl12 : ct j < 12 := hp_11
        refine lv_aload hx hb dX4_write_37 (lv_at hl 0 rfl) ?_
        refine lv_iload_n hx hb dX4_write_39 rfl (lv_at hl 4 rfl) ?_
        refine zk_VN_i (n := 1) (As := [.int (nI (b))]) (rest := []) hx hb hml hts hown hZ hP (c_X3_hasRoomFor l D cA _ (PT t) (T t) t (tr t) (le t) (sl t) (fc t) (Bd t) ((mo t)) (la t) (hT t htn).1 (PB t) 11 (bo t) (hT t htn).2.1 (by omega) b (by omega) (by omega) (by omega) (by omega)) ggX4_write_X3_hasRoomFor (List.mem_of_getElem? (i := 18) rfl) (by decide +kernel) rfl ⟨rfl, rfl⟩ ⟨by decide +kernel, Nat.le_of_ble_eq_true rfl, Nat.le_of_ble_eq_true rfl⟩ (hT t htn).1 rfl hl.1 rfl (Nat.le_of_ble_eq_true rfl) ⟨Nat.le_of_ble_eq_true rfl, Nat.le_of_ble_eq_true rfl⟩ rfl dX4_write_40 (fun r_13 hr_14 => ?_)
        obtain rfl := show r_13 = _ from hr_14
        refine zb_ne (tgt := 56) hx hb dX4_write_43 (by decide) (fun c_15 => ?_) (fun c_15 => ?_)
        · obtain ⟨hfc9, hfit⟩ := of_decide_eq_true (show decide (fc t < 10 ∧ bo t (fc t) + b ≤ tr t * le t) = true by assumption)
          refine lv_aload hx hb dX4_write_56 (lv_at hl 0 rfl) ?_
          refine lv_iload_n hx hb dX4_write_58 rfl (lv_at hl 4 rfl) ?_
          refine zw_VN_i (n := 1) (mc := 0) (ms := 0) (As := [.int (nI (b))]) (rest := []) (w1 := fun u : Unit => (ws.set (PB t) (Bd t, zInts cA 11 (upd (fun k => nI (bo t k)) (fc t + 1) (nI (bo t (fc t) + b))))).set (PT t) (T t, zTape t (tr t) (le t) (sl t) (mo t) (la t) (fc t + 1) (Bd t))) hx hb hml hts hown hZ hP hD hS hA (c_X3_append l D cA _ _ (PT t) (T t) t (tr t) (le t) (sl t) (fc t) (Bd t) ((mo t)) (la t) (hT t htn).1 (PB t) 11 (bo t) (hT t htn).2.1 (by omega) b (by omega) (by omega)) ggX4_write_X3_append (List.mem_of_getElem? (i := 19) rfl) (by decide +kernel) rfl ⟨rfl, rfl⟩ ⟨by decide +kernel, Nat.le_of_ble_eq_true rfl, Nat.le_of_ble_eq_true rfl⟩ (hT t htn).1 rfl hl.1 rfl (Nat.le_of_ble_eq_true rfl) ⟨Nat.le_of_ble_eq_true rfl, Nat.le_of_ble_eq_true rfl⟩ rfl dX4_write_59 (fun r_16 u_18 H locs hr_17 hP hD hS hz_18 => ?_)
          obtain rfl := show r_16 = _ from hr_17
          have hP : va_P D vwCl ((ws.set (PB t) (Bd t, zInts cA 11 (upd (fun k => nI (bo t k)) (fc t + 1) (nI (bo t (fc t) + b))))).set (PT t) (T t, zTape t (tr t) (le t) (sl t) (mo t) (la t) (fc t + 1) (Bd t))) H := hP
          have hD : va_D A ((ws.set (PB t) (Bd t, zInts cA 11 (upd (fun k => nI (bo t k)) (fc t + 1) (nI (bo t (fc t) + b))))).set (PT t) (T t, zTape t (tr t) (le t) (sl t) (mo t) (la t) (fc t + 1) (Bd t))) := hD
          rw [upd_nI] at hP hD
          have hP : va_P D vwCl ((ws.set (PB t) (Bd t, zInts cA 11 (fun k => nI ((va_up (bo t) (fc t + 1) (bo t (fc t) + b)) k)))).set (PT t) (T t, zTape t (tr t) (le t) (sl t) (mo t) (la t) (fc t + 1) (Bd t))) H := hP
          have hD : va_D A ((ws.set (PB t) (Bd t, zInts cA 11 (fun k => nI ((va_up (bo t) (fc t + 1) (bo t (fc t) + b)) k)))).set (PT t) (T t, zTape t (tr t) (le t) (sl t) (mo t) (la t) (fc t + 1) (Bd t))) := hD
          have hb0 : (va_up (bo t) (fc t + 1) (bo t (fc t) + b)) (fc t) = bo t (fc t) := va_up_ne _ _ (by omega)
          have hb1 : (va_up (bo t) (fc t + 1) (bo t (fc t) + b)) (fc t + 1) = bo t (fc t) + b := va_up_self _ _ _
          have hbb0 : (va_up (bo t) (fc t + 1) (bo t (fc t) + b)) (fc t) ≤ (va_up (bo t) (fc t + 1) (bo t (fc t) + b)) (fc t + 1) := by rw [hb0, hb1]; omega
          have hbb1 : (va_up (bo t) (fc t + 1) (bo t (fc t) + b)) (fc t) < 2 ^ 31 := by rw [hb0]; omega
          refine lv_istore (lv' := [(5, .int (nI (fc t))), (4, .ref (T t)), (3, .ref (E j)), (0, .ref (ad 0)), (1, .int (nI (j))), (2, .int (nI (b)))]) hx hb dX4_write_62 hl (by decide) rfl (fun ls hl => ?_)
          refine lv_aload_n hx hb dX4_write_64 rfl (lv_at hl 2 rfl) ?_
          refine lv_aload hx hb dX4_write_65 (lv_at hl 1 rfl) ?_
          refine lv_iload hx hb dX4_write_67 (lv_at hl 0 rfl) ?_
          refine zw_VN_i (n := 2) (mc := 0) (ms := 0) (As := [.ref (T t), .int (nI (fc t))]) (rest := []) (w1 := fun u : Unit => ((ws.set (PB t) (Bd t, zInts cA 11 (fun k => nI ((va_up (bo t) (fc t + 1) (bo t (fc t) + b)) k)))).set (PT t) (T t, zTape t (tr t) (le t) (sl t) (mo t) (la t) (fc t + 1) (Bd t))).set (PE j) (E j, zDrive j (zpa (mk j)) (zsp (mk j)) ((hd j).map T) (nI ((va_up (bo t) (fc t + 1) (bo t (fc t) + b)) ((fc t) + 1))) (ck j + nI (wayT (zpa (mk j)) (zsp (mk j)) (tr t) (le t) P ((va_up (bo t) (fc t + 1) (bo t (fc t) + b)) (fc t)) + 3 * ((va_up (bo t) (fc t + 1) (bo t (fc t) + b)) ((fc t) + 1) - (va_up (bo t) (fc t + 1) (bo t (fc t) + b)) (fc t)))) (ct j + 1))) hx hb hml hts hown hZ hP hD hS hA (c_X0_passFile l D cA _ _ P (PE j) (E j) j (zpa (mk j)) (zsp (mk j)) ((hd j).map T) (ck j) (ct j) (zset_n (zset_n hEj (zapo' (hT t htn).2.1 (hE j hjn).1)) (zapc (hT t htn).1 (hE j hjn).1 (by decide))) (PT t) (T t) t (tr t) (le t) (sl t) (fc t + 1) (Bd t) ((mo t)) (la t) (zset_s (zset_n (hT t htn).1 (zapo' (hT t htn).2.1 (hT t htn).1))) (PB t) 11 (va_up (bo t) (fc t + 1) (bo t (fc t) + b)) (zset_n (zset_s (hT t htn).2.1) (zapo (hT t htn).1 (hT t htn).2.1)) (by omega) (fc t) (by omega) (by omega) (by omega) (by omega) (by omega) (by omega) hbb0 hbb1) ggX4_write_X0_passFile (List.mem_of_getElem? (i := 21) rfl) (by decide +kernel) rfl ⟨rfl, rfl⟩ ⟨by decide +kernel, Nat.le_of_ble_eq_true rfl, Nat.le_of_ble_eq_true rfl⟩ (zset_n (zset_n hEj (zapo' (hT t htn).2.1 (hE j hjn).1)) (zapc (hT t htn).1 (hE j hjn).1 (by decide))) rfl hl.1 rfl (Nat.le_of_ble_eq_true rfl) ⟨Nat.le_of_ble_eq_true rfl, Nat.le_of_ble_eq_true rfl⟩ rfl dX4_write_69 (fun r_19 u_21 H locs hr_20 hP hD hS hz_21 => ?_)
          obtain rfl := show r_19 = _ from hr_20
          have hP : va_P D vwCl (((ws.set (PB t) (Bd t, zInts cA 11 (fun k => nI ((va_up (bo t) (fc t + 1) (bo t (fc t) + b)) k)))).set (PT t) (T t, zTape t (tr t) (le t) (sl t) (mo t) (la t) (fc t + 1) (Bd t))).set (PE j) (E j, zDrive j (zpa (mk j)) (zsp (mk j)) ((hd j).map T) (nI ((va_up (bo t) (fc t + 1) (bo t (fc t) + b)) ((fc t) + 1))) (ck j + nI (wayT (zpa (mk j)) (zsp (mk j)) (tr t) (le t) P ((va_up (bo t) (fc t + 1) (bo t (fc t) + b)) (fc t)) + 3 * ((va_up (bo t) (fc t + 1) (bo t (fc t) + b)) ((fc t) + 1) - (va_up (bo t) (fc t + 1) (bo t (fc t) + b)) (fc t)))) (ct j + 1))) H := hP
          have hD : va_D A (((ws.set (PB t) (Bd t, zInts cA 11 (fun k => nI ((va_up (bo t) (fc t + 1) (bo t (fc t) + b)) k)))).set (PT t) (T t, zTape t (tr t) (le t) (sl t) (mo t) (la t) (fc t + 1) (Bd t))).set (PE j) (E j, zDrive j (zpa (mk j)) (zsp (mk j)) ((hd j).map T) (nI ((va_up (bo t) (fc t + 1) (bo t (fc t) + b)) ((fc t) + 1))) (ck j + nI (wayT (zpa (mk j)) (zsp (mk j)) (tr t) (le t) P ((va_up (bo t) (fc t + 1) (bo t (fc t) + b)) (fc t)) + 3 * ((va_up (bo t) (fc t + 1) (bo t (fc t) + b)) ((fc t) + 1) - (va_up (bo t) (fc t + 1) (bo t (fc t) + b)) (fc t)))) (ct j + 1))) := hD
          exact zr_ti (S := Nat × Nat × Nat × Nat × va_W) (w1 := fun u => u.2.2.2.2) (j, t, P, b, ((ws.set (PB t) (Bd t, zInts cA 11 (fun k => nI ((va_up (bo t) (fc t + 1) (bo t (fc t) + b)) k)))).set (PT t) (T t, zTape t (tr t) (le t) (sl t) (mo t) (la t) (fc t + 1) (Bd t))).set (PE j) (E j, zDrive j (zpa (mk j)) (zsp (mk j)) ((hd j).map T) (nI ((va_up (bo t) (fc t + 1) (bo t (fc t) + b)) ((fc t) + 1))) (ck j + nI (wayT (zpa (mk j)) (zsp (mk j)) (tr t) (le t) P ((va_up (bo t) (fc t + 1) (bo t (fc t) + b)) (fc t)) + 3 * ((va_up (bo t) (fc t + 1) (bo t (fc t) + b)) ((fc t) + 1) - (va_up (bo t) (fc t + 1) (bo t (fc t) + b)) (fc t)))) (ct j + 1))) hx hb hr hlocks (⟨hjn, rfl, (show 1 ≤ b by omega), (show b ≤ 100 by omega), rfl, hht, hPq, (by show P ≤ 1600; omega), hcl12, hfc9, hfit, by rw [hb0, hb1, Nat.add_sub_cancel_left], zKeep_set (zKeep_set (zKeep_set zKeep_rf (by omega)) (by omega)) (by omega), by
              have h7 := zL_B hL0 htn (va_up (bo t) (fc t + 1) (bo t (fc t) + b))
              have h8 := zL_T h7 hn8 htn (sl t) (mo t) (la t) (fc t + 1)
              have h9 := zL_E h8 hd3 hjn (hd j) (nI ((va_up (bo t) (fc t + 1) (bo t (fc t) + b)) (fc t + 1))) (ck j + nI (wayT (zpa (mk j)) (zsp (mk j)) (tr t) (le t) P ((va_up (bo t) (fc t + 1) (bo t (fc t) + b)) (fc t)) + 3 * ((va_up (bo t) (fc t + 1) (bo t (fc t) + b)) (fc t + 1) - (va_up (bo t) (fc t + 1) (bo t (fc t) + b)) (fc t)))) (ct j + 1)
              simp only [va_up_id] at h9
              rw [hb0, hb1, Nat.add_sub_cancel_left] at h9 ⊢
              exact h9⟩) hP hD hS (rfl) dX4_write_72 ⟨Nat.le_of_ble_eq_true rfl, Nat.le_of_ble_eq_true rfl⟩
        · exact zt_throw (cls := "java/lang/IllegalStateException") (text := "tape too full") (ik := 51) (is := 157) (ic := 55) () hx hb hlt hown hZ hX hS hP hD (Or.inr (Or.inr ⟨k3_3 (ix_in (by omega) hjn) (rg_in hb31 (by omega) (by omega)) (by rw [hht]; show (_ && decide (fc t < 10 ∧ bo t (fc t) + b ≤ tr t * le t)) = false; rw [show decide (fc t < 10 ∧ bo t (fc t) + b ≤ tr t * le t) = false by assumption, Bool.and_false]), rfl⟩)) htab hlocks (hl.1.trans hml.symm) (by decide) (hts (.classLink RX4 51 "java/lang/IllegalStateException") (by decide +kernel)) (hts (.initialized "java/lang/IllegalStateException") (by decide +kernel)) (fun w hw => hts w ((by decide +kernel : ∀ w ∈ (vx_atS RX4 55 "java/lang/IllegalStateException" ["java/lang/RuntimeException", "java/lang/Exception"]).filter goodWord, w ∈ wsX4_write) w hw)) (by decide +kernel) (by decide +kernel) (by decide +kernel) dX4_write_46 dX4_write_49 dX4_write_50 dX4_write_52 dX4_write_55 ⟨Nat.le_of_ble_eq_true rfl, Nat.le_of_ble_eq_true rfl, Nat.le_of_ble_eq_true rfl, Nat.le_of_ble_eq_true rfl⟩ (Nat.le_of_ble_eq_true rfl) (Nat.le_of_ble_eq_true rfl)
      · exact zt_throw (cls := "java/lang/IllegalArgumentException") (text := "blocks out of range") (ik := 42) (is := 148) (ic := 46) () hx hb hlt hown hZ hX hS hP hD (Or.inr (Or.inl ⟨k3_2 (ix_in (by omega) hjn) (rg_out hb31 (by omega)), rfl⟩)) htab hlocks (hl.1.trans hml.symm) (by decide) (hts (.classLink RX4 42 "java/lang/IllegalArgumentException") (by decide +kernel)) (hts (.initialized "java/lang/IllegalArgumentException") (by decide +kernel)) (fun w hw => hts w ((by decide +kernel : ∀ w ∈ (vx_atS RX4 46 "java/lang/IllegalArgumentException" ["java/lang/RuntimeException", "java/lang/Exception"]).filter goodWord, w ∈ wsX4_write) w hw)) (by decide +kernel) (by decide +kernel) (by decide +kernel) dX4_write_17 dX4_write_20 dX4_write_21 dX4_write_23 dX4_write_26 ⟨Nat.le_of_ble_eq_true rfl, Nat.le_of_ble_eq_true rfl, Nat.le_of_ble_eq_true rfl, Nat.le_of_ble_eq_true rfl⟩ (Nat.le_of_ble_eq_true rfl) (Nat.le_of_ble_eq_true rfl)

set_option maxHeartbeats 4000000 in
set_option maxRecDepth 100000 in
theorem c_X4_done (l : Launch) (D : va_G) (cA : Nat → ClassId) (ws : va_W) (k0 h0 ta n da nd jj oo : Nat) (hk : ws[k0]? = some (h0, zTR ta n da nd jj oo)) (k1 nj dn wA fA dA : Nat) (hk1 : ws[k1]? = some (jj, zJobs nj dn wA fA dA)) : Met l yX4_done wsX4_done ({ frames := 0, cells := 0, slots := 0, locals := 0 }) (va_Pc [.ref h0] (zS D cA ws)) (vp_Si (fun r => r = nI (dn))) 0 0 zF := by
  refine zOpen (cc := cX4_done) (maxL := 1) (ret := (some .int)) (own := RX4) (by decide) rfl rfl (Nat.le_of_ble_eq_true rfl) ?_
  intro p e s m below meth c ls hx hb hr hml hts hown hlocks hnm ⟨hZ, hP⟩ hl
  have iX4 : ∀ w ∈ wsX40, w ∈ wsX4_done := by decide +kernel
  have iX1 : ∀ w ∈ wsX10, w ∈ wsX4_done := by decide +kernel
  have hl : lv_has ls 1 [(0, .ref h0)] := hl
  refine lv_aload_n hx hb dX4_done_0 rfl (lv_at hl 0 rfl) ?_
  refine va_get (D := D) (ci := 4) (v := .ref jj) (C := RX4) (T := TX4) (N := 6) hx hb hts iX4 hown hZ.1 hP k0 hk rfl 4 (by decide) (hts (.fieldLink RX4 31 "TapeRobotics" "jobs" "LTapeRobotics$Jobs;") (by decide +kernel)) (fun _ h9 => h9) rfl dX4_done_1 ?_
  refine va_getN (D := D) (ci := 1) (v := .int (nI (dn))) (C := RX1) (T := TX1) (N := 5) hx hb hts iX1 hown hZ.1 hP k1 hk1 rfl 1 (by decide) (va_Nw.use rfl (hZ.2 (.fieldLinkNest RX4 232 RX1 "doneCount" "I" "TapeRobotics") (List.mem_of_getElem? (i := 42) rfl))) (fun _ h9 => h9) rfl dX4_done_4 ?_
  exact zr_i hx hb hr hlocks (rfl) dX4_done_7
