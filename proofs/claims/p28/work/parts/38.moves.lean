set_option maxHeartbeats 4000000 in
set_option maxRecDepth 100000 in
theorem c_X4_carry (l : Launch) (hlt : l.stackTraces = false) (D : va_G) (cA : Nat → ClassId) (sz : Nat) (ws : va_W) (ad : Nat → Nat) (T : Nat → Nat) (Bd : Nat → Nat) (E : Nat → Nat) (PT : Nat → Nat) (PB : Nat → Nat) (PE : Nat → Nat) (n : Nat) (tr : Nat → Nat) (le : Nat → Nat) (sl : Nat → Nat) (mo : Nat → Option Nat) (la : Nat → Bool) (fc : Nat → Nat) (bo : Nat → Nat → Nat) (nd : Nat) (mk : Nat → Nat) (ck : Nat → Int32) (ct : Nat → Nat) (hd : Nat → Option Nat) (pq : Nat → Int32) (nj : Nat) (fw : Nat → Int32) (jf : Nat → Nat) (dl : Nat → Nat) (dn : Nat) (oc : Nat) (s8 : Nat → Int32) (s9 : Nat → Int32) (s10 : Nat → Int32) (s11 : Nat → Int32) (s12 : Nat → Int32) (hL : zL cA ws ad T Bd E PT PB PE n tr le sl mo la fc bo nd mk ck ct hd pq nj fw jf dl dn oc s8 s9 s10 s11 s12) (hI : zI n tr le sl mo fc bo nd mk ct hd pq nj fw jf dl) (v0 : Int32) (v1 : Int32) : vx_Met l yX4_carry wsX4_carry ({ frames := 7, cells := 2, slots := 12, locals := 118 }) (va_Pc [.ref (ad 0), .int (v0), .int (v1)] (zMX D cA (ws) sz)) (va_Qi (fun (r : Int32) (u : Nat × Nat × va_W) => u.1 < n ∧ v0 = nI u.1 ∧ u.2.1 < 12 ∧ v1 = nI u.2.1 ∧ (mo u.1 = none ∧ fre sl u.2.1 n = true) ∧ r = nI (sl u.1) ∧ zKeep ws u.2.2 ∧ zL cA u.2.2 ad T Bd E PT PB PE n tr le (va_up sl u.1 u.2.1) mo la fc bo nd mk ck ct hd pq nj fw jf dl dn oc s8 s9 s10 s11 s12) (fun u => zB D (va_A (ws) sz) (u.2.2)) (va_A (ws) sz)) (zXC (fun (E : String) (u : Unit) => zexIS (k2 (ix v0 n) (ix v1 12) (fun t g => !(mo t).isSome && fre sl g n)) E) (fun u => ws) D (va_A (ws) sz)) 2 12 (va_A (ws) sz) := by
  refine zOpenX (cc := cX4_carry) (maxL := 5) (ret := (some .int)) (own := RX4) (by decide) rfl rfl (Nat.le_of_ble_eq_true rfl) ?_
  intro p e s m below meth c ls hx hb hr hml hts hown hlocks htab ⟨⟨hZ, hP, hD0, hsz⟩, hX⟩ hl
  subst hsz
  have hD := hD0.self (sz := s.heap.size)
  generalize hAe : va_A (ws) s.heap.size = A at hD hX ⊢
  have hA : ∀ q : Nat, s.heap.size ≤ q → A q := fun q h => by rw [← hAe]; exact Or.inr h
  have hS : va_S A s.heap s.heap [] := va_S.rf
  have iX3 : ∀ w ∈ wsX30, w ∈ wsX4_carry := by decide +kernel
  have hl : lv_has ls 5 [(0, .ref (ad 0)), (1, .int (v0)), (2, .int (v1))] := hl
  have hL0 := hL
  obtain ⟨⟨l22, l23, l24, l25, l26, l27, l28, l29, l30, l31, l32, l33, l34⟩, hT, hE, hBne⟩ := hL
  obtain ⟨hn8, hd3, hj60, hIT, hID, hIJ, hIdl, hIw⟩ := hI
  refine lv_aload_n hx hb dX4_carry_0 rfl (lv_at hl 0 rfl) ?_
  refine lv_iload_n hx hb dX4_carry_1 rfl (lv_at hl 1 rfl) ?_
  refine zt_V_a (n := 1) (mc := 1) (ms := 6) (As := [.int (v0)]) (rest := []) hx hb hml hts hown hZ hX hP hD hS hA (c_X4_tapeNumbered l hlt D cA _ _ 0 (ad 0) (ad 1) n (ad 2) nd (ad 3) (ad 4) l22 1 T l23 hn8 v0) gX4_carry_X4_tapeNumbered rfl rfl ⟨rfl, rfl⟩ ⟨by decide +kernel, Nat.le_of_ble_eq_true rfl, Nat.le_of_ble_eq_true rfl⟩ l22 rfl hl.1 rfl (Nat.le_of_ble_eq_true rfl) ⟨Nat.le_of_ble_eq_true rfl, Nat.le_of_ble_eq_true rfl⟩ rfl dX4_carry_2 (fun E9 ce9 q9 u9 H locs hpx hP hD hS hz hq1 hq2 hq3 => ?_) (fun u_1 r_3 H locs hp_2 hra hP hD hS hz => ?_)
  · exact zt_out () hS hP hD (Or.inl ⟨k2_l (ix_none (by omega) hpx.2), hpx.1⟩) htab hlocks hq1 hq2 hq3 (Nat.le_of_ble_eq_true rfl) (Nat.le_of_ble_eq_true rfl)
  have hP : va_P D vwCl (ws) H := hP
  have hD : va_D A (ws) := hD
  obtain ⟨htn, hv_t⟩ := hp_2
  obtain ⟨t, rfl⟩ : ∃ z, z = u_1 := ⟨_, rfl⟩
  have hra : r_3 = T t := hra
  subst hra
  subst hv_t
  have hl : lv_has ls 5 [(0, .ref (ad 0)), (1, .int (nI (t))), (2, .int (v1))] := hl
  obtain ⟨-, -, hPT_t, hPB_t⟩ := hT t htn
  obtain ⟨htr1_t, htr8_t, hle4_t, hle200_t, hsl12_t, hmo_t, hfc10_t, hbo0_t, hbinc_t, hbtop_t⟩ := hIT t htn
  refine lv_astore_n (lv' := [(3, .ref (T t)), (0, .ref (ad 0)), (1, .int (nI (t))), (2, .int (v1))]) hx hb dX4_carry_5 rfl hl (by decide) rfl (fun ls hl => ?_)
  rcases zI_split v1 with hneg | ⟨g, hg31, rfl⟩
  · refine lv_iload_n hx hb dX4_carry_6 rfl (lv_at hl 3 rfl) ?_
    refine lv_if_lt (tgt := 16) hx hb dX4_carry_7 (by decide) (fun c_4 => ?_) (fun c_4 => absurd hneg c_4)
    exact zt_throw (cls := "java/lang/IndexOutOfBoundsException") (text := "no such slot") (ik := 67) (is := 69) (ic := 71) () hx hb hlt hown hZ hX hS hP hD (Or.inl ⟨k2_r (ix_neg hneg), rfl⟩) htab hlocks (hl.1.trans hml.symm) (by decide) (hts (.classLink RX4 67 "java/lang/IndexOutOfBoundsException") (by decide +kernel)) (hts (.initialized "java/lang/IndexOutOfBoundsException") (by decide +kernel)) (fun w hw => hts w ((by decide +kernel : ∀ w ∈ (vx_atS RX4 71 "java/lang/IndexOutOfBoundsException" ["java/lang/RuntimeException", "java/lang/Exception"]).filter goodWord, w ∈ wsX4_carry) w hw)) (by decide +kernel) (by decide +kernel) (by decide +kernel) dX4_carry_16 dX4_carry_19 dX4_carry_20 dX4_carry_22 dX4_carry_25 ⟨Nat.le_of_ble_eq_true rfl, Nat.le_of_ble_eq_true rfl, Nat.le_of_ble_eq_true rfl, Nat.le_of_ble_eq_true rfl⟩ (Nat.le_of_ble_eq_true rfl) (Nat.le_of_ble_eq_true rfl)
  · refine lv_iload_n hx hb dX4_carry_6 rfl (lv_at hl 3 rfl) ?_
    refine zf_lt (tgt := 16) hx hb (by omega) dX4_carry_7 (by decide) ?_
    refine lv_iload_n hx hb dX4_carry_10 rfl (lv_at hl 3 rfl) ?_
    refine lv_bipush (v := nI (12)) hx hb dX4_carry_11 (by decide) ?_
    refine zc_lt (tgt := 26) hx hb (by omega) (by omega) dX4_carry_13 (by decide) (fun c_6 => ?_) (fun c_6 => ?_)
    · refine lv_aload_n hx hb dX4_carry_26 rfl (lv_at hl 0 rfl) ?_
      refine zk_VN_i (n := 0) (As := []) (rest := []) hx hb hml hts hown hZ hP (c_X3_isInDrive l D cA _ (PT t) (T t) t (tr t) (le t) (sl t) (fc t) (Bd t) ((mo t)) (la t) (hT t htn).1 (fun k h => by have := (hmo_t k h).1; omega)) ggX4_carry_X3_isInDrive (List.mem_of_getElem? (i := 2) rfl) (by decide +kernel) rfl ⟨rfl, rfl⟩ ⟨by decide +kernel, Nat.le_of_ble_eq_true rfl, Nat.le_of_ble_eq_true rfl⟩ (hT t htn).1 rfl hl.1 rfl (Nat.le_of_ble_eq_true rfl) ⟨Nat.le_of_ble_eq_true rfl, Nat.le_of_ble_eq_true rfl⟩ rfl dX4_carry_27 (fun r_7 hr_8 => ?_)
      obtain rfl := show r_7 = _ from hr_8
      refine zb_ne (tgt := 41) hx hb dX4_carry_30 (by decide) (fun c_9 => ?_) (fun c_9 => ?_)
      · exact zt_throw (cls := "java/lang/IllegalStateException") (text := "tape in a drive, or slot not free") (ik := 51) (is := 80) (ic := 55) () hx hb hlt hown hZ hX hS hP hD (Or.inr ⟨k2_n (ix_in (by omega) htn) (ix_in (by omega) (by assumption)) (by first | (rw [show (mo t).isSome = true by assumption]; rfl) | (rw [show fre sl g n = false by assumption, Bool.and_false])), rfl⟩) htab hlocks (hl.1.trans hml.symm) (by decide) (hts (.classLink RX4 51 "java/lang/IllegalStateException") (by decide +kernel)) (hts (.initialized "java/lang/IllegalStateException") (by decide +kernel)) (fun w hw => hts w ((by decide +kernel : ∀ w ∈ (vx_atS RX4 55 "java/lang/IllegalStateException" ["java/lang/RuntimeException", "java/lang/Exception"]).filter goodWord, w ∈ wsX4_carry) w hw)) (by decide +kernel) (by decide +kernel) (by decide +kernel) dX4_carry_41 dX4_carry_44 dX4_carry_45 dX4_carry_47 dX4_carry_50 ⟨Nat.le_of_ble_eq_true rfl, Nat.le_of_ble_eq_true rfl, Nat.le_of_ble_eq_true rfl, Nat.le_of_ble_eq_true rfl⟩ (Nat.le_of_ble_eq_true rfl) (Nat.le_of_ble_eq_true rfl)
      · have hnn : mo t = none := Option.not_isSome_iff_eq_none.mp (by rw [show (mo t).isSome = false by assumption]; exact Bool.noConfusion)
        refine lv_aload_n hx hb dX4_carry_33 rfl (lv_at hl 1 rfl) ?_
        refine lv_iload_n hx hb dX4_carry_34 rfl (lv_at hl 3 rfl) ?_
        refine zk_V_i (n := 1) (As := [.int (nI (g))]) (rest := []) hx hb hml hts hown hZ hP (c_X4_isFree l D cA _ 0 (ad 0) (ad 1) n (ad 2) nd (ad 3) (ad 4) l22 1 T l23 hn8 PT tr le sl mo la fc Bd (fun i hi => (hT i hi).1) (fun i hi => (hIT i hi).2.2.2.2.1) g (by omega)) gX4_carry_X4_isFree rfl rfl ⟨rfl, rfl⟩ ⟨by decide +kernel, Nat.le_of_ble_eq_true rfl, Nat.le_of_ble_eq_true rfl⟩ l22 rfl hl.1 rfl (Nat.le_of_ble_eq_true rfl) ⟨Nat.le_of_ble_eq_true rfl, Nat.le_of_ble_eq_true rfl⟩ rfl dX4_carry_35 (fun r_10 hr_11 => ?_)
        obtain rfl := show r_10 = _ from hr_11
        refine zb_ne (tgt := 51) hx hb dX4_carry_38 (by decide) (fun c_12 => ?_) (fun c_12 => ?_)
        · refine lv_aload_n hx hb dX4_carry_51 rfl (lv_at hl 0 rfl) ?_
          refine va_getN (D := D) (ci := 3) (v := .int (nI (sl t))) (C := RX3) (T := TX3) (N := 8) hx hb hts iX3 hown hZ.1 hP (PT t) (hT t htn).1 rfl 3 (by decide) (va_Nw.use rfl (hZ.2 (.fieldLinkNest RX4 82 RX3 "slot" "I" "TapeRobotics") (List.mem_of_getElem? (i := 47) rfl))) (fun _ h9 => h9) rfl dX4_carry_52 ?_
          refine lv_istore (lv' := [(4, .int (nI (sl t))), (3, .ref (T t)), (0, .ref (ad 0)), (1, .int (nI (t))), (2, .int (nI (g)))]) hx hb dX4_carry_55 hl (by decide) rfl (fun ls hl => ?_)
          refine lv_aload_n hx hb dX4_carry_57 rfl (lv_at hl 1 rfl) ?_
          refine lv_iload_n hx hb dX4_carry_58 rfl (lv_at hl 4 rfl) ?_
          refine va_putN (D := D) (ci := 3) (v := .int (nI (g))) (ty := .int) (C := RX3) (T := TX3) (N := 8) hx hb hts iX3 tyX3 tyX3_ok nmX3 hown hZ.1 hP hD hS (PT t) (hT t htn).1 rfl 3 (by decide) (va_Nw.use rfl (hZ.2 (.fieldLinkNest RX4 82 RX3 "slot" "I" "TapeRobotics") (List.mem_of_getElem? (i := 47) rfl))) (fun _ h9 => h9) rfl (by decide +kernel) rfl rfl (Nat.le_of_ble_eq_true rfl) dX4_carry_59 (fun H locs hP hD hS => ?_)
          have hP : va_P D vwCl (ws.set (PT t) (T t, .inr (3, [.int (nI (t)), .int (nI (tr t)), .int (nI (le t)), .int (nI (g)), .int (oI (mo t)), .int (bI (la t)), .int (nI (fc t)), .ref (Bd t)]))) H := hP
          have hD : va_D A (ws.set (PT t) (T t, .inr (3, [.int (nI (t)), .int (nI (tr t)), .int (nI (le t)), .int (nI (g)), .int (oI (mo t)), .int (bI (la t)), .int (nI (fc t)), .ref (Bd t)]))) := hD
          refine lv_iload hx hb dX4_carry_62 (lv_at hl 0 rfl) ?_
          exact zr_ti (S := Nat × Nat × va_W) (w1 := fun u => u.2.2) (t, g, ws.set (PT t) (T t, .inr (3, [.int (nI (t)), .int (nI (tr t)), .int (nI (le t)), .int (nI (g)), .int (oI (mo t)), .int (bI (la t)), .int (nI (fc t)), .ref (Bd t)]))) hx hb hr hlocks (⟨htn, rfl, by assumption, rfl, ⟨hnn, by assumption⟩, rfl, zKeep_set zKeep_rf (by omega), by
              have h9 := zL_T hL0 hn8 htn g (mo t) (la t) (fc t)
              simp only [va_up_id] at h9
              exact h9⟩) hP hD hS (rfl) dX4_carry_64 ⟨Nat.le_of_ble_eq_true rfl, Nat.le_of_ble_eq_true rfl⟩
        · exact zt_throw (cls := "java/lang/IllegalStateException") (text := "tape in a drive, or slot not free") (ik := 51) (is := 80) (ic := 55) () hx hb hlt hown hZ hX hS hP hD (Or.inr ⟨k2_n (ix_in (by omega) htn) (ix_in (by omega) (by assumption)) (by first | (rw [show (mo t).isSome = true by assumption]; rfl) | (rw [show fre sl g n = false by assumption, Bool.and_false])), rfl⟩) htab hlocks (hl.1.trans hml.symm) (by decide) (hts (.classLink RX4 51 "java/lang/IllegalStateException") (by decide +kernel)) (hts (.initialized "java/lang/IllegalStateException") (by decide +kernel)) (fun w hw => hts w ((by decide +kernel : ∀ w ∈ (vx_atS RX4 55 "java/lang/IllegalStateException" ["java/lang/RuntimeException", "java/lang/Exception"]).filter goodWord, w ∈ wsX4_carry) w hw)) (by decide +kernel) (by decide +kernel) (by decide +kernel) dX4_carry_41 dX4_carry_44 dX4_carry_45 dX4_carry_47 dX4_carry_50 ⟨Nat.le_of_ble_eq_true rfl, Nat.le_of_ble_eq_true rfl, Nat.le_of_ble_eq_true rfl, Nat.le_of_ble_eq_true rfl⟩ (Nat.le_of_ble_eq_true rfl) (Nat.le_of_ble_eq_true rfl)
    · exact zt_throw (cls := "java/lang/IndexOutOfBoundsException") (text := "no such slot") (ik := 67) (is := 69) (ic := 71) () hx hb hlt hown hZ hX hS hP hD (Or.inl ⟨k2_r (by rw [ix_nI hg31]; exact if_neg (by omega)), rfl⟩) htab hlocks (hl.1.trans hml.symm) (by decide) (hts (.classLink RX4 67 "java/lang/IndexOutOfBoundsException") (by decide +kernel)) (hts (.initialized "java/lang/IndexOutOfBoundsException") (by decide +kernel)) (fun w hw => hts w ((by decide +kernel : ∀ w ∈ (vx_atS RX4 71 "java/lang/IndexOutOfBoundsException" ["java/lang/RuntimeException", "java/lang/Exception"]).filter goodWord, w ∈ wsX4_carry) w hw)) (by decide +kernel) (by decide +kernel) (by decide +kernel) dX4_carry_16 dX4_carry_19 dX4_carry_20 dX4_carry_22 dX4_carry_25 ⟨Nat.le_of_ble_eq_true rfl, Nat.le_of_ble_eq_true rfl, Nat.le_of_ble_eq_true rfl, Nat.le_of_ble_eq_true rfl⟩ (Nat.le_of_ble_eq_true rfl) (Nat.le_of_ble_eq_true rfl)

set_option maxHeartbeats 4000000 in
set_option maxRecDepth 100000 in
theorem c_X4_clean (l : Launch) (hlt : l.stackTraces = false) (D : va_G) (cA : Nat → ClassId) (sz : Nat) (ws : va_W) (ad : Nat → Nat) (T : Nat → Nat) (Bd : Nat → Nat) (E : Nat → Nat) (PT : Nat → Nat) (PB : Nat → Nat) (PE : Nat → Nat) (n : Nat) (tr : Nat → Nat) (le : Nat → Nat) (sl : Nat → Nat) (mo : Nat → Option Nat) (la : Nat → Bool) (fc : Nat → Nat) (bo : Nat → Nat → Nat) (nd : Nat) (mk : Nat → Nat) (ck : Nat → Int32) (ct : Nat → Nat) (hd : Nat → Option Nat) (pq : Nat → Int32) (nj : Nat) (fw : Nat → Int32) (jf : Nat → Nat) (dl : Nat → Nat) (dn : Nat) (oc : Nat) (s8 : Nat → Int32) (s9 : Nat → Int32) (s10 : Nat → Int32) (s11 : Nat → Int32) (s12 : Nat → Int32) (hL : zL cA ws ad T Bd E PT PB PE n tr le sl mo la fc bo nd mk ck ct hd pq nj fw jf dl dn oc s8 s9 s10 s11 s12) (hI : zI n tr le sl mo fc bo nd mk ct hd pq nj fw jf dl) (v0 : Int32) : vx_Met l yX4_clean wsX4_clean ({ frames := 7, cells := 2, slots := 12, locals := 118 }) (va_Pc [.ref (ad 0), .int (v0)] (zMX D cA (ws) sz)) (va_Qi (fun (r : Int32) (u : Nat × va_W) => u.1 < nd ∧ v0 = nI u.1 ∧ hd u.1 = none ∧ r = nI (ct u.1) ∧ zKeep ws u.2 ∧ zL cA u.2 ad T Bd E PT PB PE n tr le sl mo la fc bo nd mk (va_up ck u.1 (ck u.1 + nI 50)) (va_up ct u.1 0) hd pq nj fw jf dl dn oc s8 s9 s10 s11 s12) (fun u => zB D (va_A (ws) sz) (u.2)) (va_A (ws) sz)) (zXC (fun (E : String) (u : Unit) => zexIS (kS (ix v0 nd) (fun j => (hd j).isNone)) E) (fun u => ws) D (va_A (ws) sz)) 2 12 (va_A (ws) sz) := by
  refine zOpenX (cc := cX4_clean) (maxL := 4) (ret := (some .int)) (own := RX4) (by decide) rfl rfl (Nat.le_of_ble_eq_true rfl) ?_
  intro p e s m below meth c ls hx hb hr hml hts hown hlocks htab ⟨⟨hZ, hP, hD0, hsz⟩, hX⟩ hl
  subst hsz
  have hD := hD0.self (sz := s.heap.size)
  generalize hAe : va_A (ws) s.heap.size = A at hD hX ⊢
  have hA : ∀ q : Nat, s.heap.size ≤ q → A q := fun q h => by rw [← hAe]; exact Or.inr h
  have hS : va_S A s.heap s.heap [] := va_S.rf
  have iX0 : ∀ w ∈ wsX00, w ∈ wsX4_clean := by decide +kernel
  have hl : lv_has ls 4 [(0, .ref (ad 0)), (1, .int (v0))] := hl
  have hL0 := hL
  obtain ⟨⟨l22, l23, l24, l25, l26, l27, l28, l29, l30, l31, l32, l33, l34⟩, hT, hE, hBne⟩ := hL
  obtain ⟨hn8, hd3, hj60, hIT, hID, hIJ, hIdl, hIw⟩ := hI
  refine lv_aload_n hx hb dX4_clean_0 rfl (lv_at hl 0 rfl) ?_
  refine lv_iload_n hx hb dX4_clean_1 rfl (lv_at hl 1 rfl) ?_
  refine zt_V_a (n := 1) (mc := 1) (ms := 6) (As := [.int (v0)]) (rest := []) hx hb hml hts hown hZ hX hP hD hS hA (c_X4_driveNumbered l hlt D cA _ _ 0 (ad 0) (ad 1) n (ad 2) nd (ad 3) (ad 4) l22 2 E l24 hd3 v0) gX4_clean_X4_driveNumbered rfl rfl ⟨rfl, rfl⟩ ⟨by decide +kernel, Nat.le_of_ble_eq_true rfl, Nat.le_of_ble_eq_true rfl⟩ l22 rfl hl.1 rfl (Nat.le_of_ble_eq_true rfl) ⟨Nat.le_of_ble_eq_true rfl, Nat.le_of_ble_eq_true rfl⟩ rfl dX4_clean_2 (fun E9 ce9 q9 u9 H locs hpx hP hD hS hz hq1 hq2 hq3 => ?_) (fun u_1 r_3 H locs hp_2 hra hP hD hS hz => ?_)
  · exact zt_out () hS hP hD (Or.inl ⟨kS_1 (ix_none (by omega) hpx.2), hpx.1⟩) htab hlocks hq1 hq2 hq3 (Nat.le_of_ble_eq_true rfl) (Nat.le_of_ble_eq_true rfl)
  have hP : va_P D vwCl (ws) H := hP
  have hD : va_D A (ws) := hD
  obtain ⟨hjn, hv_j⟩ := hp_2
  obtain ⟨j, rfl⟩ : ∃ z, z = u_1 := ⟨_, rfl⟩
  have hra : r_3 = E j := hra
  subst hra
  subst hv_j
  have hl : lv_has ls 4 [(0, .ref (ad 0)), (1, .int (nI (j)))] := hl
  obtain ⟨-, hPE_j⟩ := hE j hjn
  obtain ⟨hmk_j, hct_j, hpn_j, hps_j⟩ := hID j hjn
  refine lv_astore_n (lv' := [(2, .ref (E j)), (0, .ref (ad 0)), (1, .int (nI (j)))]) hx hb dX4_clean_5 rfl hl (by decide) rfl (fun ls hl => ?_)
  rcases hhd : hd j with _ | t
  · refine lv_aload_n hx hb dX4_clean_6 rfl (lv_at hl 0 rfl) ?_
    refine va_getN (D := D) (ci := 0) (v := va_rf ((hd j).map T)) (C := RX0) (T := TX0) (N := 7) hx hb hts iX0 hown hZ.1 hP (PE j) (hE j hjn).1 rfl 3 (by decide) (va_Nw.use rfl (hZ.2 (.fieldLinkNest RX4 118 RX0 "mounted" "LTapeRobotics$Tape;" "TapeRobotics") (List.mem_of_getElem? (i := 52) rfl))) (fun _ h9 => h9) rfl dX4_clean_7 ?_
    refine zx_v (b := .null) (by rw [hhd]; rfl) ?_
    refine lv_ifnullN (tgt := 23) hx hb dX4_clean_10 (by decide) ?_
    refine lv_aload_n hx hb dX4_clean_23 rfl (lv_at hl 0 rfl) ?_
    refine va_getN (D := D) (ci := 0) (v := .int (nI (ct j))) (C := RX0) (T := TX0) (N := 7) hx hb hts iX0 hown hZ.1 hP (PE j) (hE j hjn).1 rfl 6 (by decide) (va_Nw.use rfl (hZ.2 (.fieldLinkNest RX4 168 RX0 "filesSinceCleaning" "I" "TapeRobotics") (List.mem_of_getElem? (i := 56) rfl))) (fun _ h9 => h9) rfl dX4_clean_24 ?_
    refine lv_istore_n (lv' := [(3, .int (nI (ct j))), (2, .ref (E j)), (0, .ref (ad 0)), (1, .int (nI (j)))]) hx hb dX4_clean_27 rfl hl (by decide) rfl (fun ls hl => ?_)
    refine lv_aload_n hx hb dX4_clean_28 rfl (lv_at hl 1 rfl) ?_
    refine lv_iconst (v := nI (0)) hx hb dX4_clean_29 (by decide) ?_
    refine va_putN (D := D) (ci := 0) (v := .int (nI (0))) (ty := .int) (C := RX0) (T := TX0) (N := 7) hx hb hts iX0 tyX0 tyX0_ok nmX0 hown hZ.1 hP hD hS (PE j) (hE j hjn).1 rfl 6 (by decide) (va_Nw.use rfl (hZ.2 (.fieldLinkNest RX4 168 RX0 "filesSinceCleaning" "I" "TapeRobotics") (List.mem_of_getElem? (i := 56) rfl))) (fun _ h9 => h9) rfl (by decide +kernel) rfl rfl (Nat.le_of_ble_eq_true rfl) dX4_clean_30 (fun H locs hP hD hS => ?_)
    have hP : va_P D vwCl (ws.set (PE j) (E j, .inr (0, [.int (nI (j)), .int (nI (zpa (mk j))), .int (nI (zsp (mk j))), va_rf ((hd j).map T), .int (pq j), .int (ck j), .int (nI (0))]))) H := hP
    have hD : va_D A (ws.set (PE j) (E j, .inr (0, [.int (nI (j)), .int (nI (zpa (mk j))), .int (nI (zsp (mk j))), va_rf ((hd j).map T), .int (pq j), .int (ck j), .int (nI (0))]))) := hD
    refine lv_aload_n hx hb dX4_clean_33 rfl (lv_at hl 1 rfl) ?_
    refine lv_bipush (v := nI (50)) hx hb dX4_clean_34 (by decide) ?_
    refine zw_VN_i (n := 1) (mc := 0) (ms := 0) (As := [.int (nI (50))]) (rest := []) (w1 := fun _ : Unit => (ws.set (PE j) (E j, .inr (0, [.int (nI (j)), .int (nI (zpa (mk j))), .int (nI (zsp (mk j))), va_rf ((hd j).map T), .int (pq j), .int (ck j), .int (nI (0))]))).set (PE j) (E j, .inr (0, [.int (nI (j)), .int (nI (zpa (mk j))), .int (nI (zsp (mk j))), va_rf ((hd j).map T), .int (pq j), .int (ck j + (nI (50))), .int (nI (0))]))) hx hb hml hts hown hZ hP hD hS hA (c_X0_spend l D cA _ _ (PE j) (E j) j (zpa (mk j)) (zsp (mk j)) ((hd j).map T) (pq j) (ck j) 0 (zset_s (hE j hjn).1) (nI (50))) ggX4_clean_X0_spend (List.mem_of_getElem? (i := 13) rfl) (by decide +kernel) rfl ⟨rfl, rfl⟩ ⟨by decide +kernel, Nat.le_of_ble_eq_true rfl, Nat.le_of_ble_eq_true rfl⟩ (zset_s (hE j hjn).1) rfl hl.1 rfl (Nat.le_of_ble_eq_true rfl) ⟨Nat.le_of_ble_eq_true rfl, Nat.le_of_ble_eq_true rfl⟩ rfl dX4_clean_36 (fun r_4 u_6 H locs hr_5 hP hD hS hz_6 => ?_)
    obtain rfl := show r_4 = _ from hr_5
    have hP : va_P D vwCl ((ws.set (PE j) (E j, .inr (0, [.int (nI (j)), .int (nI (zpa (mk j))), .int (nI (zsp (mk j))), va_rf ((hd j).map T), .int (pq j), .int (ck j), .int (nI (0))]))).set (PE j) (E j, .inr (0, [.int (nI (j)), .int (nI (zpa (mk j))), .int (nI (zsp (mk j))), va_rf ((hd j).map T), .int (pq j), .int (ck j + (nI (50))), .int (nI (0))]))) H := hP
    have hD : va_D A ((ws.set (PE j) (E j, .inr (0, [.int (nI (j)), .int (nI (zpa (mk j))), .int (nI (zsp (mk j))), va_rf ((hd j).map T), .int (pq j), .int (ck j), .int (nI (0))]))).set (PE j) (E j, .inr (0, [.int (nI (j)), .int (nI (zpa (mk j))), .int (nI (zsp (mk j))), va_rf ((hd j).map T), .int (pq j), .int (ck j + (nI (50))), .int (nI (0))]))) := hD
    refine lv_pop hx hb dX4_clean_39 rfl ?_
    refine lv_iload_n hx hb dX4_clean_40 rfl (lv_at hl 0 rfl) ?_
    exact zr_ti (S := Nat × va_W) (w1 := fun u => u.2) (j, (ws.set (PE j) (E j, .inr (0, [.int (nI (j)), .int (nI (zpa (mk j))), .int (nI (zsp (mk j))), va_rf ((hd j).map T), .int (pq j), .int (ck j), .int (nI (0))]))).set (PE j) (E j, .inr (0, [.int (nI (j)), .int (nI (zpa (mk j))), .int (nI (zsp (mk j))), va_rf ((hd j).map T), .int (pq j), .int (ck j + (nI (50))), .int (nI (0))]))) hx hb hr hlocks (⟨hjn, rfl, hhd, rfl, zKeep_set (zKeep_set zKeep_rf (by omega)) (by omega), by
        have h8 := zL_E hL0 hd3 hjn (hd j) (pq j) (ck j) 0
        have h9 := zL_E h8 hd3 hjn (hd j) (pq j) (ck j + nI 50) 0
        simp only [va_up_id, va_up_up] at h9
        exact h9⟩) hP hD hS (rfl) dX4_clean_41 ⟨Nat.le_of_ble_eq_true rfl, Nat.le_of_ble_eq_true rfl⟩
  · refine lv_aload_n hx hb dX4_clean_6 rfl (lv_at hl 0 rfl) ?_
    refine va_getN (D := D) (ci := 0) (v := va_rf ((hd j).map T)) (C := RX0) (T := TX0) (N := 7) hx hb hts iX0 hown hZ.1 hP (PE j) (hE j hjn).1 rfl 3 (by decide) (va_Nw.use rfl (hZ.2 (.fieldLinkNest RX4 118 RX0 "mounted" "LTapeRobotics$Tape;" "TapeRobotics") (List.mem_of_getElem? (i := 52) rfl))) (fun _ h9 => h9) rfl dX4_clean_7 ?_
    refine zx_v (b := .ref (T t)) (by rw [hhd]; rfl) ?_
    refine lv_ifnull hx hb dX4_clean_10 ?_
    exact zt_throw (cls := "java/lang/IllegalStateException") (text := "drive has a tape") (ik := 51) (is := 166) (ic := 55) () hx hb hlt hown hZ hX hS hP hD (Or.inr ⟨kS_n (ix_in (by omega) hjn) (by rw [hhd]; rfl), rfl⟩) htab hlocks (hl.1.trans hml.symm) (by decide) (hts (.classLink RX4 51 "java/lang/IllegalStateException") (by decide +kernel)) (hts (.initialized "java/lang/IllegalStateException") (by decide +kernel)) (fun w hw => hts w ((by decide +kernel : ∀ w ∈ (vx_atS RX4 55 "java/lang/IllegalStateException" ["java/lang/RuntimeException", "java/lang/Exception"]).filter goodWord, w ∈ wsX4_clean) w hw)) (by decide +kernel) (by decide +kernel) (by decide +kernel) dX4_clean_13 dX4_clean_16 dX4_clean_17 dX4_clean_19 dX4_clean_22 ⟨Nat.le_of_ble_eq_true rfl, Nat.le_of_ble_eq_true rfl, Nat.le_of_ble_eq_true rfl, Nat.le_of_ble_eq_true rfl⟩ (Nat.le_of_ble_eq_true rfl) (Nat.le_of_ble_eq_true rfl)

set_option maxHeartbeats 4000000 in
set_option maxRecDepth 100000 in
theorem c_X4_mount (l : Launch) (hlt : l.stackTraces = false) (D : va_G) (cA : Nat → ClassId) (sz : Nat) (ws : va_W) (ad : Nat → Nat) (T : Nat → Nat) (Bd : Nat → Nat) (E : Nat → Nat) (PT : Nat → Nat) (PB : Nat → Nat) (PE : Nat → Nat) (n : Nat) (tr : Nat → Nat) (le : Nat → Nat) (sl : Nat → Nat) (mo : Nat → Option Nat) (la : Nat → Bool) (fc : Nat → Nat) (bo : Nat → Nat → Nat) (nd : Nat) (mk : Nat → Nat) (ck : Nat → Int32) (ct : Nat → Nat) (hd : Nat → Option Nat) (pq : Nat → Int32) (nj : Nat) (fw : Nat → Int32) (jf : Nat → Nat) (dl : Nat → Nat) (dn : Nat) (oc : Nat) (s8 : Nat → Int32) (s9 : Nat → Int32) (s10 : Nat → Int32) (s11 : Nat → Int32) (s12 : Nat → Int32) (hL : zL cA ws ad T Bd E PT PB PE n tr le sl mo la fc bo nd mk ck ct hd pq nj fw jf dl dn oc s8 s9 s10 s11 s12) (hI : zI n tr le sl mo fc bo nd mk ct hd pq nj fw jf dl) (v0 : Int32) (v1 : Int32) : vx_Met l yX4_mount wsX4_mount ({ frames := 7, cells := 3, slots := 18, locals := 118 }) (va_Pc [.ref (ad 0), .int (v0), .int (v1)] (zMX D cA (ws) sz)) (va_Qi (fun (r : Int32) (u : Nat × Nat × va_W) => u.1 < nd ∧ v0 = nI u.1 ∧ u.2.1 < n ∧ v1 = nI u.2.1 ∧ (hd u.1 = none ∧ mo u.2.1 = none ∧ la u.2.1 = true) ∧ r = nI (20 + 2 * dif (4 * u.1) (sl u.2.1)) ∧ zKeep ws u.2.2 ∧ zL cA u.2.2 ad T Bd E PT PB PE n tr le sl (va_up mo u.2.1 (some u.1)) la fc bo nd mk (va_up ck u.1 (ck u.1 + nI (20 + 2 * dif (4 * u.1) (sl u.2.1)))) ct (va_up hd u.1 (some u.2.1)) (va_up pq u.1 (nI 0)) nj fw jf dl dn oc s8 s9 s10 s11 s12) (fun u => zB D (va_A (ws) sz) (u.2.2)) (va_A (ws) sz)) (zXC (fun (E : String) (u : Unit) => zexIS (k2 (ix v0 nd) (ix v1 n) (fun j t => (hd j).isNone && !(mo t).isSome && la t)) E) (fun u => ws) D (va_A (ws) sz)) 3 18 (va_A (ws) sz) := by
  refine zOpenX (cc := cX4_mount) (maxL := 5) (ret := (some .int)) (own := RX4) (by decide) rfl rfl (Nat.le_of_ble_eq_true rfl) ?_
  intro p e s m below meth c ls hx hb hr hml hts hown hlocks htab ⟨⟨hZ, hP, hD0, hsz⟩, hX⟩ hl
  subst hsz
  have hD := hD0.self (sz := s.heap.size)
  generalize hAe : va_A (ws) s.heap.size = A at hD hX ⊢
  have hA : ∀ q : Nat, s.heap.size ≤ q → A q := fun q h => by rw [← hAe]; exact Or.inr h
  have hS : va_S A s.heap s.heap [] := va_S.rf
  have iX0 : ∀ w ∈ wsX00, w ∈ wsX4_mount := by decide +kernel
  have iX3 : ∀ w ∈ wsX30, w ∈ wsX4_mount := by decide +kernel
  have hl : lv_has ls 5 [(0, .ref (ad 0)), (1, .int (v0)), (2, .int (v1))] := hl
  have hL0 := hL
  obtain ⟨⟨l22, l23, l24, l25, l26, l27, l28, l29, l30, l31, l32, l33, l34⟩, hT, hE, hBne⟩ := hL
  obtain ⟨hn8, hd3, hj60, hIT, hID, hIJ, hIdl, hIw⟩ := hI
  refine lv_aload_n hx hb dX4_mount_0 rfl (lv_at hl 0 rfl) ?_
  refine lv_iload_n hx hb dX4_mount_1 rfl (lv_at hl 1 rfl) ?_
  refine zt_V_a (n := 1) (mc := 1) (ms := 6) (As := [.int (v0)]) (rest := []) hx hb hml hts hown hZ hX hP hD hS hA (c_X4_driveNumbered l hlt D cA _ _ 0 (ad 0) (ad 1) n (ad 2) nd (ad 3) (ad 4) l22 2 E l24 hd3 v0) gX4_mount_X4_driveNumbered rfl rfl ⟨rfl, rfl⟩ ⟨by decide +kernel, Nat.le_of_ble_eq_true rfl, Nat.le_of_ble_eq_true rfl⟩ l22 rfl hl.1 rfl (Nat.le_of_ble_eq_true rfl) ⟨Nat.le_of_ble_eq_true rfl, Nat.le_of_ble_eq_true rfl⟩ rfl dX4_mount_2 (fun E9 ce9 q9 u9 H locs hpx hP hD hS hz hq1 hq2 hq3 => ?_) (fun u_1 r_3 H locs hp_2 hra hP hD hS hz => ?_)
  · exact zt_out () hS hP hD (Or.inl ⟨k2_l (ix_none (by omega) hpx.2), hpx.1⟩) htab hlocks hq1 hq2 hq3 (Nat.le_of_ble_eq_true rfl) (Nat.le_of_ble_eq_true rfl)
  have hP : va_P D vwCl (ws) H := hP
  have hD : va_D A (ws) := hD
  obtain ⟨hjn, hv_j⟩ := hp_2
  obtain ⟨j, rfl⟩ : ∃ z, z = u_1 := ⟨_, rfl⟩
  have hra : r_3 = E j := hra
  subst hra
  subst hv_j
  have hl : lv_has ls 5 [(0, .ref (ad 0)), (1, .int (nI (j))), (2, .int (v1))] := hl
  obtain ⟨-, hPE_j⟩ := hE j hjn
  obtain ⟨hmk_j, hct_j, hpn_j, hps_j⟩ := hID j hjn
  refine lv_astore_n (lv' := [(3, .ref (E j)), (0, .ref (ad 0)), (1, .int (nI (j))), (2, .int (v1))]) hx hb dX4_mount_5 rfl hl (by decide) rfl (fun ls hl => ?_)
  refine lv_aload_n hx hb dX4_mount_6 rfl (lv_at hl 1 rfl) ?_
  refine lv_iload_n hx hb dX4_mount_7 rfl (lv_at hl 3 rfl) ?_
  refine zt_V_a (n := 1) (mc := 1) (ms := 6) (As := [.int (v1)]) (rest := []) hx hb hml hts hown hZ hX hP hD hS hA (c_X4_tapeNumbered l hlt D cA _ _ 0 (ad 0) (ad 1) n (ad 2) nd (ad 3) (ad 4) l22 1 T l23 hn8 v1) gX4_mount_X4_tapeNumbered rfl rfl ⟨rfl, rfl⟩ ⟨by decide +kernel, Nat.le_of_ble_eq_true rfl, Nat.le_of_ble_eq_true rfl⟩ l22 rfl hl.1 rfl (Nat.le_of_ble_eq_true rfl) ⟨Nat.le_of_ble_eq_true rfl, Nat.le_of_ble_eq_true rfl⟩ rfl dX4_mount_8 (fun E9 ce9 q9 u9 H locs hpx hP hD hS hz hq1 hq2 hq3 => ?_) (fun u_4 r_6 H locs hp_5 hra hP hD hS hz => ?_)
  · exact zt_out () hS hP hD (Or.inl ⟨k2_r (ix_none (by omega) hpx.2), hpx.1⟩) htab hlocks hq1 hq2 hq3 (Nat.le_of_ble_eq_true rfl) (Nat.le_of_ble_eq_true rfl)
  have hP : va_P D vwCl (ws) H := hP
  have hD : va_D A (ws) := hD
  obtain ⟨htn, hv_t⟩ := hp_5
  obtain ⟨t, rfl⟩ : ∃ z, z = u_4 := ⟨_, rfl⟩
  have hra : r_6 = T t := hra
  subst hra
  subst hv_t
  have hl : lv_has ls 5 [(3, .ref (E j)), (0, .ref (ad 0)), (1, .int (nI (j))), (2, .int (nI (t)))] := hl
  obtain ⟨-, -, hPT_t, hPB_t⟩ := hT t htn
  obtain ⟨htr1_t, htr8_t, hle4_t, hle200_t, hsl12_t, hmo_t, hfc10_t, hbo0_t, hbinc_t, hbtop_t⟩ := hIT t htn
  refine lv_astore (lv' := [(4, .ref (T t)), (3, .ref (E j)), (0, .ref (ad 0)), (1, .int (nI (j))), (2, .int (nI (t)))]) hx hb dX4_mount_11 hl (by decide) rfl (fun ls hl => ?_)
  rcases hhd : hd j with _ | t9
  · refine lv_aload_n hx hb dX4_mount_13 rfl (lv_at hl 1 rfl) ?_
    refine va_getN (D := D) (ci := 0) (v := va_rf ((hd j).map T)) (C := RX0) (T := TX0) (N := 7) hx hb hts iX0 hown hZ.1 hP (PE j) (hE j hjn).1 rfl 3 (by decide) (va_Nw.use rfl (hZ.2 (.fieldLinkNest RX4 118 RX0 "mounted" "LTapeRobotics$Tape;" "TapeRobotics") (List.mem_of_getElem? (i := 52) rfl))) (fun _ h9 => h9) rfl dX4_mount_14 ?_
    refine zx_v (b := .null) (by rw [hhd]; rfl) ?_
    refine lv_ifnonnullN hx hb dX4_mount_17 ?_
    refine lv_aload hx hb dX4_mount_20 (lv_at hl 0 rfl) ?_
    refine zk_VN_i (n := 0) (As := []) (rest := []) hx hb hml hts hown hZ hP (c_X3_isInDrive l D cA _ (PT t) (T t) t (tr t) (le t) (sl t) (fc t) (Bd t) ((mo t)) (la t) (hT t htn).1 (fun k h => by have := (hmo_t k h).1; omega)) ggX4_mount_X3_isInDrive (List.mem_of_getElem? (i := 2) rfl) (by decide +kernel) rfl ⟨rfl, rfl⟩ ⟨by decide +kernel, Nat.le_of_ble_eq_true rfl, Nat.le_of_ble_eq_true rfl⟩ (hT t htn).1 rfl hl.1 rfl (Nat.le_of_ble_eq_true rfl) ⟨Nat.le_of_ble_eq_true rfl, Nat.le_of_ble_eq_true rfl⟩ rfl dX4_mount_22 (fun r_7 hr_8 => ?_)
    obtain rfl := show r_7 = _ from hr_8
    refine zb_ne (tgt := 36) hx hb dX4_mount_25 (by decide) (fun c_9 => ?_) (fun c_9 => ?_)
    · exact zt_throw (cls := "java/lang/IllegalStateException") (text := "drive or tape not ready to mount") (ik := 51) (is := 126) (ic := 55) () hx hb hlt hown hZ hX hS hP hD (Or.inr ⟨k2_n (ix_in (by omega) hjn) (ix_in (by omega) htn) (by first | (rw [hhd]; rfl; done) | (rw [show (mo t).isSome = true by assumption, Bool.not_true, Bool.and_false, Bool.false_and]) | (rw [show la t = false by assumption, Bool.and_false])), rfl⟩) htab hlocks (hl.1.trans hml.symm) (by decide) (hts (.classLink RX4 51 "java/lang/IllegalStateException") (by decide +kernel)) (hts (.initialized "java/lang/IllegalStateException") (by decide +kernel)) (fun w hw => hts w ((by decide +kernel : ∀ w ∈ (vx_atS RX4 55 "java/lang/IllegalStateException" ["java/lang/RuntimeException", "java/lang/Exception"]).filter goodWord, w ∈ wsX4_mount) w hw)) (by decide +kernel) (by decide +kernel) (by decide +kernel) dX4_mount_36 dX4_mount_39 dX4_mount_40 dX4_mount_42 dX4_mount_45 ⟨Nat.le_of_ble_eq_true rfl, Nat.le_of_ble_eq_true rfl, Nat.le_of_ble_eq_true rfl, Nat.le_of_ble_eq_true rfl⟩ (Nat.le_of_ble_eq_true rfl) (Nat.le_of_ble_eq_true rfl)
    · refine lv_aload hx hb dX4_mount_28 (lv_at hl 0 rfl) ?_
      refine va_getN (D := D) (ci := 3) (v := .int (bI (la t))) (C := RX3) (T := TX3) (N := 8) hx hb hts iX3 hown hZ.1 hP (PT t) (hT t htn).1 rfl 5 (by decide) (va_Nw.use rfl (hZ.2 (.fieldLinkNest RX4 122 RX3 "hasLabel" "Z" "TapeRobotics") (List.mem_of_getElem? (i := 49) rfl))) (fun _ h9 => h9) rfl dX4_mount_30 ?_
      refine zb_ne (tgt := 46) hx hb dX4_mount_33 (by decide) (fun c_10 => ?_) (fun c_10 => ?_)
      · have hnn : mo t = none := Option.not_isSome_iff_eq_none.mp (by rw [show (mo t).isSome = false by assumption]; exact Bool.noConfusion)
        refine lv_aload_n hx hb dX4_mount_46 rfl (lv_at hl 1 rfl) ?_
        refine lv_aload hx hb dX4_mount_47 (lv_at hl 0 rfl) ?_
        refine va_putN (D := D) (ci := 0) (v := .ref (T t)) (ty := tyX0 3) (C := RX0) (T := TX0) (N := 7) hx hb hts iX0 tyX0 tyX0_ok nmX0 hown hZ.1 hP hD hS (PE j) (hE j hjn).1 rfl 3 (by decide) (va_Nw.use rfl (hZ.2 (.fieldLinkNest RX4 118 RX0 "mounted" "LTapeRobotics$Tape;" "TapeRobotics") (List.mem_of_getElem? (i := 52) rfl))) (fun _ h9 => h9) rfl (by decide +kernel) rfl rfl (Nat.le_of_ble_eq_true rfl) dX4_mount_49 (fun H locs hP hD hS => ?_)
        have hP : va_P D vwCl (ws.set (PE j) (E j, .inr (0, [.int (nI (j)), .int (nI (zpa (mk j))), .int (nI (zsp (mk j))), .ref (T t), .int (pq j), .int (ck j), .int (nI (ct j))]))) H := hP
        have hD : va_D A (ws.set (PE j) (E j, .inr (0, [.int (nI (j)), .int (nI (zpa (mk j))), .int (nI (zsp (mk j))), .ref (T t), .int (pq j), .int (ck j), .int (nI (ct j))]))) := hD
        refine lv_aload_n hx hb dX4_mount_52 rfl (lv_at hl 1 rfl) ?_
        refine lv_iconst (v := nI (0)) hx hb dX4_mount_53 (by decide) ?_
        refine va_putN (D := D) (ci := 0) (v := .int (nI (0))) (ty := .int) (C := RX0) (T := TX0) (N := 7) hx hb hts iX0 tyX0 tyX0_ok nmX0 hown hZ.1 hP hD hS (PE j) (zset_s (hE j hjn).1) rfl 4 (by decide) (va_Nw.use rfl (hZ.2 (.fieldLinkNest RX4 128 RX0 "place" "I" "TapeRobotics") (List.mem_of_getElem? (i := 54) rfl))) (fun _ h9 => h9) rfl (by decide +kernel) rfl rfl (Nat.le_of_ble_eq_true rfl) dX4_mount_54 (fun H locs hP hD hS => ?_)
        have hP : va_P D vwCl ((ws.set (PE j) (E j, .inr (0, [.int (nI (j)), .int (nI (zpa (mk j))), .int (nI (zsp (mk j))), .ref (T t), .int (pq j), .int (ck j), .int (nI (ct j))]))).set (PE j) (E j, .inr (0, [.int (nI (j)), .int (nI (zpa (mk j))), .int (nI (zsp (mk j))), .ref (T t), .int (nI (0)), .int (ck j), .int (nI (ct j))]))) H := hP
        have hD : va_D A ((ws.set (PE j) (E j, .inr (0, [.int (nI (j)), .int (nI (zpa (mk j))), .int (nI (zsp (mk j))), .ref (T t), .int (pq j), .int (ck j), .int (nI (ct j))]))).set (PE j) (E j, .inr (0, [.int (nI (j)), .int (nI (zpa (mk j))), .int (nI (zsp (mk j))), .ref (T t), .int (nI (0)), .int (ck j), .int (nI (ct j))]))) := hD
        refine lv_aload hx hb dX4_mount_57 (lv_at hl 0 rfl) ?_
        refine lv_aload_n hx hb dX4_mount_59 rfl (lv_at hl 1 rfl) ?_
        refine va_getN (D := D) (ci := 0) (v := .int (nI (j))) (C := RX0) (T := TX0) (N := 7) hx hb hts iX0 hown hZ.1 hP (PE j) (zset_s (zset_s (hE j hjn).1)) rfl 0 (by decide) (va_Nw.use rfl (hZ.2 (.fieldLinkNest RX4 131 RX0 "number" "I" "TapeRobotics") (List.mem_of_getElem? (i := 51) rfl))) (fun _ h9 => h9) rfl dX4_mount_60 ?_
        refine va_putN (D := D) (ci := 3) (v := .int (nI (j))) (ty := .int) (C := RX3) (T := TX3) (N := 8) hx hb hts iX3 tyX3 tyX3_ok nmX3 hown hZ.1 hP hD hS (PT t) (zset_n (zset_n (hT t htn).1 (zapc (hE j hjn).1 (hT t htn).1 (by decide))) (zapc (hE j hjn).1 (hT t htn).1 (by decide))) rfl 4 (by decide) (va_Nw.use rfl (hZ.2 (.fieldLinkNest RX4 85 RX3 "driveNumber" "I" "TapeRobotics") (List.mem_of_getElem? (i := 48) rfl))) (fun _ h9 => h9) rfl (by decide +kernel) rfl rfl (Nat.le_of_ble_eq_true rfl) dX4_mount_63 (fun H locs hP hD hS => ?_)
        have hP : va_P D vwCl (((ws.set (PE j) (E j, .inr (0, [.int (nI (j)), .int (nI (zpa (mk j))), .int (nI (zsp (mk j))), .ref (T t), .int (pq j), .int (ck j), .int (nI (ct j))]))).set (PE j) (E j, .inr (0, [.int (nI (j)), .int (nI (zpa (mk j))), .int (nI (zsp (mk j))), .ref (T t), .int (nI (0)), .int (ck j), .int (nI (ct j))]))).set (PT t) (T t, .inr (3, [.int (nI (t)), .int (nI (tr t)), .int (nI (le t)), .int (nI (sl t)), .int (nI (j)), .int (bI (la t)), .int (nI (fc t)), .ref (Bd t)]))) H := hP
        have hD : va_D A (((ws.set (PE j) (E j, .inr (0, [.int (nI (j)), .int (nI (zpa (mk j))), .int (nI (zsp (mk j))), .ref (T t), .int (pq j), .int (ck j), .int (nI (ct j))]))).set (PE j) (E j, .inr (0, [.int (nI (j)), .int (nI (zpa (mk j))), .int (nI (zsp (mk j))), .ref (T t), .int (nI (0)), .int (ck j), .int (nI (ct j))]))).set (PT t) (T t, .inr (3, [.int (nI (t)), .int (nI (tr t)), .int (nI (le t)), .int (nI (sl t)), .int (nI (j)), .int (bI (la t)), .int (nI (fc t)), .ref (Bd t)]))) := hD
        refine lv_aload_n hx hb dX4_mount_66 rfl (lv_at hl 1 rfl) ?_
        refine lv_aload_n hx hb dX4_mount_67 rfl (lv_at hl 1 rfl) ?_
        refine lv_aload hx hb dX4_mount_68 (lv_at hl 0 rfl) ?_
        refine va_getN (D := D) (ci := 3) (v := .int (nI (sl t))) (C := RX3) (T := TX3) (N := 8) hx hb hts iX3 hown hZ.1 hP (PT t) (zset_s (zset_n (zset_n (hT t htn).1 (zapc (hE j hjn).1 (hT t htn).1 (by decide))) (zapc (hE j hjn).1 (hT t htn).1 (by decide)))) rfl 3 (by decide) (va_Nw.use rfl (hZ.2 (.fieldLinkNest RX4 82 RX3 "slot" "I" "TapeRobotics") (List.mem_of_getElem? (i := 47) rfl))) (fun _ h9 => h9) rfl dX4_mount_70 ?_
        refine zk_VN_i (n := 1) (As := [.int (nI (sl t))]) (rest := [.ref (E j)]) hx hb hml hts hown hZ hP (c_X0_robotTime l D cA _ (PE j) (E j) j (zpa (mk j)) (zsp (mk j)) (T t) (nI (0)) (ck j) (ct j) (zset_n (zset_s (zset_s (hE j hjn).1)) (zapc (hT t htn).1 (hE j hjn).1 (by decide))) (sl t) (by omega) (by omega)) ggX4_mount_X0_robotTime (List.mem_of_getElem? (i := 12) rfl) (by decide +kernel) rfl ⟨rfl, rfl⟩ ⟨by decide +kernel, Nat.le_of_ble_eq_true rfl, Nat.le_of_ble_eq_true rfl⟩ (zset_n (zset_s (zset_s (hE j hjn).1)) (zapc (hT t htn).1 (hE j hjn).1 (by decide))) rfl hl.1 rfl (Nat.le_of_ble_eq_true rfl) ⟨Nat.le_of_ble_eq_true rfl, Nat.le_of_ble_eq_true rfl⟩ rfl dX4_mount_73 (fun r_11 hr_12 => ?_)
        obtain rfl := show r_11 = _ from hr_12
        refine zw_VN_i (n := 1) (mc := 0) (ms := 0) (As := [.int (nI (20 + 2 * dif (4 * j) (sl t)))]) (rest := []) (w1 := fun _ : Unit => (((ws.set (PE j) (E j, .inr (0, [.int (nI (j)), .int (nI (zpa (mk j))), .int (nI (zsp (mk j))), .ref (T t), .int (pq j), .int (ck j), .int (nI (ct j))]))).set (PE j) (E j, .inr (0, [.int (nI (j)), .int (nI (zpa (mk j))), .int (nI (zsp (mk j))), .ref (T t), .int (nI (0)), .int (ck j), .int (nI (ct j))]))).set (PT t) (T t, .inr (3, [.int (nI (t)), .int (nI (tr t)), .int (nI (le t)), .int (nI (sl t)), .int (nI (j)), .int (bI (la t)), .int (nI (fc t)), .ref (Bd t)]))).set (PE j) (E j, .inr (0, [.int (nI (j)), .int (nI (zpa (mk j))), .int (nI (zsp (mk j))), .ref (T t), .int (nI (0)), .int (ck j + (nI (20 + 2 * dif (4 * j) (sl t)))), .int (nI (ct j))]))) hx hb hml hts hown hZ hP hD hS hA (c_X0_spend l D cA _ _ (PE j) (E j) j (zpa (mk j)) (zsp (mk j)) (T t) (nI (0)) (ck j) (ct j) (zset_n (zset_s (zset_s (hE j hjn).1)) (zapc (hT t htn).1 (hE j hjn).1 (by decide))) (nI (20 + 2 * dif (4 * j) (sl t)))) ggX4_mount_X0_spend (List.mem_of_getElem? (i := 13) rfl) (by decide +kernel) rfl ⟨rfl, rfl⟩ ⟨by decide +kernel, Nat.le_of_ble_eq_true rfl, Nat.le_of_ble_eq_true rfl⟩ (zset_n (zset_s (zset_s (hE j hjn).1)) (zapc (hT t htn).1 (hE j hjn).1 (by decide))) rfl hl.1 rfl (Nat.le_of_ble_eq_true rfl) ⟨Nat.le_of_ble_eq_true rfl, Nat.le_of_ble_eq_true rfl⟩ rfl dX4_mount_76 (fun r_13 u_15 H locs hr_14 hP hD hS hz_15 => ?_)
        obtain rfl := show r_13 = _ from hr_14
        have hP : va_P D vwCl ((((ws.set (PE j) (E j, .inr (0, [.int (nI (j)), .int (nI (zpa (mk j))), .int (nI (zsp (mk j))), .ref (T t), .int (pq j), .int (ck j), .int (nI (ct j))]))).set (PE j) (E j, .inr (0, [.int (nI (j)), .int (nI (zpa (mk j))), .int (nI (zsp (mk j))), .ref (T t), .int (nI (0)), .int (ck j), .int (nI (ct j))]))).set (PT t) (T t, .inr (3, [.int (nI (t)), .int (nI (tr t)), .int (nI (le t)), .int (nI (sl t)), .int (nI (j)), .int (bI (la t)), .int (nI (fc t)), .ref (Bd t)]))).set (PE j) (E j, .inr (0, [.int (nI (j)), .int (nI (zpa (mk j))), .int (nI (zsp (mk j))), .ref (T t), .int (nI (0)), .int (ck j + (nI (20 + 2 * dif (4 * j) (sl t)))), .int (nI (ct j))]))) H := hP
        have hD : va_D A ((((ws.set (PE j) (E j, .inr (0, [.int (nI (j)), .int (nI (zpa (mk j))), .int (nI (zsp (mk j))), .ref (T t), .int (pq j), .int (ck j), .int (nI (ct j))]))).set (PE j) (E j, .inr (0, [.int (nI (j)), .int (nI (zpa (mk j))), .int (nI (zsp (mk j))), .ref (T t), .int (nI (0)), .int (ck j), .int (nI (ct j))]))).set (PT t) (T t, .inr (3, [.int (nI (t)), .int (nI (tr t)), .int (nI (le t)), .int (nI (sl t)), .int (nI (j)), .int (bI (la t)), .int (nI (fc t)), .ref (Bd t)]))).set (PE j) (E j, .inr (0, [.int (nI (j)), .int (nI (zpa (mk j))), .int (nI (zsp (mk j))), .ref (T t), .int (nI (0)), .int (ck j + (nI (20 + 2 * dif (4 * j) (sl t)))), .int (nI (ct j))]))) := hD
        exact zr_ti (S := Nat × Nat × va_W) (w1 := fun u => u.2.2) (j, t, (((ws.set (PE j) (E j, .inr (0, [.int (nI (j)), .int (nI (zpa (mk j))), .int (nI (zsp (mk j))), .ref (T t), .int (pq j), .int (ck j), .int (nI (ct j))]))).set (PE j) (E j, .inr (0, [.int (nI (j)), .int (nI (zpa (mk j))), .int (nI (zsp (mk j))), .ref (T t), .int (nI (0)), .int (ck j), .int (nI (ct j))]))).set (PT t) (T t, .inr (3, [.int (nI (t)), .int (nI (tr t)), .int (nI (le t)), .int (nI (sl t)), .int (nI (j)), .int (bI (la t)), .int (nI (fc t)), .ref (Bd t)]))).set (PE j) (E j, .inr (0, [.int (nI (j)), .int (nI (zpa (mk j))), .int (nI (zsp (mk j))), .ref (T t), .int (nI (0)), .int (ck j + (nI (20 + 2 * dif (4 * j) (sl t)))), .int (nI (ct j))]))) hx hb hr hlocks (⟨hjn, rfl, htn, rfl, ⟨hhd, hnn, by assumption⟩, rfl, zKeep_set (zKeep_set (zKeep_set (zKeep_set zKeep_rf (by omega)) (by omega)) (by omega)) (by omega), by
            have h6 := zL_E hL0 hd3 hjn (some t) (pq j) (ck j) (ct j)
            have h7 := zL_E h6 hd3 hjn (some t) (nI 0) (ck j) (ct j)
            have h8 := zL_T h7 hn8 htn (sl t) (some j) (la t) (fc t)
            have h9 := zL_E h8 hd3 hjn (some t) (nI 0) (ck j + nI (20 + 2 * dif (4 * j) (sl t))) (ct j)
            simp only [va_up_id, va_up_up] at h9
            exact h9⟩) hP hD hS (rfl) dX4_mount_79 ⟨Nat.le_of_ble_eq_true rfl, Nat.le_of_ble_eq_true rfl⟩
      · exact zt_throw (cls := "java/lang/IllegalStateException") (text := "drive or tape not ready to mount") (ik := 51) (is := 126) (ic := 55) () hx hb hlt hown hZ hX hS hP hD (Or.inr ⟨k2_n (ix_in (by omega) hjn) (ix_in (by omega) htn) (by first | (rw [hhd]; rfl; done) | (rw [show (mo t).isSome = true by assumption, Bool.not_true, Bool.and_false, Bool.false_and]) | (rw [show la t = false by assumption, Bool.and_false])), rfl⟩) htab hlocks (hl.1.trans hml.symm) (by decide) (hts (.classLink RX4 51 "java/lang/IllegalStateException") (by decide +kernel)) (hts (.initialized "java/lang/IllegalStateException") (by decide +kernel)) (fun w hw => hts w ((by decide +kernel : ∀ w ∈ (vx_atS RX4 55 "java/lang/IllegalStateException" ["java/lang/RuntimeException", "java/lang/Exception"]).filter goodWord, w ∈ wsX4_mount) w hw)) (by decide +kernel) (by decide +kernel) (by decide +kernel) dX4_mount_36 dX4_mount_39 dX4_mount_40 dX4_mount_42 dX4_mount_45 ⟨Nat.le_of_ble_eq_true rfl, Nat.le_of_ble_eq_true rfl, Nat.le_of_ble_eq_true rfl, Nat.le_of_ble_eq_true rfl⟩ (Nat.le_of_ble_eq_true rfl) (Nat.le_of_ble_eq_true rfl)
  · refine lv_aload_n hx hb dX4_mount_13 rfl (lv_at hl 1 rfl) ?_
    refine va_getN (D := D) (ci := 0) (v := va_rf ((hd j).map T)) (C := RX0) (T := TX0) (N := 7) hx hb hts iX0 hown hZ.1 hP (PE j) (hE j hjn).1 rfl 3 (by decide) (va_Nw.use rfl (hZ.2 (.fieldLinkNest RX4 118 RX0 "mounted" "LTapeRobotics$Tape;" "TapeRobotics") (List.mem_of_getElem? (i := 52) rfl))) (fun _ h9 => h9) rfl dX4_mount_14 ?_
    refine zx_v (b := .ref (T t9)) (by rw [hhd]; rfl) ?_
    refine lv_ifnonnull (tgt := 36) hx hb dX4_mount_17 (by decide) ?_
    exact zt_throw (cls := "java/lang/IllegalStateException") (text := "drive or tape not ready to mount") (ik := 51) (is := 126) (ic := 55) () hx hb hlt hown hZ hX hS hP hD (Or.inr ⟨k2_n (ix_in (by omega) hjn) (ix_in (by omega) htn) (by first | (rw [hhd]; rfl; done) | (rw [show (mo t).isSome = true by assumption, Bool.not_true, Bool.and_false, Bool.false_and]) | (rw [show la t = false by assumption, Bool.and_false])), rfl⟩) htab hlocks (hl.1.trans hml.symm) (by decide) (hts (.classLink RX4 51 "java/lang/IllegalStateException") (by decide +kernel)) (hts (.initialized "java/lang/IllegalStateException") (by decide +kernel)) (fun w hw => hts w ((by decide +kernel : ∀ w ∈ (vx_atS RX4 55 "java/lang/IllegalStateException" ["java/lang/RuntimeException", "java/lang/Exception"]).filter goodWord, w ∈ wsX4_mount) w hw)) (by decide +kernel) (by decide +kernel) (by decide +kernel) dX4_mount_36 dX4_mount_39 dX4_mount_40 dX4_mount_42 dX4_mount_45 ⟨Nat.le_of_ble_eq_true rfl, Nat.le_of_ble_eq_true rfl, Nat.le_of_ble_eq_true rfl, Nat.le_of_ble_eq_true rfl⟩ (Nat.le_of_ble_eq_true rfl) (Nat.le_of_ble_eq_true rfl)
