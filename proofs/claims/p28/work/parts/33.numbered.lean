set_option maxHeartbeats 4000000 in
set_option maxRecDepth 100000 in
theorem c_X4_tapeNumbered (l : Launch) (hlt : l.stackTraces = false) (D : va_G) (cA : Nat → ClassId) (sz : Nat) (ws : va_W) (k0 h0 ta n da nd jj oo : Nat) (hk : ws[k0]? = some (h0, zTR ta n da nd jj oo)) (kt : Nat) (T : Nat → Nat) (hkt : ws[kt]? = some (ta, zRefs cA 1 8 (rng n T))) (hn8 : n ≤ 8) (v0 : Int32) : vx_Met l yX4_tapeNumbered wsX4_tapeNumbered ({ frames := 6, cells := 1, slots := 6, locals := 96 }) (va_Pc [.ref h0, .int (v0)] (zMX D cA (ws) sz)) (va_Qr (fun u : Nat => u < n ∧ v0 = nI u) (fun u a t => a = T u ∧ zB D (va_A (ws) sz) (ws) t) (va_A (ws) sz)) (zXC (fun (E : String) (u : Unit) => E = eI ∧ ∀ j, j < n → v0 ≠ nI j) (fun u => ws) D (va_A (ws) sz)) 1 6 (va_A (ws) sz) := by
  refine zOpenX (cc := cX4_tapeNumbered) (maxL := 3) (ret := (some (.object "TapeRobotics$Tape"))) (own := RX4) (by decide) rfl rfl (Nat.le_of_ble_eq_true rfl) ?_
  intro p e s m below meth c ls hx hb hr hml hts hown hlocks htab ⟨⟨hZ, hP, hD0, hsz⟩, hX⟩ hl
  subst hsz
  have hD := hD0.self (sz := s.heap.size)
  generalize hAe : va_A (ws) s.heap.size = A at hD hX ⊢
  have hA : ∀ q : Nat, s.heap.size ≤ q → A q := fun q h => by rw [← hAe]; exact Or.inr h
  have hS : va_S A s.heap s.heap [] := va_S.rf
  have iX4 : ∀ w ∈ wsX40, w ∈ wsX4_tapeNumbered := by decide +kernel
  have hl : lv_has ls 3 [(0, .ref h0), (1, .int (v0))] := hl
  rcases zI_split v0 with hneg | ⟨j, hj31, rfl⟩
  · have hno : ∀ j, j < n → v0 ≠ nI j := fun j hj q => by rw [q] at hneg; exact absurd hneg (nI_pos (by omega))
    refine lv_iload_n hx hb dX4_tapeNumbered_0 rfl (lv_at hl 1 rfl) ?_
    refine lv_if_lt (tgt := 22) hx hb dX4_tapeNumbered_1 (by decide) (fun c_1 => ?_) (fun c_1 => absurd hneg c_1)
    refine lv_null hx hb dX4_tapeNumbered_22 ?_
    refine lv_astore_nN (lv' := [(2, .null), (0, .ref h0), (1, .int (v0))]) hx hb dX4_tapeNumbered_23 rfl hl (by decide) rfl (fun ls hl => ?_)
    refine lv_aload_nN hx hb dX4_tapeNumbered_24 rfl (lv_at hl 0 rfl) ?_
    refine lv_ifnonnullN hx hb dX4_tapeNumbered_25 ?_
    exact zt_throw (cls := "java/lang/IndexOutOfBoundsException") (text := "no such tape") (ik := 67) (is := 243) (ic := 71) () hx hb hlt hown hZ hX hS hP hD (⟨rfl, hno⟩) htab hlocks (hl.1.trans hml.symm) (by decide) (hts (.classLink RX4 67 "java/lang/IndexOutOfBoundsException") (by decide +kernel)) (hts (.initialized "java/lang/IndexOutOfBoundsException") (by decide +kernel)) (fun w hw => hts w ((by decide +kernel : ∀ w ∈ (vx_atS RX4 71 "java/lang/IndexOutOfBoundsException" ["java/lang/RuntimeException", "java/lang/Exception"]).filter goodWord, w ∈ wsX4_tapeNumbered) w hw)) (by decide +kernel) (by decide +kernel) (by decide +kernel) dX4_tapeNumbered_28 dX4_tapeNumbered_31 dX4_tapeNumbered_32 dX4_tapeNumbered_34 dX4_tapeNumbered_37 ⟨Nat.le_of_ble_eq_true rfl, Nat.le_of_ble_eq_true rfl, Nat.le_of_ble_eq_true rfl, Nat.le_of_ble_eq_true rfl⟩ (Nat.le_of_ble_eq_true rfl) (Nat.le_of_ble_eq_true rfl)
  · refine lv_iload_n hx hb dX4_tapeNumbered_0 rfl (lv_at hl 1 rfl) ?_
    refine zf_lt (tgt := 22) hx hb (by omega) dX4_tapeNumbered_1 (by decide) ?_
    refine lv_iload_n hx hb dX4_tapeNumbered_4 rfl (lv_at hl 1 rfl) ?_
    refine lv_aload_n hx hb dX4_tapeNumbered_5 rfl (lv_at hl 0 rfl) ?_
    refine va_get (D := D) (ci := 4) (v := .ref ta) (C := RX4) (T := TX4) (N := 6) hx hb hts iX4 hown hZ.1 hP k0 hk rfl 0 (by decide) (hts (.fieldLink RX4 11 "TapeRobotics" "tapes" "[LTapeRobotics$Tape;") (by decide +kernel)) (fun _ h9 => h9) rfl dX4_tapeNumbered_6 ?_
    refine va_alen (v := nI (8)) hx hb hZ.1 hP kt 1 hkt rfl rfl dX4_tapeNumbered_9 ?_
    refine zc_ge (tgt := 22) hx hb (by omega) (by omega) dX4_tapeNumbered_10 (by decide) (fun c_3 => ?_) (fun c_3 => ?_)
    · refine lv_null hx hb dX4_tapeNumbered_22 ?_
      refine lv_astore_nN (lv' := [(2, .null), (0, .ref h0), (1, .int (nI (j)))]) hx hb dX4_tapeNumbered_23 rfl hl (by decide) rfl (fun ls hl => ?_)
      refine lv_aload_nN hx hb dX4_tapeNumbered_24 rfl (lv_at hl 0 rfl) ?_
      refine lv_ifnonnullN hx hb dX4_tapeNumbered_25 ?_
      have hno : ∀ k, k < n → nI j ≠ nI k := fun k hk9 q => by
        have h9 := (nI_eq hj31 (by omega)).mp q
        omega
      exact zt_throw (cls := "java/lang/IndexOutOfBoundsException") (text := "no such tape") (ik := 67) (is := 243) (ic := 71) () hx hb hlt hown hZ hX hS hP hD (⟨rfl, hno⟩) htab hlocks (hl.1.trans hml.symm) (by decide) (hts (.classLink RX4 67 "java/lang/IndexOutOfBoundsException") (by decide +kernel)) (hts (.initialized "java/lang/IndexOutOfBoundsException") (by decide +kernel)) (fun w hw => hts w ((by decide +kernel : ∀ w ∈ (vx_atS RX4 71 "java/lang/IndexOutOfBoundsException" ["java/lang/RuntimeException", "java/lang/Exception"]).filter goodWord, w ∈ wsX4_tapeNumbered) w hw)) (by decide +kernel) (by decide +kernel) (by decide +kernel) dX4_tapeNumbered_28 dX4_tapeNumbered_31 dX4_tapeNumbered_32 dX4_tapeNumbered_34 dX4_tapeNumbered_37 ⟨Nat.le_of_ble_eq_true rfl, Nat.le_of_ble_eq_true rfl, Nat.le_of_ble_eq_true rfl, Nat.le_of_ble_eq_true rfl⟩ (Nat.le_of_ble_eq_true rfl) (Nat.le_of_ble_eq_true rfl)
    · by_cases hjn : j < n
      · refine lv_aload_n hx hb dX4_tapeNumbered_13 rfl (lv_at hl 0 rfl) ?_
        refine va_get (D := D) (ci := 4) (v := .ref ta) (C := RX4) (T := TX4) (N := 6) hx hb hts iX4 hown hZ.1 hP k0 hk rfl 0 (by decide) (hts (.fieldLink RX4 11 "TapeRobotics" "tapes" "[LTapeRobotics$Tape;") (by decide +kernel)) (fun _ h9 => h9) rfl dX4_tapeNumbered_14 ?_
        refine lv_iload_n hx hb dX4_tapeNumbered_17 rfl (lv_at hl 1 rfl) ?_
        refine va_aldq hx hb hZ.1 hP kt 1 hkt rfl (vp_in_nI (show j < 8 by omega) (by omega)) dX4_tapeNumbered_18 ?_
        rw [nI_clamp (show j < 2 ^ 31 by omega)]
        refine zx_v (b := .ref (T j)) (by rw [rng_in hjn]; rfl) ?_
        refine lv_goto (tgt := 23) hx hb dX4_tapeNumbered_19 (by decide) ?_
        refine lv_astore_n (lv' := [(2, .ref (T j)), (0, .ref h0), (1, .int (nI (j)))]) hx hb dX4_tapeNumbered_23 rfl hl (by decide) rfl (fun ls hl => ?_)
        refine lv_aload_n hx hb dX4_tapeNumbered_24 rfl (lv_at hl 0 rfl) ?_
        refine lv_ifnonnull (tgt := 38) hx hb dX4_tapeNumbered_25 (by decide) ?_
        refine lv_aload_n hx hb dX4_tapeNumbered_38 rfl (lv_at hl 0 rfl) ?_
        exact zr_ta (S := Nat) (adr := fun u => T u) (w1 := fun u => ws) j hx hb hr (Or.inl ⟨_, rfl⟩) hlocks (⟨hjn, rfl⟩) (rfl) hP hD hS (rfl) dX4_tapeNumbered_39 ⟨Nat.le_of_ble_eq_true rfl, Nat.le_of_ble_eq_true rfl⟩
      · refine lv_aload_n hx hb dX4_tapeNumbered_13 rfl (lv_at hl 0 rfl) ?_
        refine va_get (D := D) (ci := 4) (v := .ref ta) (C := RX4) (T := TX4) (N := 6) hx hb hts iX4 hown hZ.1 hP k0 hk rfl 0 (by decide) (hts (.fieldLink RX4 11 "TapeRobotics" "tapes" "[LTapeRobotics$Tape;") (by decide +kernel)) (fun _ h9 => h9) rfl dX4_tapeNumbered_14 ?_
        refine lv_iload_n hx hb dX4_tapeNumbered_17 rfl (lv_at hl 1 rfl) ?_
        refine va_aldq hx hb hZ.1 hP kt 1 hkt rfl (vp_in_nI (show j < 8 by omega) (by omega)) dX4_tapeNumbered_18 ?_
        rw [nI_clamp (show j < 2 ^ 31 by omega)]
        refine zx_v (b := .null) (by rw [rng_out hjn]; rfl) ?_
        refine lv_goto (tgt := 23) hx hb dX4_tapeNumbered_19 (by decide) ?_
        refine lv_astore_nN (lv' := [(2, .null), (0, .ref h0), (1, .int (nI (j)))]) hx hb dX4_tapeNumbered_23 rfl hl (by decide) rfl (fun ls hl => ?_)
        refine lv_aload_nN hx hb dX4_tapeNumbered_24 rfl (lv_at hl 0 rfl) ?_
        refine lv_ifnonnullN hx hb dX4_tapeNumbered_25 ?_
        have hno : ∀ k, k < n → nI j ≠ nI k := fun k hk9 q => by
          have h9 := (nI_eq hj31 (by omega)).mp q
          omega
        exact zt_throw (cls := "java/lang/IndexOutOfBoundsException") (text := "no such tape") (ik := 67) (is := 243) (ic := 71) () hx hb hlt hown hZ hX hS hP hD (⟨rfl, hno⟩) htab hlocks (hl.1.trans hml.symm) (by decide) (hts (.classLink RX4 67 "java/lang/IndexOutOfBoundsException") (by decide +kernel)) (hts (.initialized "java/lang/IndexOutOfBoundsException") (by decide +kernel)) (fun w hw => hts w ((by decide +kernel : ∀ w ∈ (vx_atS RX4 71 "java/lang/IndexOutOfBoundsException" ["java/lang/RuntimeException", "java/lang/Exception"]).filter goodWord, w ∈ wsX4_tapeNumbered) w hw)) (by decide +kernel) (by decide +kernel) (by decide +kernel) dX4_tapeNumbered_28 dX4_tapeNumbered_31 dX4_tapeNumbered_32 dX4_tapeNumbered_34 dX4_tapeNumbered_37 ⟨Nat.le_of_ble_eq_true rfl, Nat.le_of_ble_eq_true rfl, Nat.le_of_ble_eq_true rfl, Nat.le_of_ble_eq_true rfl⟩ (Nat.le_of_ble_eq_true rfl) (Nat.le_of_ble_eq_true rfl)

set_option maxHeartbeats 4000000 in
set_option maxRecDepth 100000 in
theorem c_X4_driveNumbered (l : Launch) (hlt : l.stackTraces = false) (D : va_G) (cA : Nat → ClassId) (sz : Nat) (ws : va_W) (k0 h0 ta n da nd jj oo : Nat) (hk : ws[k0]? = some (h0, zTR ta n da nd jj oo)) (kd : Nat) (E : Nat → Nat) (hkd : ws[kd]? = some (da, zRefs cA 2 3 (rng nd E))) (hd3 : nd ≤ 3) (v0 : Int32) : vx_Met l yX4_driveNumbered wsX4_driveNumbered ({ frames := 6, cells := 1, slots := 6, locals := 96 }) (va_Pc [.ref h0, .int (v0)] (zMX D cA (ws) sz)) (va_Qr (fun u : Nat => u < nd ∧ v0 = nI u) (fun u a t => a = E u ∧ zB D (va_A (ws) sz) (ws) t) (va_A (ws) sz)) (zXC (fun (E : String) (u : Unit) => E = eI ∧ ∀ j, j < nd → v0 ≠ nI j) (fun u => ws) D (va_A (ws) sz)) 1 6 (va_A (ws) sz) := by
  refine zOpenX (cc := cX4_driveNumbered) (maxL := 3) (ret := (some (.object "TapeRobotics$Drive"))) (own := RX4) (by decide) rfl rfl (Nat.le_of_ble_eq_true rfl) ?_
  intro p e s m below meth c ls hx hb hr hml hts hown hlocks htab ⟨⟨hZ, hP, hD0, hsz⟩, hX⟩ hl
  subst hsz
  have hD := hD0.self (sz := s.heap.size)
  generalize hAe : va_A (ws) s.heap.size = A at hD hX ⊢
  have hA : ∀ q : Nat, s.heap.size ≤ q → A q := fun q h => by rw [← hAe]; exact Or.inr h
  have hS : va_S A s.heap s.heap [] := va_S.rf
  have iX4 : ∀ w ∈ wsX40, w ∈ wsX4_driveNumbered := by decide +kernel
  have hl : lv_has ls 3 [(0, .ref h0), (1, .int (v0))] := hl
  rcases zI_split v0 with hneg | ⟨j, hj31, rfl⟩
  · have hno : ∀ j, j < nd → v0 ≠ nI j := fun j hj q => by rw [q] at hneg; exact absurd hneg (nI_pos (by omega))
    refine lv_iload_n hx hb dX4_driveNumbered_0 rfl (lv_at hl 1 rfl) ?_
    refine lv_if_lt (tgt := 22) hx hb dX4_driveNumbered_1 (by decide) (fun c_1 => ?_) (fun c_1 => absurd hneg c_1)
    refine lv_null hx hb dX4_driveNumbered_22 ?_
    refine lv_astore_nN (lv' := [(2, .null), (0, .ref h0), (1, .int (v0))]) hx hb dX4_driveNumbered_23 rfl hl (by decide) rfl (fun ls hl => ?_)
    refine lv_aload_nN hx hb dX4_driveNumbered_24 rfl (lv_at hl 0 rfl) ?_
    refine lv_ifnonnullN hx hb dX4_driveNumbered_25 ?_
    exact zt_throw (cls := "java/lang/IndexOutOfBoundsException") (text := "no such drive") (ik := 67) (is := 245) (ic := 71) () hx hb hlt hown hZ hX hS hP hD (⟨rfl, hno⟩) htab hlocks (hl.1.trans hml.symm) (by decide) (hts (.classLink RX4 67 "java/lang/IndexOutOfBoundsException") (by decide +kernel)) (hts (.initialized "java/lang/IndexOutOfBoundsException") (by decide +kernel)) (fun w hw => hts w ((by decide +kernel : ∀ w ∈ (vx_atS RX4 71 "java/lang/IndexOutOfBoundsException" ["java/lang/RuntimeException", "java/lang/Exception"]).filter goodWord, w ∈ wsX4_driveNumbered) w hw)) (by decide +kernel) (by decide +kernel) (by decide +kernel) dX4_driveNumbered_28 dX4_driveNumbered_31 dX4_driveNumbered_32 dX4_driveNumbered_34 dX4_driveNumbered_37 ⟨Nat.le_of_ble_eq_true rfl, Nat.le_of_ble_eq_true rfl, Nat.le_of_ble_eq_true rfl, Nat.le_of_ble_eq_true rfl⟩ (Nat.le_of_ble_eq_true rfl) (Nat.le_of_ble_eq_true rfl)
  · refine lv_iload_n hx hb dX4_driveNumbered_0 rfl (lv_at hl 1 rfl) ?_
    refine zf_lt (tgt := 22) hx hb (by omega) dX4_driveNumbered_1 (by decide) ?_
    refine lv_iload_n hx hb dX4_driveNumbered_4 rfl (lv_at hl 1 rfl) ?_
    refine lv_aload_n hx hb dX4_driveNumbered_5 rfl (lv_at hl 0 rfl) ?_
    refine va_get (D := D) (ci := 4) (v := .ref da) (C := RX4) (T := TX4) (N := 6) hx hb hts iX4 hown hZ.1 hP k0 hk rfl 2 (by decide) (hts (.fieldLink RX4 21 "TapeRobotics" "drives" "[LTapeRobotics$Drive;") (by decide +kernel)) (fun _ h9 => h9) rfl dX4_driveNumbered_6 ?_
    refine va_alen (v := nI (3)) hx hb hZ.1 hP kd 2 hkd rfl rfl dX4_driveNumbered_9 ?_
    refine zc_ge (tgt := 22) hx hb (by omega) (by omega) dX4_driveNumbered_10 (by decide) (fun c_3 => ?_) (fun c_3 => ?_)
    · refine lv_null hx hb dX4_driveNumbered_22 ?_
      refine lv_astore_nN (lv' := [(2, .null), (0, .ref h0), (1, .int (nI (j)))]) hx hb dX4_driveNumbered_23 rfl hl (by decide) rfl (fun ls hl => ?_)
      refine lv_aload_nN hx hb dX4_driveNumbered_24 rfl (lv_at hl 0 rfl) ?_
      refine lv_ifnonnullN hx hb dX4_driveNumbered_25 ?_
      have hno : ∀ k, k < nd → nI j ≠ nI k := fun k hk9 q => by
        have h9 := (nI_eq hj31 (by omega)).mp q
        omega
      exact zt_throw (cls := "java/lang/IndexOutOfBoundsException") (text := "no such drive") (ik := 67) (is := 245) (ic := 71) () hx hb hlt hown hZ hX hS hP hD (⟨rfl, hno⟩) htab hlocks (hl.1.trans hml.symm) (by decide) (hts (.classLink RX4 67 "java/lang/IndexOutOfBoundsException") (by decide +kernel)) (hts (.initialized "java/lang/IndexOutOfBoundsException") (by decide +kernel)) (fun w hw => hts w ((by decide +kernel : ∀ w ∈ (vx_atS RX4 71 "java/lang/IndexOutOfBoundsException" ["java/lang/RuntimeException", "java/lang/Exception"]).filter goodWord, w ∈ wsX4_driveNumbered) w hw)) (by decide +kernel) (by decide +kernel) (by decide +kernel) dX4_driveNumbered_28 dX4_driveNumbered_31 dX4_driveNumbered_32 dX4_driveNumbered_34 dX4_driveNumbered_37 ⟨Nat.le_of_ble_eq_true rfl, Nat.le_of_ble_eq_true rfl, Nat.le_of_ble_eq_true rfl, Nat.le_of_ble_eq_true rfl⟩ (Nat.le_of_ble_eq_true rfl) (Nat.le_of_ble_eq_true rfl)
    · by_cases hjn : j < nd
      · refine lv_aload_n hx hb dX4_driveNumbered_13 rfl (lv_at hl 0 rfl) ?_
        refine va_get (D := D) (ci := 4) (v := .ref da) (C := RX4) (T := TX4) (N := 6) hx hb hts iX4 hown hZ.1 hP k0 hk rfl 2 (by decide) (hts (.fieldLink RX4 21 "TapeRobotics" "drives" "[LTapeRobotics$Drive;") (by decide +kernel)) (fun _ h9 => h9) rfl dX4_driveNumbered_14 ?_
        refine lv_iload_n hx hb dX4_driveNumbered_17 rfl (lv_at hl 1 rfl) ?_
        refine va_aldq hx hb hZ.1 hP kd 2 hkd rfl (vp_in_nI (show j < 3 by omega) (by omega)) dX4_driveNumbered_18 ?_
        rw [nI_clamp (show j < 2 ^ 31 by omega)]
        refine zx_v (b := .ref (E j)) (by rw [rng_in hjn]; rfl) ?_
        refine lv_goto (tgt := 23) hx hb dX4_driveNumbered_19 (by decide) ?_
        refine lv_astore_n (lv' := [(2, .ref (E j)), (0, .ref h0), (1, .int (nI (j)))]) hx hb dX4_driveNumbered_23 rfl hl (by decide) rfl (fun ls hl => ?_)
        refine lv_aload_n hx hb dX4_driveNumbered_24 rfl (lv_at hl 0 rfl) ?_
        refine lv_ifnonnull (tgt := 38) hx hb dX4_driveNumbered_25 (by decide) ?_
        refine lv_aload_n hx hb dX4_driveNumbered_38 rfl (lv_at hl 0 rfl) ?_
        exact zr_ta (S := Nat) (adr := fun u => E u) (w1 := fun u => ws) j hx hb hr (Or.inl ⟨_, rfl⟩) hlocks (⟨hjn, rfl⟩) (rfl) hP hD hS (rfl) dX4_driveNumbered_39 ⟨Nat.le_of_ble_eq_true rfl, Nat.le_of_ble_eq_true rfl⟩
      · refine lv_aload_n hx hb dX4_driveNumbered_13 rfl (lv_at hl 0 rfl) ?_
        refine va_get (D := D) (ci := 4) (v := .ref da) (C := RX4) (T := TX4) (N := 6) hx hb hts iX4 hown hZ.1 hP k0 hk rfl 2 (by decide) (hts (.fieldLink RX4 21 "TapeRobotics" "drives" "[LTapeRobotics$Drive;") (by decide +kernel)) (fun _ h9 => h9) rfl dX4_driveNumbered_14 ?_
        refine lv_iload_n hx hb dX4_driveNumbered_17 rfl (lv_at hl 1 rfl) ?_
        refine va_aldq hx hb hZ.1 hP kd 2 hkd rfl (vp_in_nI (show j < 3 by omega) (by omega)) dX4_driveNumbered_18 ?_
        rw [nI_clamp (show j < 2 ^ 31 by omega)]
        refine zx_v (b := .null) (by rw [rng_out hjn]; rfl) ?_
        refine lv_goto (tgt := 23) hx hb dX4_driveNumbered_19 (by decide) ?_
        refine lv_astore_nN (lv' := [(2, .null), (0, .ref h0), (1, .int (nI (j)))]) hx hb dX4_driveNumbered_23 rfl hl (by decide) rfl (fun ls hl => ?_)
        refine lv_aload_nN hx hb dX4_driveNumbered_24 rfl (lv_at hl 0 rfl) ?_
        refine lv_ifnonnullN hx hb dX4_driveNumbered_25 ?_
        have hno : ∀ k, k < nd → nI j ≠ nI k := fun k hk9 q => by
          have h9 := (nI_eq hj31 (by omega)).mp q
          omega
        exact zt_throw (cls := "java/lang/IndexOutOfBoundsException") (text := "no such drive") (ik := 67) (is := 245) (ic := 71) () hx hb hlt hown hZ hX hS hP hD (⟨rfl, hno⟩) htab hlocks (hl.1.trans hml.symm) (by decide) (hts (.classLink RX4 67 "java/lang/IndexOutOfBoundsException") (by decide +kernel)) (hts (.initialized "java/lang/IndexOutOfBoundsException") (by decide +kernel)) (fun w hw => hts w ((by decide +kernel : ∀ w ∈ (vx_atS RX4 71 "java/lang/IndexOutOfBoundsException" ["java/lang/RuntimeException", "java/lang/Exception"]).filter goodWord, w ∈ wsX4_driveNumbered) w hw)) (by decide +kernel) (by decide +kernel) (by decide +kernel) dX4_driveNumbered_28 dX4_driveNumbered_31 dX4_driveNumbered_32 dX4_driveNumbered_34 dX4_driveNumbered_37 ⟨Nat.le_of_ble_eq_true rfl, Nat.le_of_ble_eq_true rfl, Nat.le_of_ble_eq_true rfl, Nat.le_of_ble_eq_true rfl⟩ (Nat.le_of_ble_eq_true rfl) (Nat.le_of_ble_eq_true rfl)

set_option maxHeartbeats 4000000 in
set_option maxRecDepth 100000 in
theorem c_X4_mountedIn (l : Launch) (hlt : l.stackTraces = false) (D : va_G) (cA : Nat → ClassId) (sz : Nat) (ws : va_W) (k1 h1 nu pa sp : Nat) (mt : Option Nat) (pl tm : Int32) (ct : Nat) (hk1 : ws[k1]? = some (h1, zDrive nu pa sp mt pl tm ct))  : vx_Met l yX4_mountedIn wsX4_mountedIn ({ frames := 6, cells := 1, slots := 6, locals := 96 }) (va_Pc [.ref h1] (zMX D cA (ws) sz)) (va_Qr (fun u : Nat => mt = some u) (fun u a t => a = u ∧ zB D (va_A (ws) sz) (ws) t) (va_A (ws) sz)) (zXC (fun (E : String) (u : Unit) => E = eS ∧ mt = none) (fun u => ws) D (va_A (ws) sz)) 1 6 (va_A (ws) sz) := by
  refine zOpenX (cc := cX4_mountedIn) (maxL := 2) (ret := (some (.object "TapeRobotics$Tape"))) (own := RX4) (by decide) rfl rfl (Nat.le_of_ble_eq_true rfl) ?_
  intro p e s m below meth c ls hx hb hr hml hts hown hlocks htab ⟨⟨hZ, hP, hD0, hsz⟩, hX⟩ hl
  subst hsz
  have hD := hD0.self (sz := s.heap.size)
  generalize hAe : va_A (ws) s.heap.size = A at hD hX ⊢
  have hA : ∀ q : Nat, s.heap.size ≤ q → A q := fun q h => by rw [← hAe]; exact Or.inr h
  have hS : va_S A s.heap s.heap [] := va_S.rf
  have iX0 : ∀ w ∈ wsX00, w ∈ wsX4_mountedIn := by decide +kernel
  have hl : lv_has ls 2 [(0, .ref h1)] := hl
  refine lv_aload_n hx hb dX4_mountedIn_0 rfl (lv_at hl 0 rfl) ?_
  refine va_getN (D := D) (ci := 0) (v := va_rf (mt)) (C := RX0) (T := TX0) (N := 7) hx hb hts iX0 hown hZ.1 hP k1 hk1 rfl 3 (by decide) (va_Nw.use rfl (hZ.2 (.fieldLinkNest RX4 118 RX0 "mounted" "LTapeRobotics$Tape;" "TapeRobotics") (List.mem_of_getElem? (i := 52) rfl))) (fun _ h9 => h9) rfl dX4_mountedIn_1 ?_
  rcases mt with _ | a
  · refine lv_astore_nN (lv' := [(1, .null), (0, .ref h1)]) hx hb dX4_mountedIn_4 rfl hl (by decide) rfl (fun ls hl => ?_)
    refine lv_aload_nN hx hb dX4_mountedIn_5 rfl (lv_at hl 0 rfl) ?_
    refine lv_ifnonnullN hx hb dX4_mountedIn_6 ?_
    exact zt_throw (cls := "java/lang/IllegalStateException") (text := "drive has no tape") (ik := 51) (is := 247) (ic := 55) () hx hb hlt hown hZ hX hS hP hD (⟨rfl, rfl⟩) htab hlocks (hl.1.trans hml.symm) (by decide) (hts (.classLink RX4 51 "java/lang/IllegalStateException") (by decide +kernel)) (hts (.initialized "java/lang/IllegalStateException") (by decide +kernel)) (fun w hw => hts w ((by decide +kernel : ∀ w ∈ (vx_atS RX4 55 "java/lang/IllegalStateException" ["java/lang/RuntimeException", "java/lang/Exception"]).filter goodWord, w ∈ wsX4_mountedIn) w hw)) (by decide +kernel) (by decide +kernel) (by decide +kernel) dX4_mountedIn_9 dX4_mountedIn_12 dX4_mountedIn_13 dX4_mountedIn_15 dX4_mountedIn_18 ⟨Nat.le_of_ble_eq_true rfl, Nat.le_of_ble_eq_true rfl, Nat.le_of_ble_eq_true rfl, Nat.le_of_ble_eq_true rfl⟩ (Nat.le_of_ble_eq_true rfl) (Nat.le_of_ble_eq_true rfl)
  · refine lv_astore_n (lv' := [(1, .ref a), (0, .ref h1)]) hx hb dX4_mountedIn_4 rfl hl (by decide) rfl (fun ls hl => ?_)
    refine lv_aload_n hx hb dX4_mountedIn_5 rfl (lv_at hl 0 rfl) ?_
    refine lv_ifnonnull (tgt := 19) hx hb dX4_mountedIn_6 (by decide) ?_
    refine lv_aload_n hx hb dX4_mountedIn_19 rfl (lv_at hl 0 rfl) ?_
    exact zr_ta (S := Nat) (adr := fun u => u) (w1 := fun u => ws) a hx hb hr (Or.inl ⟨_, rfl⟩) hlocks (rfl) (rfl) hP hD hS (rfl) dX4_mountedIn_20 ⟨Nat.le_of_ble_eq_true rfl, Nat.le_of_ble_eq_true rfl⟩

set_option maxHeartbeats 4000000 in
set_option maxRecDepth 100000 in
theorem c_X4_refuseMissingFile (l : Launch) (hlt : l.stackTraces = false) (D : va_G) (cA : Nat → ClassId) (sz : Nat) (ws : va_W) (k1 h1 tn tr le sl fc bo : Nat) (dn : Option Nat) (hl0 : Bool) (hk1 : ws[k1]? = some (h1, zTape tn tr le sl dn hl0 fc bo)) (hfc : fc < 2 ^ 31) (v0 : Int32) : vx_Met l yX4_refuseMissingFile wsX4_refuseMissingFile ({ frames := 6, cells := 1, slots := 6, locals := 96 }) (va_Pc [.ref h1, .int (v0)] (zMX D cA (ws) sz)) (va_Qv (fun u : Nat => u < fc ∧ v0 = nI u) (fun u => zB D (va_A (ws) sz) (ws)) (va_A (ws) sz)) (zXC (fun (E : String) (u : Unit) => E = eI ∧ ∀ j, j < fc → v0 ≠ nI j) (fun u => ws) D (va_A (ws) sz)) 1 6 (va_A (ws) sz) := by
  refine zOpenX (cc := cX4_refuseMissingFile) (maxL := 2) (ret := none) (own := RX4) (by decide) rfl rfl (Nat.le_of_ble_eq_true rfl) ?_
  intro p e s m below meth c ls hx hb hr hml hts hown hlocks htab ⟨⟨hZ, hP, hD0, hsz⟩, hX⟩ hl
  subst hsz
  have hD := hD0.self (sz := s.heap.size)
  generalize hAe : va_A (ws) s.heap.size = A at hD hX ⊢
  have hA : ∀ q : Nat, s.heap.size ≤ q → A q := fun q h => by rw [← hAe]; exact Or.inr h
  have hS : va_S A s.heap s.heap [] := va_S.rf
  have iX3 : ∀ w ∈ wsX30, w ∈ wsX4_refuseMissingFile := by decide +kernel
  have hl : lv_has ls 2 [(0, .ref h1), (1, .int (v0))] := hl
  rcases zI_split v0 with hneg | ⟨j, hj31, rfl⟩
  · have hno : ∀ j, j < fc → v0 ≠ nI j := fun j hj q => by rw [q] at hneg; exact absurd hneg (nI_pos (by omega))
    refine lv_iload_n hx hb dX4_refuseMissingFile_0 rfl (lv_at hl 1 rfl) ?_
    refine lv_if_lt (tgt := 12) hx hb dX4_refuseMissingFile_1 (by decide) (fun c_1 => ?_) (fun c_1 => absurd hneg c_1)
    exact zt_throw (cls := "java/lang/IndexOutOfBoundsException") (text := "no such file") (ik := 67) (is := 249) (ic := 71) () hx hb hlt hown hZ hX hS hP hD (⟨rfl, hno⟩) htab hlocks (hl.1.trans hml.symm) (by decide) (hts (.classLink RX4 67 "java/lang/IndexOutOfBoundsException") (by decide +kernel)) (hts (.initialized "java/lang/IndexOutOfBoundsException") (by decide +kernel)) (fun w hw => hts w ((by decide +kernel : ∀ w ∈ (vx_atS RX4 71 "java/lang/IndexOutOfBoundsException" ["java/lang/RuntimeException", "java/lang/Exception"]).filter goodWord, w ∈ wsX4_refuseMissingFile) w hw)) (by decide +kernel) (by decide +kernel) (by decide +kernel) dX4_refuseMissingFile_12 dX4_refuseMissingFile_15 dX4_refuseMissingFile_16 dX4_refuseMissingFile_18 dX4_refuseMissingFile_21 ⟨Nat.le_of_ble_eq_true rfl, Nat.le_of_ble_eq_true rfl, Nat.le_of_ble_eq_true rfl, Nat.le_of_ble_eq_true rfl⟩ (Nat.le_of_ble_eq_true rfl) (Nat.le_of_ble_eq_true rfl)
  · refine lv_iload_n hx hb dX4_refuseMissingFile_0 rfl (lv_at hl 1 rfl) ?_
    refine zf_lt (tgt := 12) hx hb (by omega) dX4_refuseMissingFile_1 (by decide) ?_
    refine lv_iload_n hx hb dX4_refuseMissingFile_4 rfl (lv_at hl 1 rfl) ?_
    refine lv_aload_n hx hb dX4_refuseMissingFile_5 rfl (lv_at hl 0 rfl) ?_
    refine va_getN (D := D) (ci := 3) (v := .int (nI (fc))) (C := RX3) (T := TX3) (N := 8) hx hb hts iX3 hown hZ.1 hP k1 hk1 rfl 6 (by decide) (va_Nw.use rfl (hZ.2 (.fieldLinkNest RX4 88 RX3 "fileCount" "I" "TapeRobotics") (List.mem_of_getElem? (i := 50) rfl))) (fun _ h9 => h9) rfl dX4_refuseMissingFile_6 ?_
    refine zc_lt (tgt := 22) hx hb (by omega) (by omega) dX4_refuseMissingFile_9 (by decide) (fun c_3 => ?_) (fun c_3 => ?_)
    · exact zr_tv (S := Nat) (w1 := fun u => ws) j hx hb hr hlocks (⟨by omega, rfl⟩) hP hD hS (rfl) dX4_refuseMissingFile_22 ⟨Nat.le_of_ble_eq_true rfl, Nat.le_of_ble_eq_true rfl⟩
    · have hno : ∀ k, k < fc → nI j ≠ nI k := fun k hk9 q => by
        have h9 := (nI_eq hj31 (by omega)).mp q
        omega
      exact zt_throw (cls := "java/lang/IndexOutOfBoundsException") (text := "no such file") (ik := 67) (is := 249) (ic := 71) () hx hb hlt hown hZ hX hS hP hD (⟨rfl, hno⟩) htab hlocks (hl.1.trans hml.symm) (by decide) (hts (.classLink RX4 67 "java/lang/IndexOutOfBoundsException") (by decide +kernel)) (hts (.initialized "java/lang/IndexOutOfBoundsException") (by decide +kernel)) (fun w hw => hts w ((by decide +kernel : ∀ w ∈ (vx_atS RX4 71 "java/lang/IndexOutOfBoundsException" ["java/lang/RuntimeException", "java/lang/Exception"]).filter goodWord, w ∈ wsX4_refuseMissingFile) w hw)) (by decide +kernel) (by decide +kernel) (by decide +kernel) dX4_refuseMissingFile_12 dX4_refuseMissingFile_15 dX4_refuseMissingFile_16 dX4_refuseMissingFile_18 dX4_refuseMissingFile_21 ⟨Nat.le_of_ble_eq_true rfl, Nat.le_of_ble_eq_true rfl, Nat.le_of_ble_eq_true rfl, Nat.le_of_ble_eq_true rfl⟩ (Nat.le_of_ble_eq_true rfl) (Nat.le_of_ble_eq_true rfl)

set_option maxHeartbeats 4000000 in
set_option maxRecDepth 100000 in
theorem c_X4_refuseUnclean (l : Launch) (hlt : l.stackTraces = false) (D : va_G) (cA : Nat → ClassId) (sz : Nat) (ws : va_W) (k1 h1 nu pa sp : Nat) (mt : Option Nat) (pl tm : Int32) (ct : Nat) (hk1 : ws[k1]? = some (h1, zDrive nu pa sp mt pl tm ct)) (hct : ct < 2 ^ 31) : vx_Met l yX4_refuseUnclean wsX4_refuseUnclean ({ frames := 6, cells := 1, slots := 6, locals := 96 }) (va_Pc [.ref h1] (zMX D cA (ws) sz)) (va_Qv (fun u : Unit => ct < 12) (fun u => zB D (va_A (ws) sz) (ws)) (va_A (ws) sz)) (zXC (fun (E : String) (u : Unit) => E = eS ∧ 12 ≤ ct) (fun u => ws) D (va_A (ws) sz)) 1 6 (va_A (ws) sz) := by
  refine zOpenX (cc := cX4_refuseUnclean) (maxL := 1) (ret := none) (own := RX4) (by decide) rfl rfl (Nat.le_of_ble_eq_true rfl) ?_
  intro p e s m below meth c ls hx hb hr hml hts hown hlocks htab ⟨⟨hZ, hP, hD0, hsz⟩, hX⟩ hl
  subst hsz
  have hD := hD0.self (sz := s.heap.size)
  generalize hAe : va_A (ws) s.heap.size = A at hD hX ⊢
  have hA : ∀ q : Nat, s.heap.size ≤ q → A q := fun q h => by rw [← hAe]; exact Or.inr h
  have hS : va_S A s.heap s.heap [] := va_S.rf
  have hl : lv_has ls 1 [(0, .ref h1)] := hl
  refine lv_aload_n hx hb dX4_refuseUnclean_0 rfl (lv_at hl 0 rfl) ?_
  refine zk_VN_i (n := 0) (As := []) (rest := []) hx hb hml hts hown hZ hP (c_X0_wantsCleaning l D cA _ k1 h1 nu pa sp mt pl tm ct hk1 (by omega)) ggX4_refuseUnclean_X0_wantsCleaning (List.mem_of_getElem? (i := 17) rfl) (by decide +kernel) rfl ⟨rfl, rfl⟩ ⟨by decide +kernel, Nat.le_of_ble_eq_true rfl, Nat.le_of_ble_eq_true rfl⟩ hk1 rfl hl.1 rfl (Nat.le_of_ble_eq_true rfl) ⟨Nat.zero_le _, Nat.zero_le _⟩ rfl dX4_refuseUnclean_1 (fun r_1 hr_2 => ?_)
  obtain rfl := show r_1 = _ from hr_2
  refine zb_eq (tgt := 17) hx hb dX4_refuseUnclean_4 (by decide) (fun c_3 => ?_) (fun c_3 => ?_)
  · exact zr_tv (S := Unit) (w1 := fun u => ws) () hx hb hr hlocks (Nat.lt_of_not_le (of_decide_eq_false (by assumption))) hP hD hS (rfl) dX4_refuseUnclean_17 ⟨Nat.le_of_ble_eq_true rfl, Nat.le_of_ble_eq_true rfl⟩
  · exact zt_throw (cls := "java/lang/IllegalStateException") (text := "drive wants cleaning") (ik := 51) (is := 251) (ic := 55) () hx hb hlt hown hZ hX hS hP hD (⟨rfl, of_decide_eq_true (by assumption)⟩) htab hlocks (hl.1.trans hml.symm) (by decide) (hts (.classLink RX4 51 "java/lang/IllegalStateException") (by decide +kernel)) (hts (.initialized "java/lang/IllegalStateException") (by decide +kernel)) (fun w hw => hts w ((by decide +kernel : ∀ w ∈ (vx_atS RX4 55 "java/lang/IllegalStateException" ["java/lang/RuntimeException", "java/lang/Exception"]).filter goodWord, w ∈ wsX4_refuseUnclean) w hw)) (by decide +kernel) (by decide +kernel) (by decide +kernel) dX4_refuseUnclean_7 dX4_refuseUnclean_10 dX4_refuseUnclean_11 dX4_refuseUnclean_13 dX4_refuseUnclean_16 ⟨Nat.le_of_ble_eq_true rfl, Nat.le_of_ble_eq_true rfl, Nat.le_of_ble_eq_true rfl, Nat.le_of_ble_eq_true rfl⟩ (Nat.le_of_ble_eq_true rfl) (Nat.le_of_ble_eq_true rfl)
