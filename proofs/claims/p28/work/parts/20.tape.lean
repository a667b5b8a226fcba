set_option maxHeartbeats 4000000 in
set_option maxRecDepth 100000 in
theorem c_X4_at (l : Launch) (D : va_G) (cA : Nat → ClassId) (ws : va_W) (q a n : Nat) (f : Nat → Int32) (hq : ws[q]? = some (a, zInts cA n f)) (i : Nat) (hi : i < n) (hn : n < 2 ^ 31) : Met l yX4_at wsX4_at ({ frames := 0, cells := 0, slots := 0, locals := 0 }) (va_Pc [.ref a, .int (nI (i))] (zS D cA ws)) (vp_Si (fun r => r = f i)) 0 0 zF := by
  refine zOpen (cc := cX4_at) (maxL := 2) (ret := (some .int)) (own := RX4) (by decide) rfl rfl (Nat.le_of_ble_eq_true rfl) ?_
  intro p e s m below meth c ls hx hb hr hml hts hown hlocks hnm ⟨hZ, hP⟩ hl
  have hl : lv_has ls 2 [(0, .ref a), (1, .int (nI (i)))] := hl
  refine lv_iload_n hx hb dX4_at_0 rfl (lv_at hl 1 rfl) ?_
  refine zf_lt (tgt := 16) hx hb (by omega) dX4_at_1 (by decide) ?_
  refine lv_iload_n hx hb dX4_at_4 rfl (lv_at hl 1 rfl) ?_
  refine lv_aload_n hx hb dX4_at_5 rfl (lv_at hl 0 rfl) ?_
  refine va_alen (v := nI (n)) hx hb hZ.1 hP q 0 hq rfl rfl dX4_at_6 ?_
  refine zc_ge (tgt := 16) hx hb (by omega) (by omega) dX4_at_7 (by decide) (fun c_2 => False.elim (by omega)) (fun c_2 => ?_)
  refine lv_aload_n hx hb dX4_at_10 rfl (lv_at hl 0 rfl) ?_
  refine lv_iload_n hx hb dX4_at_11 rfl (lv_at hl 1 rfl) ?_
  refine va_iald hx hb hZ.1 hP q 0 hq rfl (vp_in_nI (show i < n by omega) (by omega)) dX4_at_12 ?_
  rw [nI_clamp (show i < 2 ^ 31 by omega)]
  refine lv_goto (tgt := 17) hx hb dX4_at_13 (by decide) ?_
  exact zr_i hx hb hr hlocks (rfl) dX4_at_17

set_option maxHeartbeats 4000000 in
set_option maxRecDepth 100000 in
theorem c_X4_put (l : Launch) (D : va_G) (cA : Nat → ClassId) (sz : Nat) (ws : va_W) (q a n : Nat) (f : Nat → Int32) (hq : ws[q]? = some (a, zInts cA n f)) (i : Nat) (hi : i < n) (hn : n < 2 ^ 31) (x : Int32) : Met l yX4_put wsX4_put ({ frames := 0, cells := 0, slots := 0, locals := 0 }) (va_Pc [.ref a, .int (nI (i)), .int (x)] (zM D cA (ws) sz)) (va_Qv (fun _ : Unit => True) (fun u => zB D (va_A (ws) sz) (ws.set q (a, zInts cA n (upd f i x)))) (va_A (ws) sz)) 0 0 (va_A (ws) sz) := by
  refine zOpen (cc := cX4_put) (maxL := 3) (ret := none) (own := RX4) (by decide) rfl rfl (Nat.le_of_ble_eq_true rfl) ?_
  intro p e s m below meth c ls hx hb hr hml hts hown hlocks hnm ⟨hZ, hP, hD0, hsz⟩ hl
  subst hsz
  have hD := hD0.self (sz := s.heap.size)
  generalize hAe : va_A (ws) s.heap.size = A at hD ⊢
  have hA : ∀ q : Nat, s.heap.size ≤ q → A q := fun q h => by rw [← hAe]; exact Or.inr h
  have hS : va_S A s.heap s.heap [] := va_S.rf
  have hl : lv_has ls 3 [(0, .ref a), (1, .int (nI (i))), (2, .int (x))] := hl
  refine lv_iload_n hx hb dX4_put_0 rfl (lv_at hl 1 rfl) ?_
  refine zf_lt (tgt := 14) hx hb (by omega) dX4_put_1 (by decide) ?_
  refine lv_iload_n hx hb dX4_put_4 rfl (lv_at hl 1 rfl) ?_
  refine lv_aload_n hx hb dX4_put_5 rfl (lv_at hl 0 rfl) ?_
  refine va_alen (v := nI (n)) hx hb hZ.1 hP q 0 hq rfl rfl dX4_put_6 ?_
  refine zc_ge (tgt := 14) hx hb (by omega) (by omega) dX4_put_7 (by decide) (fun c_2 => False.elim (by omega)) (fun c_2 => ?_)
  refine lv_aload_n hx hb dX4_put_10 rfl (lv_at hl 0 rfl) ?_
  refine lv_iload_n hx hb dX4_put_11 rfl (lv_at hl 1 rfl) ?_
  refine lv_iload_n hx hb dX4_put_12 rfl (lv_at hl 2 rfl) ?_
  refine va_iast hx hb hZ.1 hP hD hS q 0 hq rfl (vp_in_nI (show i < n by omega) (by omega)) dX4_put_13 (fun H locs hP hD hS => ?_)
  rw [nI_clamp (show i < 2 ^ 31 by omega)] at hP hD
  have hP : va_P D vwCl (ws.set q (a, zInts cA n (upd f i x))) H := hP
  have hD : va_D A (ws.set q (a, zInts cA n (upd f i x))) := hD
  exact zr_qv (S := Unit) (w1 := fun u => ws.set q (a, zInts cA n (upd f i x))) () hx hb hr hlocks (trivial) hP hD hS (rfl) dX4_put_14

set_option maxHeartbeats 4000000 in
set_option maxRecDepth 100000 in
theorem c_X3_places (l : Launch) (D : va_G) (cA : Nat → ClassId) (ws : va_W) (k0 h0 nu tr le sl fc bo : Nat) (dn : Option Nat) (hl0 : Bool) (hk : ws[k0]? = some (h0, zTape nu tr le sl dn hl0 fc bo))  : Met l yX3_places wsX3_places ({ frames := 0, cells := 0, slots := 0, locals := 0 }) (va_Pc [.ref h0] (zS D cA ws)) (vp_Si (fun r => r = nI (tr * le))) 0 0 zF := by
  refine zOpen (cc := cX3_places) (maxL := 1) (ret := (some .int)) (own := RX3) (by decide) rfl rfl (Nat.le_of_ble_eq_true rfl) ?_
  intro p e s m below meth c ls hx hb hr hml hts hown hlocks hnm ⟨hZ, hP⟩ hl
  have iX3 : ∀ w ∈ wsX30, w ∈ wsX3_places := by decide +kernel
  have hl : lv_has ls 1 [(0, .ref h0)] := hl
  refine lv_aload_n hx hb dX3_places_0 rfl (lv_at hl 0 rfl) ?_
  refine va_get (D := D) (ci := 3) (v := .int (nI (tr))) (C := RX3) (T := TX3) (N := 8) hx hb hts iX3 hown hZ.1 hP k0 hk rfl 1 (by decide) (hts (.fieldLink RX3 29 "TapeRobotics$Tape" "tracks" "I") (by decide +kernel)) (fun _ h9 => h9) rfl dX3_places_1 ?_
  refine lv_aload_n hx hb dX3_places_4 rfl (lv_at hl 0 rfl) ?_
  refine va_get (D := D) (ci := 3) (v := .int (nI (le))) (C := RX3) (T := TX3) (N := 8) hx hb hts iX3 hown hZ.1 hP k0 hk rfl 2 (by decide) (hts (.fieldLink RX3 32 "TapeRobotics$Tape" "length" "I") (by decide +kernel)) (fun _ h9 => h9) rfl dX3_places_5 ?_
  refine zo_mul hx hb dX3_places_8 ?_
  exact zr_i hx hb hr hlocks (rfl) dX3_places_9

set_option maxHeartbeats 4000000 in
set_option maxRecDepth 100000 in
theorem c_X3_isInDrive (l : Launch) (D : va_G) (cA : Nat → ClassId) (ws : va_W) (k0 h0 nu tr le sl fc bo : Nat) (dn : Option Nat) (hl0 : Bool) (hk : ws[k0]? = some (h0, zTape nu tr le sl dn hl0 fc bo)) (h1 : ∀ n, dn = some n → n < 2 ^ 31) : Met l yX3_isInDrive wsX3_isInDrive ({ frames := 0, cells := 0, slots := 0, locals := 0 }) (va_Pc [.ref h0] (zS D cA ws)) (vp_Si (fun r => r = bI (dn.isSome))) 0 0 zF := by
  refine zOpen (cc := cX3_isInDrive) (maxL := 1) (ret := (some .boolean)) (own := RX3) (by decide) rfl rfl (Nat.le_of_ble_eq_true rfl) ?_
  intro p e s m below meth c ls hx hb hr hml hts hown hlocks hnm ⟨hZ, hP⟩ hl
  have iX3 : ∀ w ∈ wsX30, w ∈ wsX3_isInDrive := by decide +kernel
  have hl : lv_has ls 1 [(0, .ref h0)] := hl
  refine lv_aload_n hx hb dX3_isInDrive_0 rfl (lv_at hl 0 rfl) ?_
  refine va_get (D := D) (ci := 3) (v := .int (oI dn)) (C := RX3) (T := TX3) (N := 8) hx hb hts iX3 hown hZ.1 hP k0 hk rfl 4 (by decide) (hts (.fieldLink RX3 9 "TapeRobotics$Tape" "driveNumber" "I") (by decide +kernel)) (fun _ h9 => h9) rfl dX3_isInDrive_1 ?_
  refine lv_iconst (v := (-1)) hx hb dX3_isInDrive_4 (by decide) ?_
  refine lv_icmp_eq (tgt := 12) hx hb dX3_isInDrive_5 (by decide) (fun c_1 => ?_) (fun c_1 => ?_)
  · refine lv_iconst (v := bI (false)) hx hb dX3_isInDrive_12 (by decide) ?_
    exact zr_z hx hb hr hlocks (by rw [(oI_m1 h1).mp c_1]; rfl) dX3_isInDrive_13
  · refine lv_iconst (v := bI (true)) hx hb dX3_isInDrive_8 (by decide) ?_
    refine lv_goto (tgt := 13) hx hb dX3_isInDrive_9 (by decide) ?_
    exact zr_z hx hb hr hlocks (by cases dn with | none => exact absurd rfl c_1 | some _ => rfl) dX3_isInDrive_13

set_option maxHeartbeats 4000000 in
set_option maxRecDepth 100000 in
theorem c_X3_beginOf (l : Launch) (D : va_G) (cA : Nat → ClassId) (ws : va_W) (k0 h0 nu tr le sl fc bo : Nat) (dn : Option Nat) (hl0 : Bool) (hk : ws[k0]? = some (h0, zTape nu tr le sl dn hl0 fc bo)) (kb nb : Nat) (fb : Nat → Int32) (hkb : ws[kb]? = some (bo, zInts cA nb fb)) (hnb : nb < 2 ^ 31) (i : Nat) (hi : i < nb) : Met l yX3_beginOf wsX3_beginOf ({ frames := 1, cells := 0, slots := 0, locals := 21 }) (va_Pc [.ref h0, .int (nI (i))] (zS D cA ws)) (vp_Si (fun r => r = fb i)) 0 0 zF := by
  refine zOpen (cc := cX3_beginOf) (maxL := 2) (ret := (some .int)) (own := RX3) (by decide) rfl rfl (Nat.le_of_ble_eq_true rfl) ?_
  intro p e s m below meth c ls hx hb hr hml hts hown hlocks hnm ⟨hZ, hP⟩ hl
  have iX3 : ∀ w ∈ wsX30, w ∈ wsX3_beginOf := by decide +kernel
  have hl : lv_has ls 2 [(0, .ref h0), (1, .int (nI (i)))] := hl
  refine lv_aload_n hx hb dX3_beginOf_0 rfl (lv_at hl 0 rfl) ?_
  refine va_get (D := D) (ci := 3) (v := .ref bo) (C := RX3) (T := TX3) (N := 8) hx hb hts iX3 hown hZ.1 hP k0 hk rfl 7 (by decide) (hts (.fieldLink RX3 22 "TapeRobotics$Tape" "borders" "[I") (by decide +kernel)) (fun _ h9 => h9) rfl dX3_beginOf_1 ?_
  refine lv_iload_n hx hb dX3_beginOf_4 rfl (lv_at hl 1 rfl) ?_
  refine zk_SN_i (n := 2) (As := [.ref bo, .int (nI (i))]) (rest := []) hx hb hml hts hown hZ hP (c_X4_at l D cA _ kb bo nb fb hkb i (by omega) (by omega)) ggX3_beginOf_X4_at (List.mem_of_getElem? (i := 8) rfl) (by decide +kernel) rfl ⟨rfl, rfl⟩ ⟨by decide +kernel, Nat.le_of_ble_eq_true rfl, Nat.le_of_ble_eq_true rfl⟩ hl.1 rfl (Nat.le_of_ble_eq_true rfl) ⟨Nat.zero_le _, Nat.zero_le _⟩ rfl dX3_beginOf_5 (fun r_1 hr_2 => ?_)
  obtain rfl := show r_1 = _ from hr_2
  exact zr_i hx hb hr hlocks (rfl) dX3_beginOf_8

set_option maxHeartbeats 4000000 in
set_option maxRecDepth 100000 in
theorem c_X3_endOf (l : Launch) (D : va_G) (cA : Nat → ClassId) (ws : va_W) (k0 h0 nu tr le sl fc bo : Nat) (dn : Option Nat) (hl0 : Bool) (hk : ws[k0]? = some (h0, zTape nu tr le sl dn hl0 fc bo)) (kb nb : Nat) (fb : Nat → Int32) (hkb : ws[kb]? = some (bo, zInts cA nb fb)) (hnb : nb < 2 ^ 31) (i : Nat) (hi : i + 1 < nb) : Met l yX3_endOf wsX3_endOf ({ frames := 1, cells := 0, slots := 0, locals := 21 }) (va_Pc [.ref h0, .int (nI (i))] (zS D cA ws)) (vp_Si (fun r => r = fb (i + 1))) 0 0 zF := by
  refine zOpen (cc := cX3_endOf) (maxL := 2) (ret := (some .int)) (own := RX3) (by decide) rfl rfl (Nat.le_of_ble_eq_true rfl) ?_
  intro p e s m below meth c ls hx hb hr hml hts hown hlocks hnm ⟨hZ, hP⟩ hl
  have iX3 : ∀ w ∈ wsX30, w ∈ wsX3_endOf := by decide +kernel
  have hl : lv_has ls 2 [(0, .ref h0), (1, .int (nI (i)))] := hl
  refine lv_aload_n hx hb dX3_endOf_0 rfl (lv_at hl 0 rfl) ?_
  refine va_get (D := D) (ci := 3) (v := .ref bo) (C := RX3) (T := TX3) (N := 8) hx hb hts iX3 hown hZ.1 hP k0 hk rfl 7 (by decide) (hts (.fieldLink RX3 22 "TapeRobotics$Tape" "borders" "[I") (by decide +kernel)) (fun _ h9 => h9) rfl dX3_endOf_1 ?_
  refine lv_iload_n hx hb dX3_endOf_4 rfl (lv_at hl 1 rfl) ?_
  refine lv_iconst (v := nI (1)) hx hb dX3_endOf_5 (by decide) ?_
  refine zo_add hx hb dX3_endOf_6 ?_
  refine zk_SN_i (n := 2) (As := [.ref bo, .int (nI (i + 1))]) (rest := []) hx hb hml hts hown hZ hP (c_X4_at l D cA _ kb bo nb fb hkb (i + 1) (by omega) (by omega)) ggX3_endOf_X4_at (List.mem_of_getElem? (i := 8) rfl) (by decide +kernel) rfl ⟨rfl, rfl⟩ ⟨by decide +kernel, Nat.le_of_ble_eq_true rfl, Nat.le_of_ble_eq_true rfl⟩ hl.1 rfl (Nat.le_of_ble_eq_true rfl) ⟨Nat.zero_le _, Nat.zero_le _⟩ rfl dX3_endOf_7 (fun r_1 hr_2 => ?_)
  obtain rfl := show r_1 = _ from hr_2
  exact zr_i hx hb hr hlocks (rfl) dX3_endOf_10

set_option maxHeartbeats 4000000 in
set_option maxRecDepth 100000 in
theorem c_X3_trackOf (l : Launch) (D : va_G) (cA : Nat → ClassId) (ws : va_W) (k0 h0 nu tr le sl fc bo : Nat) (dn : Option Nat) (hl0 : Bool) (hk : ws[k0]? = some (h0, zTape nu tr le sl dn hl0 fc bo)) (p0 : Nat) (h1 : 1 ≤ tr) (h2 : 1 ≤ le) (h3 : p0 < 2 ^ 31) (h4 : tr < 2 ^ 31) (h5 : le < 2 ^ 31) : Met l yX3_trackOf wsX3_trackOf ({ frames := 0, cells := 0, slots := 0, locals := 0 }) (va_Pc [.ref h0, .int (nI (p0))] (zS D cA ws)) (vp_Si (fun r => r = nI (trk tr le p0))) 0 0 zF := by
  refine zOpen (cc := cX3_trackOf) (maxL := 3) (ret := (some .int)) (own := RX3) (by decide) rfl rfl (Nat.le_of_ble_eq_true rfl) ?_
  intro p e s m below meth c ls hx hb hr hml hts hown hlocks hnm ⟨hZ, hP⟩ hl
  have iX3 : ∀ w ∈ wsX30, w ∈ wsX3_trackOf := by decide +kernel
  have hl : lv_has ls 3 [(0, .ref h0), (1, .int (nI (p0)))] := hl
  have h6 : p0 / le ≤ p0 := Nat.div_le_self p0 le
  refine lv_aload_n hx hb dX3_trackOf_0 rfl (lv_at hl 0 rfl) ?_
  refine va_get (D := D) (ci := 3) (v := .int (nI (le))) (C := RX3) (T := TX3) (N := 8) hx hb hts iX3 hown hZ.1 hP k0 hk rfl 2 (by decide) (hts (.fieldLink RX3 32 "TapeRobotics$Tape" "length" "I") (by decide +kernel)) (fun _ h9 => h9) rfl dX3_trackOf_1 ?_
  refine zf_le (tgt := 16) hx hb (by omega) dX3_trackOf_4 (by decide) (fun c_1 => False.elim (by omega)) (fun c_1 => ?_)
  refine lv_iload_n hx hb dX3_trackOf_7 rfl (lv_at hl 1 rfl) ?_
  refine lv_aload_n hx hb dX3_trackOf_8 rfl (lv_at hl 0 rfl) ?_
  refine va_get (D := D) (ci := 3) (v := .int (nI (le))) (C := RX3) (T := TX3) (N := 8) hx hb hts iX3 hown hZ.1 hP k0 hk rfl 2 (by decide) (hts (.fieldLink RX3 32 "TapeRobotics$Tape" "length" "I") (by decide +kernel)) (fun _ h9 => h9) rfl dX3_trackOf_9 ?_
  refine zo_div hx hb (by omega) (by omega) (by omega) dX3_trackOf_12 ?_
  refine lv_goto (tgt := 17) hx hb dX3_trackOf_13 (by decide) ?_
  refine lv_istore_n (lv' := [(2, .int (nI (p0 / le))), (0, .ref h0), (1, .int (nI (p0)))]) hx hb dX3_trackOf_17 rfl hl (by decide) rfl (fun ls hl => ?_)
  refine lv_iload_n hx hb dX3_trackOf_18 rfl (lv_at hl 0 rfl) ?_
  refine lv_aload_n hx hb dX3_trackOf_19 rfl (lv_at hl 1 rfl) ?_
  refine va_get (D := D) (ci := 3) (v := .int (nI (tr))) (C := RX3) (T := TX3) (N := 8) hx hb hts iX3 hown hZ.1 hP k0 hk rfl 1 (by decide) (hts (.fieldLink RX3 29 "TapeRobotics$Tape" "tracks" "I") (by decide +kernel)) (fun _ h9 => h9) rfl dX3_trackOf_20 ?_
  refine zc_ge (tgt := 30) hx hb (by omega) (by omega) dX3_trackOf_23 (by decide) (fun c_2 => ?_) (fun c_2 => ?_)
  · refine lv_aload_n hx hb dX3_trackOf_30 rfl (lv_at hl 1 rfl) ?_
    refine va_get (D := D) (ci := 3) (v := .int (nI (tr))) (C := RX3) (T := TX3) (N := 8) hx hb hts iX3 hown hZ.1 hP k0 hk rfl 1 (by decide) (hts (.fieldLink RX3 29 "TapeRobotics$Tape" "tracks" "I") (by decide +kernel)) (fun _ h9 => h9) rfl dX3_trackOf_31 ?_
    refine lv_iconst (v := nI (1)) hx hb dX3_trackOf_34 (by decide) ?_
    refine zo_sub hx hb (by omega) dX3_trackOf_35 ?_
    exact zr_i hx hb hr hlocks (by unfold trk; split <;> first | rfl | omega) dX3_trackOf_36
  · refine lv_iload_n hx hb dX3_trackOf_26 rfl (lv_at hl 0 rfl) ?_
    refine lv_goto (tgt := 36) hx hb dX3_trackOf_27 (by decide) ?_
    exact zr_i hx hb hr hlocks (by unfold trk; split <;> first | rfl | omega) dX3_trackOf_36

set_option maxHeartbeats 4000000 in
set_option maxRecDepth 100000 in
theorem c_X3_distanceAlong (l : Launch) (D : va_G) (cA : Nat → ClassId) (ws : va_W) (k0 h0 nu tr le sl fc bo : Nat) (dn : Option Nat) (hl0 : Bool) (hk : ws[k0]? = some (h0, zTape nu tr le sl dn hl0 fc bo)) (p0 : Nat) (h1 : 1 ≤ tr) (h2 : 1 ≤ le) (h3 : p0 < 2 ^ 31) (h4 : tr < 2 ^ 31) (h5 : le < 2 ^ 31) : Met l yX3_distanceAlong wsX3_distanceAlong ({ frames := 1, cells := 0, slots := 0, locals := 22 }) (va_Pc [.ref h0, .int (nI (p0))] (zS D cA ws)) (vp_Si (fun r => r = nI (alo tr le p0))) 0 0 zF := by
  refine zOpen (cc := cX3_distanceAlong) (maxL := 4) (ret := (some .int)) (own := RX3) (by decide) rfl rfl (Nat.le_of_ble_eq_true rfl) ?_
  intro p e s m below meth c ls hx hb hr hml hts hown hlocks hnm ⟨hZ, hP⟩ hl
  have iX3 : ∀ w ∈ wsX30, w ∈ wsX3_distanceAlong := by decide +kernel
  have hl : lv_has ls 4 [(0, .ref h0), (1, .int (nI (p0)))] := hl
  have h6 : trk tr le p0 * le ≤ p0 := trk_mul
  have h7 : trk tr le p0 < tr := trk_le (by omega)
  refine lv_aload_n hx hb dX3_distanceAlong_0 rfl (lv_at hl 0 rfl) ?_
  refine lv_iload_n hx hb dX3_distanceAlong_1 rfl (lv_at hl 1 rfl) ?_
  refine zk_V_i (n := 1) (As := [.int (nI (p0))]) (rest := []) hx hb hml hts hown hZ hP (c_X3_trackOf l D cA _ k0 h0 nu tr le sl fc bo dn hl0 hk p0 (by omega) (by omega) (by omega) (by omega) (by omega)) gX3_distanceAlong_X3_trackOf rfl rfl ⟨rfl, rfl⟩ ⟨by decide +kernel, Nat.le_of_ble_eq_true rfl, Nat.le_of_ble_eq_true rfl⟩ hk rfl hl.1 rfl (Nat.le_of_ble_eq_true rfl) ⟨Nat.zero_le _, Nat.zero_le _⟩ rfl dX3_distanceAlong_2 (fun r_1 hr_2 => ?_)
  obtain rfl := show r_1 = _ from hr_2
  refine lv_istore_n (lv' := [(2, .int (nI (trk tr le p0))), (0, .ref h0), (1, .int (nI (p0)))]) hx hb dX3_distanceAlong_5 rfl hl (by decide) rfl (fun ls hl => ?_)
  refine lv_iload_n hx hb dX3_distanceAlong_6 rfl (lv_at hl 2 rfl) ?_
  refine lv_iload_n hx hb dX3_distanceAlong_7 rfl (lv_at hl 0 rfl) ?_
  refine lv_aload_n hx hb dX3_distanceAlong_8 rfl (lv_at hl 1 rfl) ?_
  refine va_get (D := D) (ci := 3) (v := .int (nI (le))) (C := RX3) (T := TX3) (N := 8) hx hb hts iX3 hown hZ.1 hP k0 hk rfl 2 (by decide) (hts (.fieldLink RX3 32 "TapeRobotics$Tape" "length" "I") (by decide +kernel)) (fun _ h9 => h9) rfl dX3_distanceAlong_9 ?_
  refine zo_mul hx hb dX3_distanceAlong_12 ?_
  refine zo_sub hx hb (by omega) dX3_distanceAlong_13 ?_
  refine lv_aload_n hx hb dX3_distanceAlong_14 rfl (lv_at hl 1 rfl) ?_
  refine va_get (D := D) (ci := 3) (v := .int (nI (le))) (C := RX3) (T := TX3) (N := 8) hx hb hts iX3 hown hZ.1 hP k0 hk rfl 2 (by decide) (hts (.fieldLink RX3 32 "TapeRobotics$Tape" "length" "I") (by decide +kernel)) (fun _ h9 => h9) rfl dX3_distanceAlong_15 ?_
  refine lv_iconst (v := nI (1)) hx hb dX3_distanceAlong_18 (by decide) ?_
  refine zo_sub hx hb (by omega) dX3_distanceAlong_19 ?_
  refine va_mmin hx hb (hml.trans hl.1.symm) hown (hts (.methodLink RX3 57 Lib.Math.min.name) (by decide +kernel)) (hts (.static Lib.Math.min.name) (by decide +kernel)) (hts (.initialized "java/lang/Math") (by decide +kernel)) (hts (.code Lib.Math.min.name Lib.Math.min.code 2 (some .int)) (by decide +kernel)) (Nat.le_of_ble_eq_true rfl) (Nat.le_of_ble_eq_true rfl) (Nat.le_of_ble_eq_true rfl) (Nat.le_of_ble_eq_true rfl) dX3_distanceAlong_20 ?_
  refine zx_val (zm_min (by omega) (by omega)) ?_
  refine lv_istore_n (lv' := [(3, .int (nI (min (p0 - ((trk tr le p0) * le)) (le - 1)))), (2, .int (nI (trk tr le p0))), (0, .ref h0), (1, .int (nI (p0)))]) hx hb dX3_distanceAlong_23 rfl hl (by decide) rfl (fun ls hl => ?_)
  refine lv_iload_n hx hb dX3_distanceAlong_24 rfl (lv_at hl 1 rfl) ?_
  refine lv_iconst (v := nI (1)) hx hb dX3_distanceAlong_25 (by decide) ?_
  refine lv_iand hx hb dX3_distanceAlong_26 ?_
  refine zx_val (y := nI (trk tr le p0 % 2)) (z_and1 (by omega)) ?_
  refine zf_ne (tgt := 34) hx hb (by omega) dX3_distanceAlong_27 (by decide) (fun c_3 => ?_) (fun c_3 => ?_)
  · refine lv_aload_n hx hb dX3_distanceAlong_34 rfl (lv_at hl 2 rfl) ?_
    refine va_get (D := D) (ci := 3) (v := .int (nI (le))) (C := RX3) (T := TX3) (N := 8) hx hb hts iX3 hown hZ.1 hP k0 hk rfl 2 (by decide) (hts (.fieldLink RX3 32 "TapeRobotics$Tape" "length" "I") (by decide +kernel)) (fun _ h9 => h9) rfl dX3_distanceAlong_35 ?_
    refine lv_iconst (v := nI (1)) hx hb dX3_distanceAlong_38 (by decide) ?_
    refine zo_sub hx hb (by omega) dX3_distanceAlong_39 ?_
    refine lv_iload_n hx hb dX3_distanceAlong_40 rfl (lv_at hl 0 rfl) ?_
    refine zo_sub hx hb (by omega) dX3_distanceAlong_41 ?_
    exact zr_i hx hb hr hlocks (by unfold alo; split <;> first | rfl | omega) dX3_distanceAlong_42
  · refine lv_iload_n hx hb dX3_distanceAlong_30 rfl (lv_at hl 0 rfl) ?_
    refine lv_goto (tgt := 42) hx hb dX3_distanceAlong_31 (by decide) ?_
    exact zr_i hx hb hr hlocks (by unfold alo; split <;> first | rfl | omega) dX3_distanceAlong_42

set_option maxHeartbeats 4000000 in
set_option maxRecDepth 100000 in
theorem c_X3_hasRoomFor (l : Launch) (D : va_G) (cA : Nat → ClassId) (ws : va_W) (k0 h0 nu tr le sl fc bo : Nat) (dn : Option Nat) (hl0 : Bool) (hk : ws[k0]? = some (h0, zTape nu tr le sl dn hl0 fc bo)) (kb nb : Nat) (bn : Nat → Nat) (hkb : ws[kb]? = some (bo, zInts cA nb (fun k => nI (bn k)))) (hnb : nb < 2 ^ 31) (bl : Nat) (h1 : 10 < nb) (h2 : fc < 2 ^ 31) (h3 : bn fc + bl < 2 ^ 31) (h4 : tr * le < 2 ^ 31) : Met l yX3_hasRoomFor wsX3_hasRoomFor ({ frames := 2, cells := 0, slots := 0, locals := 42 }) (va_Pc [.ref h0, .int (nI (bl))] (zS D cA ws)) (vp_Si (fun r => r = bI (decide (fc < 10 ∧ bn fc + bl ≤ tr * le)))) 0 0 zF := by
  refine zOpen (cc := cX3_hasRoomFor) (maxL := 2) (ret := (some .boolean)) (own := RX3) (by decide) rfl rfl (Nat.le_of_ble_eq_true rfl) ?_
  intro p e s m below meth c ls hx hb hr hml hts hown hlocks hnm ⟨hZ, hP⟩ hl
  have iX3 : ∀ w ∈ wsX30, w ∈ wsX3_hasRoomFor := by decide +kernel
  have hl : lv_has ls 2 [(0, .ref h0), (1, .int (nI (bl)))] := hl
  refine lv_aload_n hx hb dX3_hasRoomFor_0 rfl (lv_at hl 0 rfl) ?_
  refine va_get (D := D) (ci := 3) (v := .int (nI (fc))) (C := RX3) (T := TX3) (N := 8) hx hb hts iX3 hown hZ.1 hP k0 hk rfl 6 (by decide) (hts (.fieldLink RX3 19 "TapeRobotics$Tape" "fileCount" "I") (by decide +kernel)) (fun _ h9 => h9) rfl dX3_hasRoomFor_1 ?_
  refine lv_bipush (v := nI (10)) hx hb dX3_hasRoomFor_4 (by decide) ?_
  refine zc_ge (tgt := 30) hx hb (by omega) (by omega) dX3_hasRoomFor_6 (by decide) (fun c_1 => ?_) (fun c_1 => ?_)
  · refine lv_iconst (v := bI (false)) hx hb dX3_hasRoomFor_30 (by decide) ?_
    exact zr_z hx hb hr hlocks (congrArg bI (decide_eq_false (by omega)).symm) dX3_hasRoomFor_31
  · refine lv_aload_n hx hb dX3_hasRoomFor_9 rfl (lv_at hl 0 rfl) ?_
    refine lv_aload_n hx hb dX3_hasRoomFor_10 rfl (lv_at hl 0 rfl) ?_
    refine va_get (D := D) (ci := 3) (v := .int (nI (fc))) (C := RX3) (T := TX3) (N := 8) hx hb hts iX3 hown hZ.1 hP k0 hk rfl 6 (by decide) (hts (.fieldLink RX3 19 "TapeRobotics$Tape" "fileCount" "I") (by decide +kernel)) (fun _ h9 => h9) rfl dX3_hasRoomFor_11 ?_
    refine zk_V_i (n := 1) (As := [.int (nI (fc))]) (rest := []) hx hb hml hts hown hZ hP (c_X3_beginOf l D cA _ k0 h0 nu tr le sl fc bo dn hl0 hk kb nb (fun k => nI (bn k)) hkb (by omega) fc (by omega)) gX3_hasRoomFor_X3_beginOf rfl rfl ⟨rfl, rfl⟩ ⟨by decide +kernel, Nat.le_of_ble_eq_true rfl, Nat.le_of_ble_eq_true rfl⟩ hk rfl hl.1 rfl (Nat.le_of_ble_eq_true rfl) ⟨Nat.zero_le _, Nat.zero_le _⟩ rfl dX3_hasRoomFor_14 (fun r_2 hr_3 => ?_)
    obtain rfl := show r_2 = _ from hr_3
    refine lv_iload_n hx hb dX3_hasRoomFor_17 rfl (lv_at hl 1 rfl) ?_
    refine zo_add hx hb dX3_hasRoomFor_18 ?_
    refine lv_aload_n hx hb dX3_hasRoomFor_19 rfl (lv_at hl 0 rfl) ?_
    refine zk_V_i (n := 0) (As := []) (rest := [.int (nI ((bn fc) + bl))]) hx hb hml hts hown hZ hP (c_X3_places l D cA _ k0 h0 nu tr le sl fc bo dn hl0 hk) gX3_hasRoomFor_X3_places rfl rfl ⟨rfl, rfl⟩ ⟨by decide +kernel, Nat.le_of_ble_eq_true rfl, Nat.le_of_ble_eq_true rfl⟩ hk rfl hl.1 rfl (Nat.le_of_ble_eq_true rfl) ⟨Nat.zero_le _, Nat.zero_le _⟩ rfl dX3_hasRoomFor_20 (fun r_4 hr_5 => ?_)
    obtain rfl := show r_4 = _ from hr_5
    refine zc_gt (tgt := 30) hx hb (by omega) (by omega) dX3_hasRoomFor_23 (by decide) (fun c_6 => ?_) (fun c_6 => ?_)
    · refine lv_iconst (v := bI (false)) hx hb dX3_hasRoomFor_30 (by decide) ?_
      exact zr_z hx hb hr hlocks (congrArg bI (decide_eq_false (by omega)).symm) dX3_hasRoomFor_31
    · refine lv_iconst (v := bI (true)) hx hb dX3_hasRoomFor_26 (by decide) ?_
      refine lv_goto (tgt := 31) hx hb dX3_hasRoomFor_27 (by decide) ?_
      exact zr_z hx hb hr hlocks (congrArg bI (decide_eq_true (by omega)).symm) dX3_hasRoomFor_31

set_option maxHeartbeats 4000000 in
set_option maxRecDepth 100000 in
theorem c_X3_append (l : Launch) (D : va_G) (cA : Nat → ClassId) (sz : Nat) (ws : va_W) (k0 h0 nu tr le sl fc bo : Nat) (dn : Option Nat) (hl0 : Bool) (hk : ws[k0]? = some (h0, zTape nu tr le sl dn hl0 fc bo)) (kb nb : Nat) (bn : Nat → Nat) (hkb : ws[kb]? = some (bo, zInts cA nb (fun k => nI (bn k)))) (hnb : nb < 2 ^ 31) (bl : Nat) (h1 : fc + 1 < nb) (h2 : fc < 2 ^ 31)  : Met l yX3_append wsX3_append ({ frames := 2, cells := 0, slots := 0, locals := 42 }) (va_Pc [.ref h0, .int (nI (bl))] (zM D cA (ws) sz)) (va_Qi (fun (r : Int32) (u : Unit) => r = nI (fc)) (fun u => zB D (va_A (ws) sz) ((ws.set kb (bo, zInts cA nb (upd (fun k => nI (bn k)) (fc + 1) (nI (bn fc + bl))))).set k0 (h0, zTape nu tr le sl dn hl0 (fc + 1) bo))) (va_A (ws) sz)) 0 0 (va_A (ws) sz) := by
  refine zOpen (cc := cX3_append) (maxL := 2) (ret := (some .int)) (own := RX3) (by decide) rfl rfl (Nat.le_of_ble_eq_true rfl) ?_
  intro p e s m below meth c ls hx hb hr hml hts hown hlocks hnm ⟨hZ, hP, hD0, hsz⟩ hl
  subst hsz
  have hD := hD0.self (sz := s.heap.size)
  generalize hAe : va_A (ws) s.heap.size = A at hD ⊢
  have hA : ∀ q : Nat, s.heap.size ≤ q → A q := fun q h => by rw [← hAe]; exact Or.inr h
  have hS : va_S A s.heap s.heap [] := va_S.rf
  have iX3 : ∀ w ∈ wsX30, w ∈ wsX3_append := by decide +kernel
  have hl : lv_has ls 2 [(0, .ref h0), (1, .int (nI (bl)))] := hl
  refine lv_aload_n hx hb dX3_append_0 rfl (lv_at hl 0 rfl) ?_
  refine va_get (D := D) (ci := 3) (v := .ref bo) (C := RX3) (T := TX3) (N := 8) hx hb hts iX3 hown hZ.1 hP k0 hk rfl 7 (by decide) (hts (.fieldLink RX3 22 "TapeRobotics$Tape" "borders" "[I") (by decide +kernel)) (fun _ h9 => h9) rfl dX3_append_1 ?_
  refine lv_aload_n hx hb dX3_append_4 rfl (lv_at hl 0 rfl) ?_
  refine va_get (D := D) (ci := 3) (v := .int (nI (fc))) (C := RX3) (T := TX3) (N := 8) hx hb hts iX3 hown hZ.1 hP k0 hk rfl 6 (by decide) (hts (.fieldLink RX3 19 "TapeRobotics$Tape" "fileCount" "I") (by decide +kernel)) (fun _ h9 => h9) rfl dX3_append_5 ?_
  refine lv_iconst (v := nI (1)) hx hb dX3_append_8 (by decide) ?_
  refine zo_add hx hb dX3_append_9 ?_
  refine lv_aload_n hx hb dX3_append_10 rfl (lv_at hl 0 rfl) ?_
  refine lv_aload_n hx hb dX3_append_11 rfl (lv_at hl 0 rfl) ?_
  refine va_get (D := D) (ci := 3) (v := .int (nI (fc))) (C := RX3) (T := TX3) (N := 8) hx hb hts iX3 hown hZ.1 hP k0 hk rfl 6 (by decide) (hts (.fieldLink RX3 19 "TapeRobotics$Tape" "fileCount" "I") (by decide +kernel)) (fun _ h9 => h9) rfl dX3_append_12 ?_
  refine zk_V_i (n := 1) (As := [.int (nI (fc))]) (rest := [.int (nI (fc + 1)), .ref bo]) hx hb hml hts hown hZ hP (c_X3_beginOf l D cA _ k0 h0 nu tr le sl fc bo dn hl0 hk kb nb (fun k => nI (bn k)) hkb (by omega) fc (by omega)) gX3_append_X3_beginOf rfl rfl ⟨rfl, rfl⟩ ⟨by decide +kernel, Nat.le_of_ble_eq_true rfl, Nat.le_of_ble_eq_true rfl⟩ hk rfl hl.1 rfl (Nat.le_of_ble_eq_true rfl) ⟨Nat.zero_le _, Nat.zero_le _⟩ rfl dX3_append_15 (fun r_1 hr_2 => ?_)
  obtain rfl := show r_1 = _ from hr_2
  refine lv_iload_n hx hb dX3_append_18 rfl (lv_at hl 1 rfl) ?_
  refine zo_add hx hb dX3_append_19 ?_
  refine zw_SN_v (n := 3) (mc := 0) (ms := 0) (As := [.ref bo, .int (nI (fc + 1)), .int (nI ((bn fc) + bl))]) (rest := []) (w1 := fun _ : Unit => ws.set kb (bo, zInts cA nb (upd (fun k => nI (bn k)) (fc + 1) (nI ((bn fc) + bl))))) hx hb hml hts hown hZ hP hD hS hA (c_X4_put l D cA _ _ kb bo nb (fun k => nI (bn k)) hkb (fc + 1) (by omega) (by omega) (nI ((bn fc) + bl))) ggX3_append_X4_put (List.mem_of_getElem? (i := 20) rfl) (by decide +kernel) rfl ⟨rfl, rfl⟩ ⟨by decide +kernel, Nat.le_of_ble_eq_true rfl, Nat.le_of_ble_eq_true rfl⟩ hl.1 rfl (Nat.le_of_ble_eq_true rfl) ⟨Nat.le_of_ble_eq_true rfl, Nat.le_of_ble_eq_true rfl⟩ rfl dX3_append_20 (fun u_5 H locs hr_4 hP hD hS hz_5 => ?_)
  have hP : va_P D vwCl (ws.set kb (bo, zInts cA nb (upd (fun k => nI (bn k)) (fc + 1) (nI ((bn fc) + bl))))) H := hP
  have hD : va_D A (ws.set kb (bo, zInts cA nb (upd (fun k => nI (bn k)) (fc + 1) (nI ((bn fc) + bl))))) := hD
  refine lv_aload_n hx hb dX3_append_23 rfl (lv_at hl 0 rfl) ?_
  refine lv_dup hx hb dX3_append_24 rfl ?_
  refine va_get (D := D) (ci := 3) (v := .int (nI (fc))) (C := RX3) (T := TX3) (N := 8) hx hb hts iX3 hown hZ.1 hP k0 (zset_n hk (fun q => by rw [q, hk] at hkb; cases hkb)) rfl 6 (by decide) (hts (.fieldLink RX3 19 "TapeRobotics$Tape" "fileCount" "I") (by decide +kernel)) (fun _ h9 => h9) rfl dX3_append_25 ?_
  refine lv_iconst (v := nI (1)) hx hb dX3_append_28 (by decide) ?_
  refine zo_add hx hb dX3_append_29 ?_
  refine va_put (D := D) (ci := 3) (v := .int (nI (fc + 1))) (ty := .int) (C := RX3) (T := TX3) (N := 8) hx hb hts iX3 tyX3 tyX3_ok nmX3 hown hZ.1 hP hD hS k0 (zset_n hk (fun q => by rw [q, hk] at hkb; cases hkb)) rfl 6 (by decide) (hts (.fieldLink RX3 19 "TapeRobotics$Tape" "fileCount" "I") (by decide +kernel)) (fun _ h9 => h9) rfl (by decide +kernel) rfl rfl (Nat.le_of_ble_eq_true rfl) dX3_append_30 (fun H locs hP hD hS => ?_)
  have hP : va_P D vwCl ((ws.set kb (bo, zInts cA nb (upd (fun k => nI (bn k)) (fc + 1) (nI ((bn fc) + bl))))).set k0 (h0, .inr (3, [.int (nI (nu)), .int (nI (tr)), .int (nI (le)), .int (nI (sl)), .int (oI dn), .int (bI (hl0)), .int (nI (fc + 1)), .ref bo]))) H := hP
  have hD : va_D A ((ws.set kb (bo, zInts cA nb (upd (fun k => nI (bn k)) (fc + 1) (nI ((bn fc) + bl))))).set k0 (h0, .inr (3, [.int (nI (nu)), .int (nI (tr)), .int (nI (le)), .int (nI (sl)), .int (oI dn), .int (bI (hl0)), .int (nI (fc + 1)), .ref bo]))) := hD
  refine lv_aload_n hx hb dX3_append_33 rfl (lv_at hl 0 rfl) ?_
  refine va_get (D := D) (ci := 3) (v := .int (nI (fc + 1))) (C := RX3) (T := TX3) (N := 8) hx hb hts iX3 hown hZ.1 hP k0 (zset_s (zset_n hk (fun q => by rw [q, hk] at hkb; cases hkb))) rfl 6 (by decide) (hts (.fieldLink RX3 19 "TapeRobotics$Tape" "fileCount" "I") (by decide +kernel)) (fun _ h9 => h9) rfl dX3_append_34 ?_
  refine lv_iconst (v := nI (1)) hx hb dX3_append_37 (by decide) ?_
  refine zo_sub hx hb (by omega) dX3_append_38 ?_
  exact zr_qi (S := Unit) (w1 := fun u => (ws.set kb (bo, zInts cA nb (upd (fun k => nI (bn k)) (fc + 1) (nI (bn fc + bl))))).set k0 (h0, zTape nu tr le sl dn hl0 (fc + 1) bo)) () hx hb hr hlocks (by rw [Nat.add_sub_cancel]) hP hD hS (rfl) dX3_append_39
