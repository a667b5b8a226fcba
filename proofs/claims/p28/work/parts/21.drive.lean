set_option maxHeartbeats 4000000 in
set_option maxRecDepth 100000 in
theorem c_X0_wantsCleaning (l : Launch) (D : va_G) (cA : Nat → ClassId) (ws : va_W) (k0 h0 nu pa sp : Nat) (mt : Option Nat) (pl tm : Int32) (ct : Nat) (hk : ws[k0]? = some (h0, zDrive nu pa sp mt pl tm ct)) (h : ct < 2 ^ 31) : Met l yX0_wantsCleaning wsX0_wantsCleaning ({ frames := 0, cells := 0, slots := 0, locals := 0 }) (va_Pc [.ref h0] (zS D cA ws)) (vp_Si (fun r => r = bI (decide (12 ≤ ct)))) 0 0 zF := by
  refine zOpen (cc := cX0_wantsCleaning) (maxL := 1) (ret := (some .boolean)) (own := RX0) (by decide) rfl rfl (Nat.le_of_ble_eq_true rfl) ?_
  intro p e s m below meth c ls hx hb hr hml hts hown hlocks hnm ⟨hZ, hP⟩ hl
  have iX0 : ∀ w ∈ wsX00, w ∈ wsX0_wantsCleaning := by decide +kernel
  have hl : lv_has ls 1 [(0, .ref h0)] := hl
  refine lv_aload_n hx hb dX0_wantsCleaning_0 rfl (lv_at hl 0 rfl) ?_
  refine va_get (D := D) (ci := 0) (v := .int (nI (ct))) (C := RX0) (T := TX0) (N := 7) hx hb hts iX0 hown hZ.1 hP k0 hk rfl 6 (by decide) (hts (.fieldLink RX0 22 "TapeRobotics$Drive" "filesSinceCleaning" "I") (by decide +kernel)) (fun _ h9 => h9) rfl dX0_wantsCleaning_1 ?_
  refine lv_bipush (v := nI (12)) hx hb dX0_wantsCleaning_4 (by decide) ?_
  refine zc_lt (tgt := 13) hx hb (by omega) (by omega) dX0_wantsCleaning_6 (by decide) (fun c_1 => ?_) (fun c_1 => ?_)
  · refine lv_iconst (v := bI (false)) hx hb dX0_wantsCleaning_13 (by decide) ?_
    exact zr_z hx hb hr hlocks (congrArg bI (decide_eq_false (by omega)).symm) dX0_wantsCleaning_14
  · refine lv_iconst (v := bI (true)) hx hb dX0_wantsCleaning_9 (by decide) ?_
    refine lv_goto (tgt := 14) hx hb dX0_wantsCleaning_10 (by decide) ?_
    exact zr_z hx hb hr hlocks (congrArg bI (decide_eq_true (by omega)).symm) dX0_wantsCleaning_14

set_option maxHeartbeats 4000000 in
set_option maxRecDepth 100000 in
theorem c_X0_spend (l : Launch) (D : va_G) (cA : Nat → ClassId) (sz : Nat) (ws : va_W) (k0 h0 nu pa sp : Nat) (mt : Option Nat) (pl tm : Int32) (ct : Nat) (hk : ws[k0]? = some (h0, zDrive nu pa sp mt pl tm ct)) (x : Int32) : Met l yX0_spend wsX0_spend ({ frames := 0, cells := 0, slots := 0, locals := 0 }) (va_Pc [.ref h0, .int (x)] (zM D cA (ws) sz)) (va_Qi (fun (r : Int32) (u : Unit) => r = x) (fun u => zB D (va_A (ws) sz) (ws.set k0 (h0, zDrive nu pa sp mt pl (tm + x) ct))) (va_A (ws) sz)) 0 0 (va_A (ws) sz) := by
  refine zOpen (cc := cX0_spend) (maxL := 2) (ret := (some .int)) (own := RX0) (by decide) rfl rfl (Nat.le_of_ble_eq_true rfl) ?_
  intro p e s m below meth c ls hx hb hr hml hts hown hlocks hnm ⟨hZ, hP, hD0, hsz⟩ hl
  subst hsz
  have hD := hD0.self (sz := s.heap.size)
  generalize hAe : va_A (ws) s.heap.size = A at hD ⊢
  have hA : ∀ q : Nat, s.heap.size ≤ q → A q := fun q h => by rw [← hAe]; exact Or.inr h
  have hS : va_S A s.heap s.heap [] := va_S.rf
  have iX0 : ∀ w ∈ wsX00, w ∈ wsX0_spend := by decide +kernel
  have hl : lv_has ls 2 [(0, .ref h0), (1, .int (x))] := hl
  refine lv_aload_n hx hb dX0_spend_0 rfl (lv_at hl 0 rfl) ?_
  refine lv_dup hx hb dX0_spend_1 rfl ?_
  refine va_get (D := D) (ci := 0) (v := .int (tm)) (C := RX0) (T := TX0) (N := 7) hx hb hts iX0 hown hZ.1 hP k0 hk rfl 5 (by decide) (hts (.fieldLink RX0 19 "TapeRobotics$Drive" "time" "I") (by decide +kernel)) (fun _ h9 => h9) rfl dX0_spend_2 ?_
  refine lv_iload_n hx hb dX0_spend_5 rfl (lv_at hl 1 rfl) ?_
  refine lv_iadd hx hb dX0_spend_6 ?_
  refine va_put (D := D) (ci := 0) (v := .int ((tm) + (x))) (ty := .int) (C := RX0) (T := TX0) (N := 7) hx hb hts iX0 tyX0 tyX0_ok nmX0 hown hZ.1 hP hD hS k0 hk rfl 5 (by decide) (hts (.fieldLink RX0 19 "TapeRobotics$Drive" "time" "I") (by decide +kernel)) (fun _ h9 => h9) rfl (by decide +kernel) rfl rfl (Nat.le_of_ble_eq_true rfl) dX0_spend_7 (fun H locs hP hD hS => ?_)
  have hP : va_P D vwCl (ws.set k0 (h0, .inr (0, [.int (nI (nu)), .int (nI (pa)), .int (nI (sp)), va_rf (mt), .int (pl), .int ((tm) + (x)), .int (nI (ct))]))) H := hP
  have hD : va_D A (ws.set k0 (h0, .inr (0, [.int (nI (nu)), .int (nI (pa)), .int (nI (sp)), va_rf (mt), .int (pl), .int ((tm) + (x)), .int (nI (ct))]))) := hD
  refine lv_iload_n hx hb dX0_spend_10 rfl (lv_at hl 1 rfl) ?_
  exact zr_qi (S := Unit) (w1 := fun u => ws.set k0 (h0, zDrive nu pa sp mt pl (tm + x) ct)) () hx hb hr hlocks (rfl) hP hD hS (rfl) dX0_spend_11

set_option maxHeartbeats 4000000 in
set_option maxRecDepth 100000 in
theorem c_X0_robotTime (l : Launch) (D : va_G) (cA : Nat → ClassId) (ws : va_W) (k0 h0 nu pa sp : Nat) (mt : Option Nat) (pl tm : Int32) (ct : Nat) (hk : ws[k0]? = some (h0, zDrive nu pa sp mt pl tm ct)) (sl : Nat) (h1 : nu < 2 ^ 27) (h2 : sl < 2 ^ 30) : Met l yX0_robotTime wsX0_robotTime ({ frames := 1, cells := 0, slots := 0, locals := 21 }) (va_Pc [.ref h0, .int (nI (sl))] (zS D cA ws)) (vp_Si (fun r => r = nI (20 + 2 * dif (4 * nu) sl))) 0 0 zF := by
  refine zOpen (cc := cX0_robotTime) (maxL := 3) (ret := (some .int)) (own := RX0) (by decide) rfl rfl (Nat.le_of_ble_eq_true rfl) ?_
  intro p e s m below meth c ls hx hb hr hml hts hown hlocks hnm ⟨hZ, hP⟩ hl
  have iX0 : ∀ w ∈ wsX00, w ∈ wsX0_robotTime := by decide +kernel
  have hl : lv_has ls 3 [(0, .ref h0), (1, .int (nI (sl)))] := hl
  refine lv_iconst (v := nI (4)) hx hb dX0_robotTime_0 (by decide) ?_
  refine lv_aload_n hx hb dX0_robotTime_1 rfl (lv_at hl 0 rfl) ?_
  refine va_get (D := D) (ci := 0) (v := .int (nI (nu))) (C := RX0) (T := TX0) (N := 7) hx hb hts iX0 hown hZ.1 hP k0 hk rfl 0 (by decide) (hts (.fieldLink RX0 25 "TapeRobotics$Drive" "number" "I") (by decide +kernel)) (fun _ h9 => h9) rfl dX0_robotTime_2 ?_
  refine zo_mul hx hb dX0_robotTime_5 ?_
  refine lv_istore_n (lv' := [(2, .int (nI (4 * nu))), (0, .ref h0), (1, .int (nI (sl)))]) hx hb dX0_robotTime_6 rfl hl (by decide) rfl (fun ls hl => ?_)
  refine lv_bipush (v := nI (20)) hx hb dX0_robotTime_7 (by decide) ?_
  refine lv_iconst (v := nI (2)) hx hb dX0_robotTime_9 (by decide) ?_
  refine lv_iload_n hx hb dX0_robotTime_10 rfl (lv_at hl 0 rfl) ?_
  refine lv_iload_n hx hb dX0_robotTime_11 rfl (lv_at hl 2 rfl) ?_
  refine lv_isub hx hb dX0_robotTime_12 ?_
  refine zx_val (y := nI (4 * nu) - nI sl) (rfl) ?_
  refine va_mabs hx hb (hml.trans hl.1.symm) hown (hts (.methodLink RX0 34 Lib.Math.abs.name) (by decide +kernel)) (hts (.static Lib.Math.abs.name) (by decide +kernel)) (hts (.initialized "java/lang/Math") (by decide +kernel)) (hts (.code Lib.Math.abs.name Lib.Math.abs.code 1 (some .int)) (by decide +kernel)) (Nat.le_of_ble_eq_true rfl) (Nat.le_of_ble_eq_true rfl) (Nat.le_of_ble_eq_true rfl) (Nat.le_of_ble_eq_true rfl) dX0_robotTime_13 ?_
  refine zx_val (y := nI (dif (4 * nu) sl)) (zm_abs (by omega) (by omega)) ?_
  refine zo_mul hx hb dX0_robotTime_16 ?_
  refine zo_add hx hb dX0_robotTime_17 ?_
  exact zr_i hx hb hr hlocks (rfl) dX0_robotTime_18

set_option maxHeartbeats 4000000 in
set_option maxRecDepth 100000 in
theorem c_X0_wayTime (l : Launch) (D : va_G) (cA : Nat → ClassId) (ws : va_W) (k0 h0 nu pa sp : Nat) (mt : Option Nat) (pl tm : Int32) (ct : Nat) (hk : ws[k0]? = some (h0, zDrive nu pa sp mt pl tm ct)) (k1 h1 tn tr le sl fc bo : Nat) (dn : Option Nat) (hl0 : Bool) (hk1 : ws[k1]? = some (h1, zTape tn tr le sl dn hl0 fc bo)) (p0 p1 : Nat) (ht : 1 ≤ tr) (hl9 : 1 ≤ le) (hlm : le < 2 ^ 30) (htm : tr < 2 ^ 30) (hp0 : p0 < 2 ^ 31) (hp1 : p1 < 2 ^ 31) : Met l yX0_wayTime wsX0_wayTime ({ frames := 2, cells := 0, slots := 0, locals := 45 }) (va_Pc [.ref h0, .ref h1, .int (nI (p0)), .int (nI (p1))] (zS D cA ws)) (vp_Si (fun r => r = nI (wayT pa sp tr le p0 p1))) 0 0 zF := by
  refine zOpen (cc := cX0_wayTime) (maxL := 6) (ret := (some .int)) (own := RX0) (by decide) rfl rfl (Nat.le_of_ble_eq_true rfl) ?_
  intro p e s m below meth c ls hx hb hr hml hts hown hlocks hnm ⟨hZ, hP⟩ hl
  have iX0 : ∀ w ∈ wsX00, w ∈ wsX0_wayTime := by decide +kernel
  have hl : lv_has ls 6 [(0, .ref h0), (1, .ref h1), (2, .int (nI (p0))), (3, .int (nI (p1)))] := hl
  have ha0 := alo_lt (tr := tr) (le := le) (p := p0) (by omega)
  have ha1 := alo_lt (tr := tr) (le := le) (p := p1) (by omega)
  have ht0 := trk_le (tr := tr) (le := le) (p := p0) (by omega)
  have ht1 := trk_le (tr := tr) (le := le) (p := p1) (by omega)
  refine lv_aload_n hx hb dX0_wayTime_0 rfl (lv_at hl 1 rfl) ?_
  refine lv_iload_n hx hb dX0_wayTime_1 rfl (lv_at hl 2 rfl) ?_
  refine zk_VN_i (n := 1) (As := [.int (nI (p0))]) (rest := []) hx hb hml hts hown hZ hP (c_X3_distanceAlong l D cA _ k1 h1 tn tr le sl fc bo dn hl0 hk1 p0 (by omega) (by omega) (by omega) (by omega) (by omega)) ggX0_wayTime_X3_distanceAlong (List.mem_of_getElem? (i := 15) rfl) (by decide +kernel) rfl ⟨rfl, rfl⟩ ⟨by decide +kernel, Nat.le_of_ble_eq_true rfl, Nat.le_of_ble_eq_true rfl⟩ hk1 rfl hl.1 rfl (Nat.le_of_ble_eq_true rfl) ⟨Nat.zero_le _, Nat.zero_le _⟩ rfl dX0_wayTime_2 (fun r_1 hr_2 => ?_)
  obtain rfl := show r_1 = _ from hr_2
  refine lv_aload_n hx hb dX0_wayTime_5 rfl (lv_at hl 1 rfl) ?_
  refine lv_iload_n hx hb dX0_wayTime_6 rfl (lv_at hl 3 rfl) ?_
  refine zk_VN_i (n := 1) (As := [.int (nI (p1))]) (rest := [.int (nI (alo tr le p0))]) hx hb hml hts hown hZ hP (c_X3_distanceAlong l D cA _ k1 h1 tn tr le sl fc bo dn hl0 hk1 p1 (by omega) (by omega) (by omega) (by omega) (by omega)) ggX0_wayTime_X3_distanceAlong (List.mem_of_getElem? (i := 15) rfl) (by decide +kernel) rfl ⟨rfl, rfl⟩ ⟨by decide +kernel, Nat.le_of_ble_eq_true rfl, Nat.le_of_ble_eq_true rfl⟩ hk1 rfl hl.1 rfl (Nat.le_of_ble_eq_true rfl) ⟨Nat.zero_le _, Nat.zero_le _⟩ rfl dX0_wayTime_7 (fun r_3 hr_4 => ?_)
  obtain rfl := show r_3 = _ from hr_4
  refine lv_isub hx hb dX0_wayTime_10 ?_
  refine zx_val (y := nI (alo tr le p0) - nI (alo tr le p1)) (rfl) ?_
  refine va_mabs hx hb (hml.trans hl.1.symm) hown (hts (.methodLink RX0 34 Lib.Math.abs.name) (by decide +kernel)) (hts (.static Lib.Math.abs.name) (by decide +kernel)) (hts (.initialized "java/lang/Math") (by decide +kernel)) (hts (.code Lib.Math.abs.name Lib.Math.abs.code 1 (some .int)) (by decide +kernel)) (Nat.le_of_ble_eq_true rfl) (Nat.le_of_ble_eq_true rfl) (Nat.le_of_ble_eq_true rfl) (Nat.le_of_ble_eq_true rfl) dX0_wayTime_11 ?_
  refine zx_val (y := nI (dif (alo tr le p0) (alo tr le p1))) (zm_abs (by omega) (by omega)) ?_
  refine lv_istore (lv' := [(4, .int (nI (dif (alo tr le p0) (alo tr le p1)))), (0, .ref h0), (1, .ref h1), (2, .int (nI (p0))), (3, .int (nI (p1)))]) hx hb dX0_wayTime_14 hl (by decide) rfl (fun ls hl => ?_)
  refine lv_aload_n hx hb dX0_wayTime_16 rfl (lv_at hl 2 rfl) ?_
  refine lv_iload_n hx hb dX0_wayTime_17 rfl (lv_at hl 3 rfl) ?_
  refine zk_VN_i (n := 1) (As := [.int (nI (p0))]) (rest := []) hx hb hml hts hown hZ hP (c_X3_trackOf l D cA _ k1 h1 tn tr le sl fc bo dn hl0 hk1 p0 (by omega) (by omega) (by omega) (by omega) (by omega)) ggX0_wayTime_X3_trackOf (List.mem_of_getElem? (i := 16) rfl) (by decide +kernel) rfl ⟨rfl, rfl⟩ ⟨by decide +kernel, Nat.le_of_ble_eq_true rfl, Nat.le_of_ble_eq_true rfl⟩ hk1 rfl hl.1 rfl (Nat.le_of_ble_eq_true rfl) ⟨Nat.zero_le _, Nat.zero_le _⟩ rfl dX0_wayTime_18 (fun r_5 hr_6 => ?_)
  obtain rfl := show r_5 = _ from hr_6
  refine lv_aload_n hx hb dX0_wayTime_21 rfl (lv_at hl 2 rfl) ?_
  refine lv_iload_n hx hb dX0_wayTime_22 rfl (lv_at hl 4 rfl) ?_
  refine zk_VN_i (n := 1) (As := [.int (nI (p1))]) (rest := [.int (nI (trk tr le p0))]) hx hb hml hts hown hZ hP (c_X3_trackOf l D cA _ k1 h1 tn tr le sl fc bo dn hl0 hk1 p1 (by omega) (by omega) (by omega) (by omega) (by omega)) ggX0_wayTime_X3_trackOf (List.mem_of_getElem? (i := 16) rfl) (by decide +kernel) rfl ⟨rfl, rfl⟩ ⟨by decide +kernel, Nat.le_of_ble_eq_true rfl, Nat.le_of_ble_eq_true rfl⟩ hk1 rfl hl.1 rfl (Nat.le_of_ble_eq_true rfl) ⟨Nat.zero_le _, Nat.zero_le _⟩ rfl dX0_wayTime_23 (fun r_7 hr_8 => ?_)
  obtain rfl := show r_7 = _ from hr_8
  refine lv_isub hx hb dX0_wayTime_26 ?_
  refine zx_val (y := nI (trk tr le p0) - nI (trk tr le p1)) (rfl) ?_
  refine va_mabs hx hb (hml.trans hl.1.symm) hown (hts (.methodLink RX0 34 Lib.Math.abs.name) (by decide +kernel)) (hts (.static Lib.Math.abs.name) (by decide +kernel)) (hts (.initialized "java/lang/Math") (by decide +kernel)) (hts (.code Lib.Math.abs.name Lib.Math.abs.code 1 (some .int)) (by decide +kernel)) (Nat.le_of_ble_eq_true rfl) (Nat.le_of_ble_eq_true rfl) (Nat.le_of_ble_eq_true rfl) (Nat.le_of_ble_eq_true rfl) dX0_wayTime_27 ?_
  refine zx_val (y := nI (dif (trk tr le p0) (trk tr le p1))) (zm_abs (by omega) (by omega)) ?_
  refine lv_istore (lv' := [(5, .int (nI (dif (trk tr le p0) (trk tr le p1)))), (4, .int (nI (dif (alo tr le p0) (alo tr le p1)))), (0, .ref h0), (1, .ref h1), (2, .int (nI (p0))), (3, .int (nI (p1)))]) hx hb dX0_wayTime_30 hl (by decide) rfl (fun ls hl => ?_)
  refine lv_iload hx hb dX0_wayTime_32 (lv_at hl 1 rfl) ?_
  refine lv_aload_n hx hb dX0_wayTime_34 rfl (lv_at hl 2 rfl) ?_
  refine va_get (D := D) (ci := 0) (v := .int (nI (pa))) (C := RX0) (T := TX0) (N := 7) hx hb hts iX0 hown hZ.1 hP k0 hk rfl 1 (by decide) (hts (.fieldLink RX0 28 "TapeRobotics$Drive" "pace" "I") (by decide +kernel)) (fun _ h9 => h9) rfl dX0_wayTime_35 ?_
  refine zo_mul hx hb dX0_wayTime_38 ?_
  refine lv_iload hx hb dX0_wayTime_39 (lv_at hl 0 rfl) ?_
  refine lv_aload_n hx hb dX0_wayTime_41 rfl (lv_at hl 2 rfl) ?_
  refine va_get (D := D) (ci := 0) (v := .int (nI (sp))) (C := RX0) (T := TX0) (N := 7) hx hb hts iX0 hown hZ.1 hP k0 hk rfl 2 (by decide) (hts (.fieldLink RX0 31 "TapeRobotics$Drive" "step" "I") (by decide +kernel)) (fun _ h9 => h9) rfl dX0_wayTime_42 ?_
  refine zo_mul hx hb dX0_wayTime_45 ?_
  refine zo_add hx hb dX0_wayTime_46 ?_
  exact zr_i hx hb hr hlocks (rfl) dX0_wayTime_47

set_option maxHeartbeats 4000000 in
set_option maxRecDepth 100000 in
theorem c_X0_fileTime (l : Launch) (D : va_G) (cA : Nat → ClassId) (ws : va_W) (k0 h0 nu pa sp : Nat) (mt : Option Nat) (pl tm : Int32) (ct : Nat) (hk : ws[k0]? = some (h0, zDrive nu pa sp mt pl tm ct)) (k1 h1 tn tr le sl fc bo : Nat) (dn : Option Nat) (hl0 : Bool) (hk1 : ws[k1]? = some (h1, zTape tn tr le sl dn hl0 fc bo)) (kb nb : Nat) (bn : Nat → Nat) (hkb : ws[kb]? = some (bo, zInts cA nb (fun k => nI (bn k)))) (hnb : nb < 2 ^ 31) (p0 f : Nat) (ht : 1 ≤ tr) (hl9 : 1 ≤ le) (hlm : le < 2 ^ 30) (htm : tr < 2 ^ 30) (hp0 : p0 < 2 ^ 31) (hf : f + 1 < nb) (hf0 : bn f ≤ bn (f + 1)) (hf1 : bn f < 2 ^ 31) : Met l yX0_fileTime wsX0_fileTime ({ frames := 3, cells := 0, slots := 0, locals := 70 }) (va_Pc [.ref h0, .ref h1, .int (nI (p0)), .int (nI (f))] (zS D cA ws)) (vp_Si (fun r => r = nI (wayT pa sp tr le p0 (bn f) + 3 * (bn (f + 1) - bn f)))) 0 0 zF := by
  refine zOpen (cc := cX0_fileTime) (maxL := 5) (ret := (some .int)) (own := RX0) (by decide) rfl rfl (Nat.le_of_ble_eq_true rfl) ?_
  intro p e s m below meth c ls hx hb hr hml hts hown hlocks hnm ⟨hZ, hP⟩ hl
  have hl : lv_has ls 5 [(0, .ref h0), (1, .ref h1), (2, .int (nI (p0))), (3, .int (nI (f)))] := hl
  refine lv_aload_n hx hb dX0_fileTime_0 rfl (lv_at hl 1 rfl) ?_
  refine lv_iload_n hx hb dX0_fileTime_1 rfl (lv_at hl 3 rfl) ?_
  refine zk_VN_i (n := 1) (As := [.int (nI (f))]) (rest := []) hx hb hml hts hown hZ hP (c_X3_beginOf l D cA _ k1 h1 tn tr le sl fc bo dn hl0 hk1 kb nb (fun k => nI (bn k)) hkb (by omega) f (by omega)) ggX0_fileTime_X3_beginOf (List.mem_of_getElem? (i := 22) rfl) (by decide +kernel) rfl ⟨rfl, rfl⟩ ⟨by decide +kernel, Nat.le_of_ble_eq_true rfl, Nat.le_of_ble_eq_true rfl⟩ hk1 rfl hl.1 rfl (Nat.le_of_ble_eq_true rfl) ⟨Nat.zero_le _, Nat.zero_le _⟩ rfl dX0_fileTime_2 (fun r_1 hr_2 => ?_)
  obtain rfl := show r_1 = _ from hr_2
  refine lv_istore (lv' := [(4, .int (nI (bn f))), (0, .ref h0), (1, .ref h1), (2, .int (nI (p0))), (3, .int (nI (f)))]) hx hb dX0_fileTime_5 hl (by decide) rfl (fun ls hl => ?_)
  refine lv_aload_n hx hb dX0_fileTime_7 rfl (lv_at hl 1 rfl) ?_
  refine lv_aload_n hx hb dX0_fileTime_8 rfl (lv_at hl 2 rfl) ?_
  refine lv_iload_n hx hb dX0_fileTime_9 rfl (lv_at hl 3 rfl) ?_
  refine lv_iload hx hb dX0_fileTime_10 (lv_at hl 0 rfl) ?_
  refine zk_V_i (n := 3) (As := [.ref h1, .int (nI (p0)), .int (nI (bn f))]) (rest := []) hx hb hml hts hown hZ hP (c_X0_wayTime l D cA _ k0 h0 nu pa sp mt pl tm ct hk k1 h1 tn tr le sl fc bo dn hl0 hk1 p0 (bn f) (by omega) (by omega) (by omega) (by omega) (by omega) (by omega)) gX0_fileTime_X0_wayTime rfl rfl ⟨rfl, rfl⟩ ⟨by decide +kernel, Nat.le_of_ble_eq_true rfl, Nat.le_of_ble_eq_true rfl⟩ hk rfl hl.1 rfl (Nat.le_of_ble_eq_true rfl) ⟨Nat.zero_le _, Nat.zero_le _⟩ rfl dX0_fileTime_12 (fun r_3 hr_4 => ?_)
  obtain rfl := show r_3 = _ from hr_4
  refine lv_iconst (v := nI (3)) hx hb dX0_fileTime_15 (by decide) ?_
  refine lv_aload_n hx hb dX0_fileTime_16 rfl (lv_at hl 2 rfl) ?_
  refine lv_iload_n hx hb dX0_fileTime_17 rfl (lv_at hl 4 rfl) ?_
  refine zk_VN_i (n := 1) (As := [.int (nI (f))]) (rest := [.int (nI (3)), .int (nI (wayT pa sp tr le p0 (bn f)))]) hx hb hml hts hown hZ hP (c_X3_endOf l D cA _ k1 h1 tn tr le sl fc bo dn hl0 hk1 kb nb (fun k => nI (bn k)) hkb (by omega) f (by omega)) ggX0_fileTime_X3_endOf (List.mem_of_getElem? (i := 23) rfl) (by decide +kernel) rfl ⟨rfl, rfl⟩ ⟨by decide +kernel, Nat.le_of_ble_eq_true rfl, Nat.le_of_ble_eq_true rfl⟩ hk1 rfl hl.1 rfl (Nat.le_of_ble_eq_true rfl) ⟨Nat.zero_le _, Nat.zero_le _⟩ rfl dX0_fileTime_18 (fun r_5 hr_6 => ?_)
  obtain rfl := show r_5 = _ from hr_6
  refine lv_iload hx hb dX0_fileTime_21 (lv_at hl 0 rfl) ?_
  refine zo_sub hx hb (by omega) dX0_fileTime_23 ?_
  refine zo_mul hx hb dX0_fileTime_24 ?_
  refine zo_add hx hb dX0_fileTime_25 ?_
  exact zr_i hx hb hr hlocks (rfl) dX0_fileTime_26

set_option maxHeartbeats 4000000 in
set_option maxRecDepth 100000 in
theorem c_X0_passFile (l : Launch) (D : va_G) (cA : Nat → ClassId) (sz : Nat) (ws : va_W) (p0 : Nat) (k0 h0 nu pa sp : Nat) (mt : Option Nat) (tm : Int32) (ct : Nat) (hk : ws[k0]? = some (h0, zDrive nu pa sp mt (nI p0) tm ct)) (k1 h1 tn tr le sl fc bo : Nat) (dn : Option Nat) (hl0 : Bool) (hk1 : ws[k1]? = some (h1, zTape tn tr le sl dn hl0 fc bo)) (kb nb : Nat) (bn : Nat → Nat) (hkb : ws[kb]? = some (bo, zInts cA nb (fun k => nI (bn k)))) (hnb : nb < 2 ^ 31) (f : Nat) (ht : 1 ≤ tr) (hl9 : 1 ≤ le) (hlm : le < 2 ^ 30) (htm : tr < 2 ^ 30) (hp0 : p0 < 2 ^ 31) (hf : f + 1 < nb) (hf0 : bn f ≤ bn (f + 1)) (hf1 : bn f < 2 ^ 31) : Met l yX0_passFile wsX0_passFile ({ frames := 4, cells := 0, slots := 0, locals := 94 }) (va_Pc [.ref h0, .ref h1, .int (nI (f))] (zM D cA (ws) sz)) (va_Qi (fun (r : Int32) (u : Unit) => r = nI (wayT pa sp tr le p0 (bn f) + 3 * (bn (f + 1) - bn f))) (fun u => zB D (va_A (ws) sz) (ws.set k0 (h0, zDrive nu pa sp mt (nI (bn (f + 1))) (tm + nI (wayT pa sp tr le p0 (bn f) + 3 * (bn (f + 1) - bn f))) (ct + 1)))) (va_A (ws) sz)) 0 0 (va_A (ws) sz) := by
  refine zOpen (cc := cX0_passFile) (maxL := 4) (ret := (some .int)) (own := RX0) (by decide) rfl rfl (Nat.le_of_ble_eq_true rfl) ?_
  intro p e s m below meth c ls hx hb hr hml hts hown hlocks hnm ⟨hZ, hP, hD0, hsz⟩ hl
  subst hsz
  have hD := hD0.self (sz := s.heap.size)
  generalize hAe : va_A (ws) s.heap.size = A at hD ⊢
  have hA : ∀ q : Nat, s.heap.size ≤ q → A q := fun q h => by rw [← hAe]; exact Or.inr h
  have hS : va_S A s.heap s.heap [] := va_S.rf
  have iX0 : ∀ w ∈ wsX00, w ∈ wsX0_passFile := by decide +kernel
  have hl : lv_has ls 4 [(0, .ref h0), (1, .ref h1), (2, .int (nI (f)))] := hl
  refine lv_aload_n hx hb dX0_passFile_0 rfl (lv_at hl 0 rfl) ?_
  refine lv_aload_n hx hb dX0_passFile_1 rfl (lv_at hl 1 rfl) ?_
  refine lv_aload_n hx hb dX0_passFile_2 rfl (lv_at hl 0 rfl) ?_
  refine va_get (D := D) (ci := 0) (v := .int (nI (p0))) (C := RX0) (T := TX0) (N := 7) hx hb hts iX0 hown hZ.1 hP k0 hk rfl 4 (by decide) (hts (.fieldLink RX0 15 "TapeRobotics$Drive" "place" "I") (by decide +kernel)) (fun _ h9 => h9) rfl dX0_passFile_3 ?_
  refine lv_iload_n hx hb dX0_passFile_6 rfl (lv_at hl 2 rfl) ?_
  refine zk_V_i (n := 3) (As := [.ref h1, .int (nI (p0)), .int (nI (f))]) (rest := []) hx hb hml hts hown hZ hP (c_X0_fileTime l D cA _ k0 h0 nu pa sp mt (nI (p0)) tm ct hk k1 h1 tn tr le sl fc bo dn hl0 hk1 kb nb bn hkb (by omega) p0 f (by omega) (by omega) (by omega) (by omega) (by omega) (by omega) (by omega) (by omega)) gX0_passFile_X0_fileTime rfl rfl ⟨rfl, rfl⟩ ⟨by decide +kernel, Nat.le_of_ble_eq_true rfl, Nat.le_of_ble_eq_true rfl⟩ hk rfl hl.1 rfl (Nat.le_of_ble_eq_true rfl) ⟨Nat.zero_le _, Nat.zero_le _⟩ rfl dX0_passFile_7 (fun r_1 hr_2 => ?_)
  obtain rfl := show r_1 = _ from hr_2
  refine lv_istore_n (lv' := [(3, .int (nI (wayT pa sp tr le p0 (bn f) + 3 * (bn (f + 1) - bn f)))), (0, .ref h0), (1, .ref h1), (2, .int (nI (f)))]) hx hb dX0_passFile_10 rfl hl (by decide) rfl (fun ls hl => ?_)
  refine lv_aload_n hx hb dX0_passFile_11 rfl (lv_at hl 1 rfl) ?_
  refine lv_aload_n hx hb dX0_passFile_12 rfl (lv_at hl 2 rfl) ?_
  refine lv_iload_n hx hb dX0_passFile_13 rfl (lv_at hl 3 rfl) ?_
  refine zk_VN_i (n := 1) (As := [.int (nI (f))]) (rest := [.ref h0]) hx hb hml hts hown hZ hP (c_X3_endOf l D cA _ k1 h1 tn tr le sl fc bo dn hl0 hk1 kb nb (fun k => nI (bn k)) hkb (by omega) f (by omega)) ggX0_passFile_X3_endOf (List.mem_of_getElem? (i := 23) rfl) (by decide +kernel) rfl ⟨rfl, rfl⟩ ⟨by decide +kernel, Nat.le_of_ble_eq_true rfl, Nat.le_of_ble_eq_true rfl⟩ hk1 rfl hl.1 rfl (Nat.le_of_ble_eq_true rfl) ⟨Nat.zero_le _, Nat.zero_le _⟩ rfl dX0_passFile_14 (fun r_3 hr_4 => ?_)
  obtain rfl := show r_3 = _ from hr_4
  refine va_put (D := D) (ci := 0) (v := .int (nI (bn (f + 1)))) (ty := .int) (C := RX0) (T := TX0) (N := 7) hx hb hts iX0 tyX0 tyX0_ok nmX0 hown hZ.1 hP hD hS k0 hk rfl 4 (by decide) (hts (.fieldLink RX0 15 "TapeRobotics$Drive" "place" "I") (by decide +kernel)) (fun _ h9 => h9) rfl (by decide +kernel) rfl rfl (Nat.le_of_ble_eq_true rfl) dX0_passFile_17 (fun H locs hP hD hS => ?_)
  have hP : va_P D vwCl (ws.set k0 (h0, .inr (0, [.int (nI (nu)), .int (nI (pa)), .int (nI (sp)), va_rf (mt), .int (nI (bn (f + 1))), .int (tm), .int (nI (ct))]))) H := hP
  have hD : va_D A (ws.set k0 (h0, .inr (0, [.int (nI (nu)), .int (nI (pa)), .int (nI (sp)), va_rf (mt), .int (nI (bn (f + 1))), .int (tm), .int (nI (ct))]))) := hD
  refine lv_aload_n hx hb dX0_passFile_20 rfl (lv_at hl 1 rfl) ?_
  refine lv_dup hx hb dX0_passFile_21 rfl ?_
  refine va_get (D := D) (ci := 0) (v := .int (nI (ct))) (C := RX0) (T := TX0) (N := 7) hx hb hts iX0 hown hZ.1 hP k0 (zset_s hk) rfl 6 (by decide) (hts (.fieldLink RX0 22 "TapeRobotics$Drive" "filesSinceCleaning" "I") (by decide +kernel)) (fun _ h9 => h9) rfl dX0_passFile_22 ?_
  refine lv_iconst (v := nI (1)) hx hb dX0_passFile_25 (by decide) ?_
  refine zo_add hx hb dX0_passFile_26 ?_
  refine va_put (D := D) (ci := 0) (v := .int (nI (ct + 1))) (ty := .int) (C := RX0) (T := TX0) (N := 7) hx hb hts iX0 tyX0 tyX0_ok nmX0 hown hZ.1 hP hD hS k0 (zset_s hk) rfl 6 (by decide) (hts (.fieldLink RX0 22 "TapeRobotics$Drive" "filesSinceCleaning" "I") (by decide +kernel)) (fun _ h9 => h9) rfl (by decide +kernel) rfl rfl (Nat.le_of_ble_eq_true rfl) dX0_passFile_27 (fun H locs hP hD hS => ?_)
  have hP : va_P D vwCl ((ws.set k0 (h0, .inr (0, [.int (nI (nu)), .int (nI (pa)), .int (nI (sp)), va_rf (mt), .int (nI (bn (f + 1))), .int (tm), .int (nI (ct))]))).set k0 (h0, .inr (0, [.int (nI (nu)), .int (nI (pa)), .int (nI (sp)), va_rf (mt), .int (nI (bn (f + 1))), .int (tm), .int (nI (ct + 1))]))) H := hP
  have hD : va_D A ((ws.set k0 (h0, .inr (0, [.int (nI (nu)), .int (nI (pa)), .int (nI (sp)), va_rf (mt), .int (nI (bn (f + 1))), .int (tm), .int (nI (ct))]))).set k0 (h0, .inr (0, [.int (nI (nu)), .int (nI (pa)), .int (nI (sp)), va_rf (mt), .int (nI (bn (f + 1))), .int (tm), .int (nI (ct + 1))]))) := hD
  refine lv_aload_n hx hb dX0_passFile_30 rfl (lv_at hl 1 rfl) ?_
  refine lv_iload_n hx hb dX0_passFile_31 rfl (lv_at hl 0 rfl) ?_
  refine zw_V_i (n := 1) (mc := 0) (ms := 0) (As := [.int (nI (wayT pa sp tr le p0 (bn f) + 3 * (bn (f + 1) - bn f)))]) (rest := []) (w1 := fun _ : Unit => ((ws.set k0 (h0, .inr (0, [.int (nI (nu)), .int (nI (pa)), .int (nI (sp)), va_rf (mt), .int (nI (bn (f + 1))), .int (tm), .int (nI (ct))]))).set k0 (h0, .inr (0, [.int (nI (nu)), .int (nI (pa)), .int (nI (sp)), va_rf (mt), .int (nI (bn (f + 1))), .int (tm), .int (nI (ct + 1))]))).set k0 (h0, zDrive nu pa sp mt (nI (bn (f + 1))) (tm + (nI (wayT pa sp tr le p0 (bn f) + 3 * (bn (f + 1) - bn f)))) (ct + 1))) hx hb hml hts hown hZ hP hD hS hA (c_X0_spend l D cA _ _ k0 h0 nu pa sp mt (nI (bn (f + 1))) tm (ct + 1) (zset_s (zset_s hk)) (nI (wayT pa sp tr le p0 (bn f) + 3 * (bn (f + 1) - bn f)))) gX0_passFile_X0_spend rfl rfl ⟨rfl, rfl⟩ ⟨by decide +kernel, Nat.le_of_ble_eq_true rfl, Nat.le_of_ble_eq_true rfl⟩ (zset_s (zset_s hk)) rfl hl.1 rfl (Nat.le_of_ble_eq_true rfl) ⟨Nat.le_of_ble_eq_true rfl, Nat.le_of_ble_eq_true rfl⟩ rfl dX0_passFile_32 (fun r_5 u_7 H locs hr_6 hP hD hS hz_7 => ?_)
  obtain rfl := show r_5 = _ from hr_6
  have hP : va_P D vwCl (((ws.set k0 (h0, .inr (0, [.int (nI (nu)), .int (nI (pa)), .int (nI (sp)), va_rf (mt), .int (nI (bn (f + 1))), .int (tm), .int (nI (ct))]))).set k0 (h0, .inr (0, [.int (nI (nu)), .int (nI (pa)), .int (nI (sp)), va_rf (mt), .int (nI (bn (f + 1))), .int (tm), .int (nI (ct + 1))]))).set k0 (h0, zDrive nu pa sp mt (nI (bn (f + 1))) (tm + (nI (wayT pa sp tr le p0 (bn f) + 3 * (bn (f + 1) - bn f)))) (ct + 1))) H := hP
  have hD : va_D A (((ws.set k0 (h0, .inr (0, [.int (nI (nu)), .int (nI (pa)), .int (nI (sp)), va_rf (mt), .int (nI (bn (f + 1))), .int (tm), .int (nI (ct))]))).set k0 (h0, .inr (0, [.int (nI (nu)), .int (nI (pa)), .int (nI (sp)), va_rf (mt), .int (nI (bn (f + 1))), .int (tm), .int (nI (ct + 1))]))).set k0 (h0, zDrive nu pa sp mt (nI (bn (f + 1))) (tm + (nI (wayT pa sp tr le p0 (bn f) + 3 * (bn (f + 1) - bn f)))) (ct + 1))) := hD
  exact zr_qi (S := Unit) (w1 := fun u => ws.set k0 (h0, zDrive nu pa sp mt (nI (bn (f + 1))) (tm + nI (wayT pa sp tr le p0 (bn f) + 3 * (bn (f + 1) - bn f))) (ct + 1))) () hx hb hr hlocks (rfl) hP hD hS (by rw [zset2, zset2]) dX0_passFile_35
