theorem dX0_init_0 : decode cX0_init 0 = .ok (.aload_n 0, 1) := by decide +kernel
theorem zset_app {ws es : va_W} {k : Nat} {e : Nat × va_E} (h : k < ws.length) : (ws.set k e) ++ es = (ws ++ es).set k e := (List.set_append_left (t := es) k e h).symm
set_option maxHeartbeats 4000000 in
set_option maxRecDepth 100000 in
theorem c_X0_init (l : Launch) (D : va_G) (cA : Nat → ClassId) (sz : Nat) (ws : va_W) (k b : Nat) (nu pa sp : Nat) (h0 : ws[k]? = some (b, .inr (0, [.int (nI (0)), .int (nI (0)), .int (nI (0)), .null, .int (nI (0)), .int (nI (0)), .int (nI (0))]))) : Met l yX0_init wsX0_init ({ frames := 1, cells := 0, slots := 0, locals := 20 }) (va_Pc [.ref b, .int (nI (nu)), .int (nI (pa)), .int (nI (sp))] (zM D cA (ws) sz)) (va_Qv (fun _ : Unit => True) (fun u => zB D (va_A (ws) sz) (ws.set k (b, zDrive nu pa sp none (-1) 0 0))) (va_A (ws) sz)) 0 0 (va_A (ws) sz) := by
  refine zOpen (cc := cX0_init) (maxL := 4) (ret := none) (own := RX0) (by decide) rfl rfl (Nat.le_of_ble_eq_true rfl) ?_
  intro p e s m below meth c ls hx hb hr hml hts hown hlocks hnm ⟨hZ, hP, hD0, hsz⟩ hl
  subst hsz
  have hD := hD0.self (sz := s.heap.size)
  generalize hAe : va_A (ws) s.heap.size = A at hD ⊢
  have hA : ∀ q : Nat, s.heap.size ≤ q → A q := fun q h => by rw [← hAe]; exact Or.inr h
  have hS : va_S A s.heap s.heap [] := va_S.rf
  have iX0 : ∀ w ∈ wsX00, w ∈ wsX0_init := by decide +kernel
  have hl : lv_has ls 4 [(0, .ref b), (1, .int (nI (nu))), (2, .int (nI (pa))), (3, .int (nI (sp)))] := hl
  have hin : meth.name = "<init>" := hnm
  refine lv_aload_n hx hb dX0_init_0 rfl (lv_at hl 0 rfl) ?_
  refine W.objInit hx hb hown (hts (.methodLink RX0 3 objectInit) (by decide +kernel)) (hts (.instanceMethod objectInit) (by decide +kernel)) (hts (.code objectInit ⟨#[0xb1]⟩ 1 none) (by decide +kernel)) rfl (by rw [hml]; exact hl.1) rfl dX0_init_1 (Nat.le_of_ble_eq_true rfl) (Nat.le_of_ble_eq_true rfl) ?_
  refine W.eq (g2 := F0 m 4 ls []) rfl ?_
  refine lv_aload_n hx hb dX0_init_4 rfl (lv_at hl 0 rfl) ?_
  refine lv_null hx hb dX0_init_5 ?_
  refine va_put (D := D) (ci := 0) (v := .null) (ty := tyX0 3) (C := RX0) (T := TX0) (N := 7) hx hb hts iX0 tyX0 tyX0_ok nmX0 hown hZ.1 hP hD hS k h0 rfl 3 (by decide) (hts (.fieldLink RX0 9 "TapeRobotics$Drive" "mounted" "LTapeRobotics$Tape;") (by decide +kernel)) (fun _ h9 => h9) rfl (by decide +kernel) rfl rfl (Nat.le_of_ble_eq_true rfl) dX0_init_6 (fun H locs hP hD hS => ?_)
  have hP : va_P D vwCl ((ws).set k (b, .inr (0, [.int (nI (0)), .int (nI (0)), .int (nI (0)), .null, .int (nI (0)), .int (nI (0)), .int (nI (0))]))) H := hP
  have hD : va_D A ((ws).set k (b, .inr (0, [.int (nI (0)), .int (nI (0)), .int (nI (0)), .null, .int (nI (0)), .int (nI (0)), .int (nI (0))]))) := hD
  refine lv_aload_n hx hb dX0_init_9 rfl (lv_at hl 0 rfl) ?_
  refine lv_iconst (v := (-1)) hx hb dX0_init_10 (by decide) ?_
  refine va_put (D := D) (ci := 0) (v := .int ((-1))) (ty := .int) (C := RX0) (T := TX0) (N := 7) hx hb hts iX0 tyX0 tyX0_ok nmX0 hown hZ.1 hP hD hS k (zset_s h0) rfl 4 (by decide) (hts (.fieldLink RX0 15 "TapeRobotics$Drive" "place" "I") (by decide +kernel)) (fun _ h9 => h9) rfl (by decide +kernel) rfl rfl (Nat.le_of_ble_eq_true rfl) dX0_init_11 (fun H locs hP hD hS => ?_)
  have hP : va_P D vwCl ((ws).set k (b, .inr (0, [.int (nI (0)), .int (nI (0)), .int (nI (0)), .null, .int ((-1)), .int (nI (0)), .int (nI (0))]))) H := by rw [zset2] at hP; exact hP
  have hD : va_D A ((ws).set k (b, .inr (0, [.int (nI (0)), .int (nI (0)), .int (nI (0)), .null, .int ((-1)), .int (nI (0)), .int (nI (0))]))) := by rw [zset2] at hD; exact hD
  refine lv_aload_n hx hb dX0_init_14 rfl (lv_at hl 0 rfl) ?_
  refine lv_iconst (v := nI (0)) hx hb dX0_init_15 (by decide) ?_
  refine va_put (D := D) (ci := 0) (v := .int (nI (0))) (ty := .int) (C := RX0) (T := TX0) (N := 7) hx hb hts iX0 tyX0 tyX0_ok nmX0 hown hZ.1 hP hD hS k (zset_s h0) rfl 5 (by decide) (hts (.fieldLink RX0 19 "TapeRobotics$Drive" "time" "I") (by decide +kernel)) (fun _ h9 => h9) rfl (by decide +kernel) rfl rfl (Nat.le_of_ble_eq_true rfl) dX0_init_16 (fun H locs hP hD hS => ?_)
  have hP : va_P D vwCl ((ws).set k (b, .inr (0, [.int (nI (0)), .int (nI (0)), .int (nI (0)), .null, .int ((-1)), .int (nI (0)), .int (nI (0))]))) H := by rw [zset2] at hP; exact hP
  have hD : va_D A ((ws).set k (b, .inr (0, [.int (nI (0)), .int (nI (0)), .int (nI (0)), .null, .int ((-1)), .int (nI (0)), .int (nI (0))]))) := by rw [zset2] at hD; exact hD
  refine lv_aload_n hx hb dX0_init_19 rfl (lv_at hl 0 rfl) ?_
  refine lv_iconst (v := nI (0)) hx hb dX0_init_20 (by decide) ?_
  refine va_put (D := D) (ci := 0) (v := .int (nI (0))) (ty := .int) (C := RX0) (T := TX0) (N := 7) hx hb hts iX0 tyX0 tyX0_ok nmX0 hown hZ.1 hP hD hS k (zset_s h0) rfl 6 (by decide) (hts (.fieldLink RX0 22 "TapeRobotics$Drive" "filesSinceCleaning" "I") (by decide +kernel)) (fun _ h9 => h9) rfl (by decide +kernel) rfl rfl (Nat.le_of_ble_eq_true rfl) dX0_init_21 (fun H locs hP hD hS => ?_)
  have hP : va_P D vwCl ((ws).set k (b, .inr (0, [.int (nI (0)), .int (nI (0)), .int (nI (0)), .null, .int ((-1)), .int (nI (0)), .int (nI (0))]))) H := by rw [zset2] at hP; exact hP
  have hD : va_D A ((ws).set k (b, .inr (0, [.int (nI (0)), .int (nI (0)), .int (nI (0)), .null, .int ((-1)), .int (nI (0)), .int (nI (0))]))) := by rw [zset2] at hD; exact hD
  refine lv_aload_n hx hb dX0_init_24 rfl (lv_at hl 0 rfl) ?_
  refine lv_iload_n hx hb dX0_init_25 rfl (lv_at hl 1 rfl) ?_
  refine va_putF (D := D) (ci := 0) (v := .int (nI (nu))) (ty := .int) (C := RX0) (T := TX0) (N := 7) hx hb hts iX0 tyX0 tyX0_ok nmX0 hown hZ.1 hP hD hS k (zset_s h0) rfl 0 (by decide) (hts (.fieldLink RX0 25 "TapeRobotics$Drive" "number" "I") (by decide +kernel)) (fun _ h9 => h9) rfl hin rfl (by decide +kernel) rfl rfl (Nat.le_of_ble_eq_true rfl) dX0_init_26 (fun H locs hP hD hS => ?_)
  have hP : va_P D vwCl ((ws).set k (b, .inr (0, [.int (nI (nu)), .int (nI (0)), .int (nI (0)), .null, .int ((-1)), .int (nI (0)), .int (nI (0))]))) H := by rw [zset2] at hP; exact hP
  have hD : va_D A ((ws).set k (b, .inr (0, [.int (nI (nu)), .int (nI (0)), .int (nI (0)), .null, .int ((-1)), .int (nI (0)), .int (nI (0))]))) := by rw [zset2] at hD; exact hD
  refine lv_aload_n hx hb dX0_init_29 rfl (lv_at hl 0 rfl) ?_
  refine lv_iload_n hx hb dX0_init_30 rfl (lv_at hl 2 rfl) ?_
  refine va_putF (D := D) (ci := 0) (v := .int (nI (pa))) (ty := .int) (C := RX0) (T := TX0) (N := 7) hx hb hts iX0 tyX0 tyX0_ok nmX0 hown hZ.1 hP hD hS k (zset_s h0) rfl 1 (by decide) (hts (.fieldLink RX0 28 "TapeRobotics$Drive" "pace" "I") (by decide +kernel)) (fun _ h9 => h9) rfl hin rfl (by decide +kernel) rfl rfl (Nat.le_of_ble_eq_true rfl) dX0_init_31 (fun H locs hP hD hS => ?_)
  have hP : va_P D vwCl ((ws).set k (b, .inr (0, [.int (nI (nu)), .int (nI (pa)), .int (nI (0)), .null, .int ((-1)), .int (nI (0)), .int (nI (0))]))) H := by rw [zset2] at hP; exact hP
  have hD : va_D A ((ws).set k (b, .inr (0, [.int (nI (nu)), .int (nI (pa)), .int (nI (0)), .null, .int ((-1)), .int (nI (0)), .int (nI (0))]))) := by rw [zset2] at hD; exact hD
  refine lv_aload_n hx hb dX0_init_34 rfl (lv_at hl 0 rfl) ?_
  refine lv_iload_n hx hb dX0_init_35 rfl (lv_at hl 3 rfl) ?_
  refine va_putF (D := D) (ci := 0) (v := .int (nI (sp))) (ty := .int) (C := RX0) (T := TX0) (N := 7) hx hb hts iX0 tyX0 tyX0_ok nmX0 hown hZ.1 hP hD hS k (zset_s h0) rfl 2 (by decide) (hts (.fieldLink RX0 31 "TapeRobotics$Drive" "step" "I") (by decide +kernel)) (fun _ h9 => h9) rfl hin rfl (by decide +kernel) rfl rfl (Nat.le_of_ble_eq_true rfl) dX0_init_36 (fun H locs hP hD hS => ?_)
  have hP : va_P D vwCl ((ws).set k (b, .inr (0, [.int (nI (nu)), .int (nI (pa)), .int (nI (sp)), .null, .int ((-1)), .int (nI (0)), .int (nI (0))]))) H := by rw [zset2] at hP; exact hP
  have hD : va_D A ((ws).set k (b, .inr (0, [.int (nI (nu)), .int (nI (pa)), .int (nI (sp)), .null, .int ((-1)), .int (nI (0)), .int (nI (0))]))) := by rw [zset2] at hD; exact hD
  exact zr_qv (S := Unit) (w1 := fun u => ws.set k (b, zDrive nu pa sp none (-1) 0 0)) () hx hb hr hlocks (trivial) hP hD hS (rfl) dX0_init_39

set_option maxHeartbeats 4000000 in
set_option maxRecDepth 100000 in
theorem c_X3_init (l : Launch) (D : va_G) (cA : Nat → ClassId) (sz : Nat) (ws : va_W) (k b : Nat) (nu tr le sl : Nat) (h0 : ws[k]? = some (b, .inr (3, [.int (nI (0)), .int (nI (0)), .int (nI (0)), .int (nI (0)), .int (nI (0)), .int (nI (0)), .int (nI (0)), .null]))) : Met l yX3_init wsX3_init ({ frames := 1, cells := 1, slots := 11, locals := 20 }) (va_Pc [.ref b, .int (nI (nu)), .int (nI (tr)), .int (nI (le)), .int (nI (sl))] (zM D cA (ws) sz)) (va_Qv (fun _ : Nat => True) (fun u => zB D (va_A (ws) sz) ((ws ++ [(u, zInts cA 11 (fun _ => nI 0))]).set k (b, zTape nu tr le sl none true 0 u))) (va_A (ws) sz)) 1 11 (va_A (ws) sz) := by
  refine zOpen (cc := cX3_init) (maxL := 5) (ret := none) (own := RX3) (by decide) rfl rfl (Nat.le_of_ble_eq_true rfl) ?_
  intro p e s m below meth c ls hx hb hr hml hts hown hlocks hnm ⟨hZ, hP, hD0, hsz⟩ hl
  subst hsz
  have hD := hD0.self (sz := s.heap.size)
  generalize hAe : va_A (ws) s.heap.size = A at hD ⊢
  have hA : ∀ q : Nat, s.heap.size ≤ q → A q := fun q h => by rw [← hAe]; exact Or.inr h
  have hS : va_S A s.heap s.heap [] := va_S.rf
  have iX3 : ∀ w ∈ wsX30, w ∈ wsX3_init := by decide +kernel
  have hl : lv_has ls 5 [(0, .ref b), (1, .int (nI (nu))), (2, .int (nI (tr))), (3, .int (nI (le))), (4, .int (nI (sl)))] := hl
  have hin : meth.name = "<init>" := hnm
  refine lv_aload_n hx hb dX3_init_0 rfl (lv_at hl 0 rfl) ?_
  refine W.objInit hx hb hown (hts (.methodLink RX3 3 objectInit) (by decide +kernel)) (hts (.instanceMethod objectInit) (by decide +kernel)) (hts (.code objectInit ⟨#[0xb1]⟩ 1 none) (by decide +kernel)) rfl (by rw [hml]; exact hl.1) rfl dX3_init_1 (Nat.le_of_ble_eq_true rfl) (Nat.le_of_ble_eq_true rfl) ?_
  refine W.eq (g2 := F0 m 4 ls []) rfl ?_
  refine lv_aload_n hx hb dX3_init_4 rfl (lv_at hl 0 rfl) ?_
  refine lv_iconst (v := (-1)) hx hb dX3_init_5 (by decide) ?_
  refine va_put (D := D) (ci := 3) (v := .int ((-1))) (ty := .int) (C := RX3) (T := TX3) (N := 8) hx hb hts iX3 tyX3 tyX3_ok nmX3 hown hZ.1 hP hD hS k h0 rfl 4 (by decide) (hts (.fieldLink RX3 9 "TapeRobotics$Tape" "driveNumber" "I") (by decide +kernel)) (fun _ h9 => h9) rfl (by decide +kernel) rfl rfl (Nat.le_of_ble_eq_true rfl) dX3_init_6 (fun H locs hP hD hS => ?_)
  have hP : va_P D vwCl ((ws).set k (b, .inr (3, [.int (nI (0)), .int (nI (0)), .int (nI (0)), .int (nI (0)), .int ((-1)), .int (nI (0)), .int (nI (0)), .null]))) H := hP
  have hD : va_D A ((ws).set k (b, .inr (3, [.int (nI (0)), .int (nI (0)), .int (nI (0)), .int (nI (0)), .int ((-1)), .int (nI (0)), .int (nI (0)), .null]))) := hD
  refine lv_aload_n hx hb dX3_init_9 rfl (lv_at hl 0 rfl) ?_
  refine lv_iconst (v := nI (1)) hx hb dX3_init_10 (by decide) ?_
  refine va_put (D := D) (ci := 3) (v := .int (nI (1))) (ty := .boolean) (C := RX3) (T := TX3) (N := 8) hx hb hts iX3 tyX3 tyX3_ok nmX3 hown hZ.1 hP hD hS k (zset_s h0) rfl 5 (by decide) (hts (.fieldLink RX3 15 "TapeRobotics$Tape" "hasLabel" "Z") (by decide +kernel)) (fun _ h9 => h9) rfl (by decide +kernel) rfl rfl (Nat.le_of_ble_eq_true rfl) dX3_init_11 (fun H locs hP hD hS => ?_)
  have hP : va_P D vwCl ((ws).set k (b, .inr (3, [.int (nI (0)), .int (nI (0)), .int (nI (0)), .int (nI (0)), .int ((-1)), .int (nI (1)), .int (nI (0)), .null]))) H := by rw [zset2] at hP; exact hP
  have hD : va_D A ((ws).set k (b, .inr (3, [.int (nI (0)), .int (nI (0)), .int (nI (0)), .int (nI (0)), .int ((-1)), .int (nI (1)), .int (nI (0)), .null]))) := by rw [zset2] at hD; exact hD
  refine lv_aload_n hx hb dX3_init_14 rfl (lv_at hl 0 rfl) ?_
  refine lv_iconst (v := nI (0)) hx hb dX3_init_15 (by decide) ?_
  refine va_put (D := D) (ci := 3) (v := .int (nI (0))) (ty := .int) (C := RX3) (T := TX3) (N := 8) hx hb hts iX3 tyX3 tyX3_ok nmX3 hown hZ.1 hP hD hS k (zset_s h0) rfl 6 (by decide) (hts (.fieldLink RX3 19 "TapeRobotics$Tape" "fileCount" "I") (by decide +kernel)) (fun _ h9 => h9) rfl (by decide +kernel) rfl rfl (Nat.le_of_ble_eq_true rfl) dX3_init_16 (fun H locs hP hD hS => ?_)
  have hP : va_P D vwCl ((ws).set k (b, .inr (3, [.int (nI (0)), .int (nI (0)), .int (nI (0)), .int (nI (0)), .int ((-1)), .int (nI (1)), .int (nI (0)), .null]))) H := by rw [zset2] at hP; exact hP
  have hD : va_D A ((ws).set k (b, .inr (3, [.int (nI (0)), .int (nI (0)), .int (nI (0)), .int (nI (0)), .int ((-1)), .int (nI (1)), .int (nI (0)), .null]))) := by rw [zset2] at hD; exact hD
  refine lv_aload_n hx hb dX3_init_19 rfl (lv_at hl 0 rfl) ?_
  refine lv_bipush (v := nI (11)) hx hb dX3_init_20 (by decide) ?_
  refine z_newI hx hb (hts (.arrayClass .int) (by decide +kernel)) hZ hP hD hS hA 11 (nI_pos (by decide)) (nI_clamp (by decide)) (by decide) (Nat.le_of_ble_eq_true rfl) (Nat.le_of_ble_eq_true rfl) dX3_init_22 (fun q1 H hP hD hS => ?_)
  rw [zset_app (zlt h0)] at hP hD
  have hP : va_P D vwCl ((ws ++ [(q1, zInts cA 11 (fun _ => nI 0))]).set k (b, .inr (3, [.int (nI (0)), .int (nI (0)), .int (nI (0)), .int (nI (0)), .int ((-1)), .int (nI (1)), .int (nI (0)), .null]))) H := hP
  have hD : va_D A ((ws ++ [(q1, zInts cA 11 (fun _ => nI 0))]).set k (b, .inr (3, [.int (nI (0)), .int (nI (0)), .int (nI (0)), .int (nI (0)), .int ((-1)), .int (nI (1)), .int (nI (0)), .null]))) := hD
  refine va_putF (D := D) (ci := 3) (v := .ref q1) (ty := tyX3 7) (C := RX3) (T := TX3) (N := 8) hx hb hts iX3 tyX3 tyX3_ok nmX3 hown hZ.1 hP hD hS k (zset_s (zapp h0)) rfl 7 (by decide) (hts (.fieldLink RX3 22 "TapeRobotics$Tape" "borders" "[I") (by decide +kernel)) (fun _ h9 => h9) rfl hin rfl (by decide +kernel) rfl rfl (Nat.le_of_ble_eq_true rfl) dX3_init_24 (fun H locs hP hD hS => ?_)
  have hP : va_P D vwCl ((ws ++ [(q1, zInts cA 11 (fun _ => nI 0))]).set k (b, .inr (3, [.int (nI (0)), .int (nI (0)), .int (nI (0)), .int (nI (0)), .int ((-1)), .int (nI (1)), .int (nI (0)), .ref q1]))) H := by rw [zset2] at hP; exact hP
  have hD : va_D A ((ws ++ [(q1, zInts cA 11 (fun _ => nI 0))]).set k (b, .inr (3, [.int (nI (0)), .int (nI (0)), .int (nI (0)), .int (nI (0)), .int ((-1)), .int (nI (1)), .int (nI (0)), .ref q1]))) := by rw [zset2] at hD; exact hD
  refine lv_aload_n hx hb dX3_init_27 rfl (lv_at hl 0 rfl) ?_
  refine lv_iload_n hx hb dX3_init_28 rfl (lv_at hl 1 rfl) ?_
  refine va_putF (D := D) (ci := 3) (v := .int (nI (nu))) (ty := .int) (C := RX3) (T := TX3) (N := 8) hx hb hts iX3 tyX3 tyX3_ok nmX3 hown hZ.1 hP hD hS k (zset_s (zapp h0)) rfl 0 (by decide) (hts (.fieldLink RX3 26 "TapeRobotics$Tape" "number" "I") (by decide +kernel)) (fun _ h9 => h9) rfl hin rfl (by decide +kernel) rfl rfl (Nat.le_of_ble_eq_true rfl) dX3_init_29 (fun H locs hP hD hS => ?_)
  have hP : va_P D vwCl ((ws ++ [(q1, zInts cA 11 (fun _ => nI 0))]).set k (b, .inr (3, [.int (nI (nu)), .int (nI (0)), .int (nI (0)), .int (nI (0)), .int ((-1)), .int (nI (1)), .int (nI (0)), .ref q1]))) H := by rw [zset2] at hP; exact hP
  have hD : va_D A ((ws ++ [(q1, zInts cA 11 (fun _ => nI 0))]).set k (b, .inr (3, [.int (nI (nu)), .int (nI (0)), .int (nI (0)), .int (nI (0)), .int ((-1)), .int (nI (1)), .int (nI (0)), .ref q1]))) := by rw [zset2] at hD; exact hD
  refine lv_aload_n hx hb dX3_init_32 rfl (lv_at hl 0 rfl) ?_
  refine lv_iload_n hx hb dX3_init_33 rfl (lv_at hl 2 rfl) ?_
  refine va_putF (D := D) (ci := 3) (v := .int (nI (tr))) (ty := .int) (C := RX3) (T := TX3) (N := 8) hx hb hts iX3 tyX3 tyX3_ok nmX3 hown hZ.1 hP hD hS k (zset_s (zapp h0)) rfl 1 (by decide) (hts (.fieldLink RX3 29 "TapeRobotics$Tape" "tracks" "I") (by decide +kernel)) (fun _ h9 => h9) rfl hin rfl (by decide +kernel) rfl rfl (Nat.le_of_ble_eq_true rfl) dX3_init_34 (fun H locs hP hD hS => ?_)
  have hP : va_P D vwCl ((ws ++ [(q1, zInts cA 11 (fun _ => nI 0))]).set k (b, .inr (3, [.int (nI (nu)), .int (nI (tr)), .int (nI (0)), .int (nI (0)), .int ((-1)), .int (nI (1)), .int (nI (0)), .ref q1]))) H := by rw [zset2] at hP; exact hP
  have hD : va_D A ((ws ++ [(q1, zInts cA 11 (fun _ => nI 0))]).set k (b, .inr (3, [.int (nI (nu)), .int (nI (tr)), .int (nI (0)), .int (nI (0)), .int ((-1)), .int (nI (1)), .int (nI (0)), .ref q1]))) := by rw [zset2] at hD; exact hD
  refine lv_aload_n hx hb dX3_init_37 rfl (lv_at hl 0 rfl) ?_
  refine lv_iload_n hx hb dX3_init_38 rfl (lv_at hl 3 rfl) ?_
  refine va_putF (D := D) (ci := 3) (v := .int (nI (le))) (ty := .int) (C := RX3) (T := TX3) (N := 8) hx hb hts iX3 tyX3 tyX3_ok nmX3 hown hZ.1 hP hD hS k (zset_s (zapp h0)) rfl 2 (by decide) (hts (.fieldLink RX3 32 "TapeRobotics$Tape" "length" "I") (by decide +kernel)) (fun _ h9 => h9) rfl hin rfl (by decide +kernel) rfl rfl (Nat.le_of_ble_eq_true rfl) dX3_init_39 (fun H locs hP hD hS => ?_)
  have hP : va_P D vwCl ((ws ++ [(q1, zInts cA 11 (fun _ => nI 0))]).set k (b, .inr (3, [.int (nI (nu)), .int (nI (tr)), .int (nI (le)), .int (nI (0)), .int ((-1)), .int (nI (1)), .int (nI (0)), .ref q1]))) H := by rw [zset2] at hP; exact hP
  have hD : va_D A ((ws ++ [(q1, zInts cA 11 (fun _ => nI 0))]).set k (b, .inr (3, [.int (nI (nu)), .int (nI (tr)), .int (nI (le)), .int (nI (0)), .int ((-1)), .int (nI (1)), .int (nI (0)), .ref q1]))) := by rw [zset2] at hD; exact hD
  refine lv_aload_n hx hb dX3_init_42 rfl (lv_at hl 0 rfl) ?_
  refine lv_iload hx hb dX3_init_43 (lv_at hl 4 rfl) ?_
  refine va_put (D := D) (ci := 3) (v := .int (nI (sl))) (ty := .int) (C := RX3) (T := TX3) (N := 8) hx hb hts iX3 tyX3 tyX3_ok nmX3 hown hZ.1 hP hD hS k (zset_s (zapp h0)) rfl 3 (by decide) (hts (.fieldLink RX3 35 "TapeRobotics$Tape" "slot" "I") (by decide +kernel)) (fun _ h9 => h9) rfl (by decide +kernel) rfl rfl (Nat.le_of_ble_eq_true rfl) dX3_init_45 (fun H locs hP hD hS => ?_)
  have hP : va_P D vwCl ((ws ++ [(q1, zInts cA 11 (fun _ => nI 0))]).set k (b, .inr (3, [.int (nI (nu)), .int (nI (tr)), .int (nI (le)), .int (nI (sl)), .int ((-1)), .int (nI (1)), .int (nI (0)), .ref q1]))) H := by rw [zset2] at hP; exact hP
  have hD : va_D A ((ws ++ [(q1, zInts cA 11 (fun _ => nI 0))]).set k (b, .inr (3, [.int (nI (nu)), .int (nI (tr)), .int (nI (le)), .int (nI (sl)), .int ((-1)), .int (nI (1)), .int (nI (0)), .ref q1]))) := by rw [zset2] at hD; exact hD
  exact zr_qv (S := Nat) (w1 := fun u => (ws ++ [(u, zInts cA 11 (fun _ => nI 0))]).set k (b, zTape nu tr le sl none true 0 u)) q1 hx hb hr hlocks (trivial) hP hD hS (rfl) dX3_init_48

set_option maxHeartbeats 4000000 in
set_option maxRecDepth 100000 in
theorem c_X1_init (l : Launch) (D : va_G) (cA : Nat → ClassId) (sz : Nat) (ws : va_W) (k b : Nat)  (h0 : ws[k]? = some (b, .inr (1, [.int (nI (0)), .int (nI (0)), .null, .null, .null]))) : Met l yX1_init wsX1_init ({ frames := 1, cells := 3, slots := 180, locals := 20 }) (va_Pc [.ref b] (zM D cA (ws) sz)) (va_Qv (fun _ : Nat × Nat × Nat => True) (fun u => zB D (va_A (ws) sz) ((ws ++ [(u.1, zInts cA 60 (fun _ => nI 0))] ++ [(u.2.1, zInts cA 60 (fun _ => nI 0))] ++ [(u.2.2, zInts cA 60 (fun _ => nI 0))]).set k (b, zJobs 0 0 u.1 u.2.1 u.2.2))) (va_A (ws) sz)) 3 180 (va_A (ws) sz) := by
  refine zOpen (cc := cX1_init) (maxL := 1) (ret := none) (own := RX1) (by decide) rfl rfl (Nat.le_of_ble_eq_true rfl) ?_
  intro p e s m below meth c ls hx hb hr hml hts hown hlocks hnm ⟨hZ, hP, hD0, hsz⟩ hl
  subst hsz
  have hD := hD0.self (sz := s.heap.size)
  generalize hAe : va_A (ws) s.heap.size = A at hD ⊢
  have hA : ∀ q : Nat, s.heap.size ≤ q → A q := fun q h => by rw [← hAe]; exact Or.inr h
  have hS : va_S A s.heap s.heap [] := va_S.rf
  have iX1 : ∀ w ∈ wsX10, w ∈ wsX1_init := by decide +kernel
  have hl : lv_has ls 1 [(0, .ref b)] := hl
  have hin : meth.name = "<init>" := hnm
  refine lv_aload_n hx hb dX1_init_0 rfl (lv_at hl 0 rfl) ?_
  refine W.objInit hx hb hown (hts (.methodLink RX1 3 objectInit) (by decide +kernel)) (hts (.instanceMethod objectInit) (by decide +kernel)) (hts (.code objectInit ⟨#[0xb1]⟩ 1 none) (by decide +kernel)) rfl (by rw [hml]; exact hl.1) rfl dX1_init_1 (Nat.le_of_ble_eq_true rfl) (Nat.le_of_ble_eq_true rfl) ?_
  refine W.eq (g2 := F0 m 4 ls []) rfl ?_
  refine lv_aload_n hx hb dX1_init_4 rfl (lv_at hl 0 rfl) ?_
  refine lv_iconst (v := nI (0)) hx hb dX1_init_5 (by decide) ?_
  refine va_put (D := D) (ci := 1) (v := .int (nI (0))) (ty := .int) (C := RX1) (T := TX1) (N := 5) hx hb hts iX1 tyX1 tyX1_ok nmX1 hown hZ.1 hP hD hS k h0 rfl 0 (by decide) (hts (.fieldLink RX1 9 "TapeRobotics$Jobs" "count" "I") (by decide +kernel)) (fun _ h9 => h9) rfl (by decide +kernel) rfl rfl (Nat.le_of_ble_eq_true rfl) dX1_init_6 (fun H locs hP hD hS => ?_)
  have hP : va_P D vwCl ((ws).set k (b, .inr (1, [.int (nI (0)), .int (nI (0)), .null, .null, .null]))) H := hP
  have hD : va_D A ((ws).set k (b, .inr (1, [.int (nI (0)), .int (nI (0)), .null, .null, .null]))) := hD
  refine lv_aload_n hx hb dX1_init_9 rfl (lv_at hl 0 rfl) ?_
  refine lv_iconst (v := nI (0)) hx hb dX1_init_10 (by decide) ?_
  refine va_put (D := D) (ci := 1) (v := .int (nI (0))) (ty := .int) (C := RX1) (T := TX1) (N := 5) hx hb hts iX1 tyX1 tyX1_ok nmX1 hown hZ.1 hP hD hS k (zset_s h0) rfl 1 (by decide) (hts (.fieldLink RX1 15 "TapeRobotics$Jobs" "doneCount" "I") (by decide +kernel)) (fun _ h9 => h9) rfl (by decide +kernel) rfl rfl (Nat.le_of_ble_eq_true rfl) dX1_init_11 (fun H locs hP hD hS => ?_)
  have hP : va_P D vwCl ((ws).set k (b, .inr (1, [.int (nI (0)), .int (nI (0)), .null, .null, .null]))) H := by rw [zset2] at hP; exact hP
  have hD : va_D A ((ws).set k (b, .inr (1, [.int (nI (0)), .int (nI (0)), .null, .null, .null]))) := by rw [zset2] at hD; exact hD
  refine lv_aload_n hx hb dX1_init_14 rfl (lv_at hl 0 rfl) ?_
  refine lv_bipush (v := nI (60)) hx hb dX1_init_15 (by decide) ?_
  refine z_newI hx hb (hts (.arrayClass .int) (by decide +kernel)) hZ hP hD hS hA 60 (nI_pos (by decide)) (nI_clamp (by decide)) (by decide) (Nat.le_of_ble_eq_true rfl) (Nat.le_of_ble_eq_true rfl) dX1_init_17 (fun q1 H hP hD hS => ?_)
  rw [zset_app (zlt h0)] at hP hD
  have hP : va_P D vwCl ((ws ++ [(q1, zInts cA 60 (fun _ => nI 0))]).set k (b, .inr (1, [.int (nI (0)), .int (nI (0)), .null, .null, .null]))) H := hP
  have hD : va_D A ((ws ++ [(q1, zInts cA 60 (fun _ => nI 0))]).set k (b, .inr (1, [.int (nI (0)), .int (nI (0)), .null, .null, .null]))) := hD
  refine va_putF (D := D) (ci := 1) (v := .ref q1) (ty := tyX1 2) (C := RX1) (T := TX1) (N := 5) hx hb hts iX1 tyX1 tyX1_ok nmX1 hown hZ.1 hP hD hS k (zset_s (zapp h0)) rfl 2 (by decide) (hts (.fieldLink RX1 18 "TapeRobotics$Jobs" "waitsAt" "[I") (by decide +kernel)) (fun _ h9 => h9) rfl hin rfl (by decide +kernel) rfl rfl (Nat.le_of_ble_eq_true rfl) dX1_init_19 (fun H locs hP hD hS => ?_)
  have hP : va_P D vwCl ((ws ++ [(q1, zInts cA 60 (fun _ => nI 0))]).set k (b, .inr (1, [.int (nI (0)), .int (nI (0)), .ref q1, .null, .null]))) H := by rw [zset2] at hP; exact hP
  have hD : va_D A ((ws ++ [(q1, zInts cA 60 (fun _ => nI 0))]).set k (b, .inr (1, [.int (nI (0)), .int (nI (0)), .ref q1, .null, .null]))) := by rw [zset2] at hD; exact hD
  refine lv_aload_n hx hb dX1_init_22 rfl (lv_at hl 0 rfl) ?_
  refine lv_bipush (v := nI (60)) hx hb dX1_init_23 (by decide) ?_
  refine z_newI hx hb (hts (.arrayClass .int) (by decide +kernel)) hZ hP hD hS hA 60 (nI_pos (by decide)) (nI_clamp (by decide)) (by decide) (Nat.le_of_ble_eq_true rfl) (Nat.le_of_ble_eq_true rfl) dX1_init_25 (fun q2 H hP hD hS => ?_)
  rw [zset_app (zlt (zapp h0))] at hP hD
  have hP : va_P D vwCl ((ws ++ [(q1, zInts cA 60 (fun _ => nI 0))] ++ [(q2, zInts cA 60 (fun _ => nI 0))]).set k (b, .inr (1, [.int (nI (0)), .int (nI (0)), .ref q1, .null, .null]))) H := hP
  have hD : va_D A ((ws ++ [(q1, zInts cA 60 (fun _ => nI 0))] ++ [(q2, zInts cA 60 (fun _ => nI 0))]).set k (b, .inr (1, [.int (nI (0)), .int (nI (0)), .ref q1, .null, .null]))) := hD
  refine va_putF (D := D) (ci := 1) (v := .ref q2) (ty := tyX1 3) (C := RX1) (T := TX1) (N := 5) hx hb hts iX1 tyX1 tyX1_ok nmX1 hown hZ.1 hP hD hS k (zset_s (zapp (zapp h0))) rfl 3 (by decide) (hts (.fieldLink RX1 22 "TapeRobotics$Jobs" "files" "[I") (by decide +kernel)) (fun _ h9 => h9) rfl hin rfl (by decide +kernel) rfl rfl (Nat.le_of_ble_eq_true rfl) dX1_init_27 (fun H locs hP hD hS => ?_)
  have hP : va_P D vwCl ((ws ++ [(q1, zInts cA 60 (fun _ => nI 0))] ++ [(q2, zInts cA 60 (fun _ => nI 0))]).set k (b, .inr (1, [.int (nI (0)), .int (nI (0)), .ref q1, .ref q2, .null]))) H := by rw [zset2] at hP; exact hP
  have hD : va_D A ((ws ++ [(q1, zInts cA 60 (fun _ => nI 0))] ++ [(q2, zInts cA 60 (fun _ => nI 0))]).set k (b, .inr (1, [.int (nI (0)), .int (nI (0)), .ref q1, .ref q2, .null]))) := by rw [zset2] at hD; exact hD
  refine lv_aload_n hx hb dX1_init_30 rfl (lv_at hl 0 rfl) ?_
  refine lv_bipush (v := nI (60)) hx hb dX1_init_31 (by decide) ?_
  refine z_newI hx hb (hts (.arrayClass .int) (by decide +kernel)) hZ hP hD hS hA 60 (nI_pos (by decide)) (nI_clamp (by decide)) (by decide) (Nat.le_of_ble_eq_true rfl) (Nat.le_of_ble_eq_true rfl) dX1_init_33 (fun q3 H hP hD hS => ?_)
  rw [zset_app (zlt (zapp (zapp h0)))] at hP hD
  have hP : va_P D vwCl ((ws ++ [(q1, zInts cA 60 (fun _ => nI 0))] ++ [(q2, zInts cA 60 (fun _ => nI 0))] ++ [(q3, zInts cA 60 (fun _ => nI 0))]).set k (b, .inr (1, [.int (nI (0)), .int (nI (0)), .ref q1, .ref q2, .null]))) H := hP
  have hD : va_D A ((ws ++ [(q1, zInts cA 60 (fun _ => nI 0))] ++ [(q2, zInts cA 60 (fun _ => nI 0))] ++ [(q3, zInts cA 60 (fun _ => nI 0))]).set k (b, .inr (1, [.int (nI (0)), .int (nI (0)), .ref q1, .ref q2, .null]))) := hD
  refine va_putF (D := D) (ci := 1) (v := .ref q3) (ty := tyX1 4) (C := RX1) (T := TX1) (N := 5) hx hb hts iX1 tyX1 tyX1_ok nmX1 hown hZ.1 hP hD hS k (zset_s (zapp (zapp (zapp h0)))) rfl 4 (by decide) (hts (.fieldLink RX1 25 "TapeRobotics$Jobs" "deadlines" "[I") (by decide +kernel)) (fun _ h9 => h9) rfl hin rfl (by decide +kernel) rfl rfl (Nat.le_of_ble_eq_true rfl) dX1_init_35 (fun H locs hP hD hS => ?_)
  have hP : va_P D vwCl ((ws ++ [(q1, zInts cA 60 (fun _ => nI 0))] ++ [(q2, zInts cA 60 (fun _ => nI 0))] ++ [(q3, zInts cA 60 (fun _ => nI 0))]).set k (b, .inr (1, [.int (nI (0)), .int (nI (0)), .ref q1, .ref q2, .ref q3]))) H := by rw [zset2] at hP; exact hP
  have hD : va_D A ((ws ++ [(q1, zInts cA 60 (fun _ => nI 0))] ++ [(q2, zInts cA 60 (fun _ => nI 0))] ++ [(q3, zInts cA 60 (fun _ => nI 0))]).set k (b, .inr (1, [.int (nI (0)), .int (nI (0)), .ref q1, .ref q2, .ref q3]))) := by rw [zset2] at hD; exact hD
  exact zr_qv (S := Nat × Nat × Nat) (w1 := fun u => (ws ++ [(u.1, zInts cA 60 (fun _ => nI 0))] ++ [(u.2.1, zInts cA 60 (fun _ => nI 0))] ++ [(u.2.2, zInts cA 60 (fun _ => nI 0))]).set k (b, zJobs 0 0 u.1 u.2.1 u.2.2)) (q1, q2, q3) hx hb hr hlocks (trivial) hP hD hS (rfl) dX1_init_38

set_option maxHeartbeats 4000000 in
set_option maxRecDepth 100000 in
theorem c_X2_init (l : Launch) (D : va_G) (cA : Nat → ClassId) (sz : Nat) (ws : va_W) (k b : Nat)  (h0 : ws[k]? = some (b, .inr (2, [.int (nI (0)), .null, .null, .null, .null, .null]))) : Met l yX2_init wsX2_init ({ frames := 1, cells := 5, slots := 973, locals := 20 }) (va_Pc [.ref b] (zM D cA (ws) sz)) (va_Qv (fun _ : Nat × Nat × Nat × Nat × Nat => True) (fun u => zB D (va_A (ws) sz) ((ws ++ [(u.1, zInts cA 7 (fun _ => nI 0))] ++ [(u.2.1, zInts cA 56 (fun _ => nI 0))] ++ [(u.2.2.1, zInts cA 896 (fun _ => nI 0))] ++ [(u.2.2.2.1, zInts cA 7 (fun _ => nI 0))] ++ [(u.2.2.2.2, zInts cA 7 (fun _ => nI 0))]).set k (b, zOrd 0 u.1 u.2.1 u.2.2.1 u.2.2.2.1 u.2.2.2.2))) (va_A (ws) sz)) 5 973 (va_A (ws) sz) := by
  refine zOpen (cc := cX2_init) (maxL := 1) (ret := none) (own := RX2) (by decide) rfl rfl (Nat.le_of_ble_eq_true rfl) ?_
  intro p e s m below meth c ls hx hb hr hml hts hown hlocks hnm ⟨hZ, hP, hD0, hsz⟩ hl
  subst hsz
  have hD := hD0.self (sz := s.heap.size)
  generalize hAe : va_A (ws) s.heap.size = A at hD ⊢
  have hA : ∀ q : Nat, s.heap.size ≤ q → A q := fun q h => by rw [← hAe]; exact Or.inr h
  have hS : va_S A s.heap s.heap [] := va_S.rf
  have iX2 : ∀ w ∈ wsX20, w ∈ wsX2_init := by decide +kernel
  have hl : lv_has ls 1 [(0, .ref b)] := hl
  have hin : meth.name = "<init>" := hnm
  refine lv_aload_n hx hb dX2_init_0 rfl (lv_at hl 0 rfl) ?_
  refine W.objInit hx hb hown (hts (.methodLink RX2 3 objectInit) (by decide +kernel)) (hts (.instanceMethod objectInit) (by decide +kernel)) (hts (.code objectInit ⟨#[0xb1]⟩ 1 none) (by decide +kernel)) rfl (by rw [hml]; exact hl.1) rfl dX2_init_1 (Nat.le_of_ble_eq_true rfl) (Nat.le_of_ble_eq_true rfl) ?_
  refine W.eq (g2 := F0 m 4 ls []) rfl ?_
  refine lv_aload_n hx hb dX2_init_4 rfl (lv_at hl 0 rfl) ?_
  refine lv_iconst (v := nI (0)) hx hb dX2_init_5 (by decide) ?_
  refine va_put (D := D) (ci := 2) (v := .int (nI (0))) (ty := .int) (C := RX2) (T := TX2) (N := 6) hx hb hts iX2 tyX2 tyX2_ok nmX2 hown hZ.1 hP hD hS k h0 rfl 0 (by decide) (hts (.fieldLink RX2 9 "TapeRobotics$Orders" "count" "I") (by decide +kernel)) (fun _ h9 => h9) rfl (by decide +kernel) rfl rfl (Nat.le_of_ble_eq_true rfl) dX2_init_6 (fun H locs hP hD hS => ?_)
  have hP : va_P D vwCl ((ws).set k (b, .inr (2, [.int (nI (0)), .null, .null, .null, .null, .null]))) H := hP
  have hD : va_D A ((ws).set k (b, .inr (2, [.int (nI (0)), .null, .null, .null, .null, .null]))) := hD
  refine lv_aload_n hx hb dX2_init_9 rfl (lv_at hl 0 rfl) ?_
  refine lv_bipush (v := nI (7)) hx hb dX2_init_10 (by decide) ?_
  refine z_newI hx hb (hts (.arrayClass .int) (by decide +kernel)) hZ hP hD hS hA 7 (nI_pos (by decide)) (nI_clamp (by decide)) (by decide) (Nat.le_of_ble_eq_true rfl) (Nat.le_of_ble_eq_true rfl) dX2_init_12 (fun q1 H hP hD hS => ?_)
  rw [zset_app (zlt h0)] at hP hD
  have hP : va_P D vwCl ((ws ++ [(q1, zInts cA 7 (fun _ => nI 0))]).set k (b, .inr (2, [.int (nI (0)), .null, .null, .null, .null, .null]))) H := hP
  have hD : va_D A ((ws ++ [(q1, zInts cA 7 (fun _ => nI 0))]).set k (b, .inr (2, [.int (nI (0)), .null, .null, .null, .null, .null]))) := hD
  refine va_putF (D := D) (ci := 2) (v := .ref q1) (ty := tyX2 1) (C := RX2) (T := TX2) (N := 6) hx hb hts iX2 tyX2 tyX2_ok nmX2 hown hZ.1 hP hD hS k (zset_s (zapp h0)) rfl 1 (by decide) (hts (.fieldLink RX2 15 "TapeRobotics$Orders" "numbers" "[I") (by decide +kernel)) (fun _ h9 => h9) rfl hin rfl (by decide +kernel) rfl rfl (Nat.le_of_ble_eq_true rfl) dX2_init_14 (fun H locs hP hD hS => ?_)
  have hP : va_P D vwCl ((ws ++ [(q1, zInts cA 7 (fun _ => nI 0))]).set k (b, .inr (2, [.int (nI (0)), .ref q1, .null, .null, .null, .null]))) H := by rw [zset2] at hP; exact hP
  have hD : va_D A ((ws ++ [(q1, zInts cA 7 (fun _ => nI 0))]).set k (b, .inr (2, [.int (nI (0)), .ref q1, .null, .null, .null, .null]))) := by rw [zset2] at hD; exact hD
  refine lv_aload_n hx hb dX2_init_17 rfl (lv_at hl 0 rfl) ?_
  refine lv_bipush (v := nI (56)) hx hb dX2_init_18 (by decide) ?_
  refine z_newI hx hb (hts (.arrayClass .int) (by decide +kernel)) hZ hP hD hS hA 56 (nI_pos (by decide)) (nI_clamp (by decide)) (by decide) (Nat.le_of_ble_eq_true rfl) (Nat.le_of_ble_eq_true rfl) dX2_init_20 (fun q2 H hP hD hS => ?_)
  rw [zset_app (zlt (zapp h0))] at hP hD
  have hP : va_P D vwCl ((ws ++ [(q1, zInts cA 7 (fun _ => nI 0))] ++ [(q2, zInts cA 56 (fun _ => nI 0))]).set k (b, .inr (2, [.int (nI (0)), .ref q1, .null, .null, .null, .null]))) H := hP
  have hD : va_D A ((ws ++ [(q1, zInts cA 7 (fun _ => nI 0))] ++ [(q2, zInts cA 56 (fun _ => nI 0))]).set k (b, .inr (2, [.int (nI (0)), .ref q1, .null, .null, .null, .null]))) := hD
  refine va_putF (D := D) (ci := 2) (v := .ref q2) (ty := tyX2 2) (C := RX2) (T := TX2) (N := 6) hx hb hts iX2 tyX2 tyX2_ok nmX2 hown hZ.1 hP hD hS k (zset_s (zapp (zapp h0))) rfl 2 (by decide) (hts (.fieldLink RX2 19 "TapeRobotics$Orders" "legs" "[I") (by decide +kernel)) (fun _ h9 => h9) rfl hin rfl (by decide +kernel) rfl rfl (Nat.le_of_ble_eq_true rfl) dX2_init_22 (fun H locs hP hD hS => ?_)
  have hP : va_P D vwCl ((ws ++ [(q1, zInts cA 7 (fun _ => nI 0))] ++ [(q2, zInts cA 56 (fun _ => nI 0))]).set k (b, .inr (2, [.int (nI (0)), .ref q1, .ref q2, .null, .null, .null]))) H := by rw [zset2] at hP; exact hP
  have hD : va_D A ((ws ++ [(q1, zInts cA 7 (fun _ => nI 0))] ++ [(q2, zInts cA 56 (fun _ => nI 0))]).set k (b, .inr (2, [.int (nI (0)), .ref q1, .ref q2, .null, .null, .null]))) := by rw [zset2] at hD; exact hD
  refine lv_aload_n hx hb dX2_init_25 rfl (lv_at hl 0 rfl) ?_
  refine lv_sipush (v := nI (896)) hx hb dX2_init_26 (by decide) ?_
  refine z_newI hx hb (hts (.arrayClass .int) (by decide +kernel)) hZ hP hD hS hA 896 (nI_pos (by decide)) (nI_clamp (by decide)) (by decide) (Nat.le_of_ble_eq_true rfl) (Nat.le_of_ble_eq_true rfl) dX2_init_29 (fun q3 H hP hD hS => ?_)
  rw [zset_app (zlt (zapp (zapp h0)))] at hP hD
  have hP : va_P D vwCl ((ws ++ [(q1, zInts cA 7 (fun _ => nI 0))] ++ [(q2, zInts cA 56 (fun _ => nI 0))] ++ [(q3, zInts cA 896 (fun _ => nI 0))]).set k (b, .inr (2, [.int (nI (0)), .ref q1, .ref q2, .null, .null, .null]))) H := hP
  have hD : va_D A ((ws ++ [(q1, zInts cA 7 (fun _ => nI 0))] ++ [(q2, zInts cA 56 (fun _ => nI 0))] ++ [(q3, zInts cA 896 (fun _ => nI 0))]).set k (b, .inr (2, [.int (nI (0)), .ref q1, .ref q2, .null, .null, .null]))) := hD
  refine va_putF (D := D) (ci := 2) (v := .ref q3) (ty := tyX2 3) (C := RX2) (T := TX2) (N := 6) hx hb hts iX2 tyX2 tyX2_ok nmX2 hown hZ.1 hP hD hS k (zset_s (zapp (zapp (zapp h0)))) rfl 3 (by decide) (hts (.fieldLink RX2 22 "TapeRobotics$Orders" "rests" "[I") (by decide +kernel)) (fun _ h9 => h9) rfl hin rfl (by decide +kernel) rfl rfl (Nat.le_of_ble_eq_true rfl) dX2_init_31 (fun H locs hP hD hS => ?_)
  have hP : va_P D vwCl ((ws ++ [(q1, zInts cA 7 (fun _ => nI 0))] ++ [(q2, zInts cA 56 (fun _ => nI 0))] ++ [(q3, zInts cA 896 (fun _ => nI 0))]).set k (b, .inr (2, [.int (nI (0)), .ref q1, .ref q2, .ref q3, .null, .null]))) H := by rw [zset2] at hP; exact hP
  have hD : va_D A ((ws ++ [(q1, zInts cA 7 (fun _ => nI 0))] ++ [(q2, zInts cA 56 (fun _ => nI 0))] ++ [(q3, zInts cA 896 (fun _ => nI 0))]).set k (b, .inr (2, [.int (nI (0)), .ref q1, .ref q2, .ref q3, .null, .null]))) := by rw [zset2] at hD; exact hD
  refine lv_aload_n hx hb dX2_init_34 rfl (lv_at hl 0 rfl) ?_
  refine lv_bipush (v := nI (7)) hx hb dX2_init_35 (by decide) ?_
  refine z_newI hx hb (hts (.arrayClass .int) (by decide +kernel)) hZ hP hD hS hA 7 (nI_pos (by decide)) (nI_clamp (by decide)) (by decide) (Nat.le_of_ble_eq_true rfl) (Nat.le_of_ble_eq_true rfl) dX2_init_37 (fun q4 H hP hD hS => ?_)
  rw [zset_app (zlt (zapp (zapp (zapp h0))))] at hP hD
  have hP : va_P D vwCl ((ws ++ [(q1, zInts cA 7 (fun _ => nI 0))] ++ [(q2, zInts cA 56 (fun _ => nI 0))] ++ [(q3, zInts cA 896 (fun _ => nI 0))] ++ [(q4, zInts cA 7 (fun _ => nI 0))]).set k (b, .inr (2, [.int (nI (0)), .ref q1, .ref q2, .ref q3, .null, .null]))) H := hP
  have hD : va_D A ((ws ++ [(q1, zInts cA 7 (fun _ => nI 0))] ++ [(q2, zInts cA 56 (fun _ => nI 0))] ++ [(q3, zInts cA 896 (fun _ => nI 0))] ++ [(q4, zInts cA 7 (fun _ => nI 0))]).set k (b, .inr (2, [.int (nI (0)), .ref q1, .ref q2, .ref q3, .null, .null]))) := hD
  refine va_putF (D := D) (ci := 2) (v := .ref q4) (ty := tyX2 4) (C := RX2) (T := TX2) (N := 6) hx hb hts iX2 tyX2 tyX2_ok nmX2 hown hZ.1 hP hD hS k (zset_s (zapp (zapp (zapp (zapp h0))))) rfl 4 (by decide) (hts (.fieldLink RX2 25 "TapeRobotics$Orders" "best" "[I") (by decide +kernel)) (fun _ h9 => h9) rfl hin rfl (by decide +kernel) rfl rfl (Nat.le_of_ble_eq_true rfl) dX2_init_39 (fun H locs hP hD hS => ?_)
  have hP : va_P D vwCl ((ws ++ [(q1, zInts cA 7 (fun _ => nI 0))] ++ [(q2, zInts cA 56 (fun _ => nI 0))] ++ [(q3, zInts cA 896 (fun _ => nI 0))] ++ [(q4, zInts cA 7 (fun _ => nI 0))]).set k (b, .inr (2, [.int (nI (0)), .ref q1, .ref q2, .ref q3, .ref q4, .null]))) H := by rw [zset2] at hP; exact hP
  have hD : va_D A ((ws ++ [(q1, zInts cA 7 (fun _ => nI 0))] ++ [(q2, zInts cA 56 (fun _ => nI 0))] ++ [(q3, zInts cA 896 (fun _ => nI 0))] ++ [(q4, zInts cA 7 (fun _ => nI 0))]).set k (b, .inr (2, [.int (nI (0)), .ref q1, .ref q2, .ref q3, .ref q4, .null]))) := by rw [zset2] at hD; exact hD
  refine lv_aload_n hx hb dX2_init_42 rfl (lv_at hl 0 rfl) ?_
  refine lv_bipush (v := nI (7)) hx hb dX2_init_43 (by decide) ?_
  refine z_newI hx hb (hts (.arrayClass .int) (by decide +kernel)) hZ hP hD hS hA 7 (nI_pos (by decide)) (nI_clamp (by decide)) (by decide) (Nat.le_of_ble_eq_true rfl) (Nat.le_of_ble_eq_true rfl) dX2_init_45 (fun q5 H hP hD hS => ?_)
  rw [zset_app (zlt (zapp (zapp (zapp (zapp h0)))))] at hP hD
  have hP : va_P D vwCl ((ws ++ [(q1, zInts cA 7 (fun _ => nI 0))] ++ [(q2, zInts cA 56 (fun _ => nI 0))] ++ [(q3, zInts cA 896 (fun _ => nI 0))] ++ [(q4, zInts cA 7 (fun _ => nI 0))] ++ [(q5, zInts cA 7 (fun _ => nI 0))]).set k (b, .inr (2, [.int (nI (0)), .ref q1, .ref q2, .ref q3, .ref q4, .null]))) H := hP
  have hD : va_D A ((ws ++ [(q1, zInts cA 7 (fun _ => nI 0))] ++ [(q2, zInts cA 56 (fun _ => nI 0))] ++ [(q3, zInts cA 896 (fun _ => nI 0))] ++ [(q4, zInts cA 7 (fun _ => nI 0))] ++ [(q5, zInts cA 7 (fun _ => nI 0))]).set k (b, .inr (2, [.int (nI (0)), .ref q1, .ref q2, .ref q3, .ref q4, .null]))) := hD
  refine va_putF (D := D) (ci := 2) (v := .ref q5) (ty := tyX2 5) (C := RX2) (T := TX2) (N := 6) hx hb hts iX2 tyX2 tyX2_ok nmX2 hown hZ.1 hP hD hS k (zset_s (zapp (zapp (zapp (zapp (zapp h0)))))) rfl 5 (by decide) (hts (.fieldLink RX2 28 "TapeRobotics$Orders" "order" "[I") (by decide +kernel)) (fun _ h9 => h9) rfl hin rfl (by decide +kernel) rfl rfl (Nat.le_of_ble_eq_true rfl) dX2_init_47 (fun H locs hP hD hS => ?_)
  have hP : va_P D vwCl ((ws ++ [(q1, zInts cA 7 (fun _ => nI 0))] ++ [(q2, zInts cA 56 (fun _ => nI 0))] ++ [(q3, zInts cA 896 (fun _ => nI 0))] ++ [(q4, zInts cA 7 (fun _ => nI 0))] ++ [(q5, zInts cA 7 (fun _ => nI 0))]).set k (b, .inr (2, [.int (nI (0)), .ref q1, .ref q2, .ref q3, .ref q4, .ref q5]))) H := by rw [zset2] at hP; exact hP
  have hD : va_D A ((ws ++ [(q1, zInts cA 7 (fun _ => nI 0))] ++ [(q2, zInts cA 56 (fun _ => nI 0))] ++ [(q3, zInts cA 896 (fun _ => nI 0))] ++ [(q4, zInts cA 7 (fun _ => nI 0))] ++ [(q5, zInts cA 7 (fun _ => nI 0))]).set k (b, .inr (2, [.int (nI (0)), .ref q1, .ref q2, .ref q3, .ref q4, .ref q5]))) := by rw [zset2] at hD; exact hD
  exact zr_qv (S := Nat × Nat × Nat × Nat × Nat) (w1 := fun u => (ws ++ [(u.1, zInts cA 7 (fun _ => nI 0))] ++ [(u.2.1, zInts cA 56 (fun _ => nI 0))] ++ [(u.2.2.1, zInts cA 896 (fun _ => nI 0))] ++ [(u.2.2.2.1, zInts cA 7 (fun _ => nI 0))] ++ [(u.2.2.2.2, zInts cA 7 (fun _ => nI 0))]).set k (b, zOrd 0 u.1 u.2.1 u.2.2.1 u.2.2.2.1 u.2.2.2.2)) (q1, q2, q3, q4, q5) hx hb hr hlocks (trivial) hP hD hS (rfl) dX2_init_50

