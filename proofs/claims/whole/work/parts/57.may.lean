/-- what the model's may.. write down -/
def m1 : Bool → Nat
  | false => 1
  | true => 0
def m2 : Bool → Bool → Nat
  | false, _ => 1
  | true, false => 2
  | true, true => 0
def m3 : Bool → Bool → Bool → Nat
  | false, _, _ => 1
  | true, false, _ => 2
  | true, true, false => 3
  | true, true, true => 0
theorem upd_oI (g : Nat → Option Nat) (i : Nat) (v : Option Nat) : upd (fun k => oI (g k)) i (oI v) = fun k => oI (va_up g i v k) := by
  funext k
  by_cases h : k = i
  · rw [h, pk_us, va_up_self]
  · rw [pk_un h, va_up_ne _ _ h]
theorem upd_lost (g : Nat → Bool) (i : Nat) (v : Bool) : upd (fun k => bI (!g k)) i (bI (!v)) = fun k => bI (!va_up g i v k) := by
  funext k
  by_cases h : k = i
  · rw [h, pk_us, va_up_self]
  · rw [pk_un h, va_up_ne _ _ h]
theorem upd_bI (g : Nat → Bool) (i : Nat) (v : Bool) : upd (fun k => bI (g k)) i (bI v) = fun k => bI (va_up g i v k) := by
  funext k
  by_cases h : k = i
  · rw [h, pk_us, va_up_self]
  · rw [pk_un h, va_up_ne _ _ h]
/-- what holds of the model's rows beside the class's numbers -/
def mI (n : Nat) (la : Nat → Bool) (fc : Nat → Nat) (bo : Nat → Nat → Nat) (nd : Nat) (ck : Nat → Int32) (ct : Nat → Nat) (hd : Nat → Option Nat) (pq pf : Nat → Int32) (nj : Nat) (fw jt : Nat → Int32) (fin : Nat → Bool) (sf bf : Nat → Int32) (dn : Nat) : Prop :=
  (∀ i, n ≤ i → fc i = 0 ∧ la i = true) ∧ (∀ j, nd ≤ j → ck j = 0 ∧ ct j = 0) ∧ (∀ t f, t < n → f < fc t → sf (10 * t + f) = nI (bo t f) ∧ bf (10 * t + f) = nI (bo t (f + 1) - bo t f)) ∧ (∀ j t, j < nd → hd j = some t → pf j = pq j) ∧ (∀ k, k < nj → fw k = (if fin k then -1 else jt k) ∧ ∃ t, t < n ∧ jt k = nI t) ∧ (∀ k, nj ≤ k → fin k = false) ∧ dn = cnt fin nj
set_option maxHeartbeats 4000000 in
set_option maxRecDepth 100000 in
theorem c_X5_may (l : Launch) (D : va_G) (cA : Nat → ClassId) (sz : Nat) (ws : va_W) (gd : Nat → Nat) (n nd nj my th : Nat) (b9 : Bool) (m0 : ws[0]? = some (gd 0, zMod gd n nd nj my th)) : Met l yX5_may wsX5_may ({ frames := 0, cells := 0, slots := 0, locals := 0 }) (va_Pc [.ref (gd 0), .int (bI (b9))] (zM D cA (ws) sz)) (va_Qi (fun (r : Int32) (u : Unit) => r = bI (b9)) (fun u => zB D (va_A (ws) sz) (ws.set 0 (gd 0, zMod gd n nd nj my (m1 b9)))) (va_A (ws) sz)) 0 0 (va_A (ws) sz) := by
  refine zOpen (cc := cX5_may) (maxL := 2) (ret := (some .boolean)) (own := RX5) (by decide) rfl rfl (Nat.le_of_ble_eq_true rfl) ?_
  intro p e s m below meth c ls hx hb hr hml hts hown hlocks hnm ⟨hZ, hP, hD0, hsz⟩ hl
  subst hsz
  have hD := hD0.self (sz := s.heap.size)
  generalize hAe : va_A (ws) s.heap.size = A at hD ⊢
  have hA : ∀ q : Nat, s.heap.size ≤ q → A q := fun q h => by rw [← hAe]; exact Or.inr h
  have hS : va_S A s.heap s.heap [] := va_S.rf
  have iX5 : ∀ w ∈ wsX50, w ∈ wsX5_may := by decide +kernel
  have hl : lv_has ls 2 [(0, .ref (gd 0)), (1, .int (bI (b9)))] := hl
  rcases b9 with _ | _
  · refine lv_aload_n hx hb dX5_may_0 rfl (lv_at hl 0 rfl) ?_
    refine lv_iload_n hx hb dX5_may_1 rfl (lv_at hl 1 rfl) ?_
    refine zb_eq (tgt := 9) hx hb dX5_may_2 (by decide) (fun c_1 => ?_) (fun c_1 => Bool.noConfusion c_1)
    refine lv_iconst (v := nI (1)) hx hb dX5_may_9 (by decide) ?_
    refine va_put (D := D) (ci := 5) (v := .int (nI (1))) (ty := .int) (C := RX5) (T := TX5) (N := 26) hx hb hts iX5 tyX5 tyX5_ok nmX5 hown hZ.1 hP hD hS 0 m0 rfl 25 (by decide) (hts (.fieldLink RX5 74 "TapeRoboticsModel" "thrown" "I") (by decide +kernel)) (fun _ h9 => h9) rfl (by decide +kernel) rfl rfl (Nat.le_of_ble_eq_true rfl) dX5_may_10 (fun H locs hP hD hS => ?_)
    have hP : va_P D vwCl (ws.set 0 (gd 0, zMod gd n nd nj my 1)) H := hP
    have hD : va_D A (ws.set 0 (gd 0, zMod gd n nd nj my 1)) := hD
    refine lv_iload_n hx hb dX5_may_13 rfl (lv_at hl 1 rfl) ?_
    exact zr_qz (S := Unit) (w1 := fun _ => _) () hx hb hr hlocks (rfl) hP hD hS (rfl) dX5_may_14
  · refine lv_aload_n hx hb dX5_may_0 rfl (lv_at hl 0 rfl) ?_
    refine lv_iload_n hx hb dX5_may_1 rfl (lv_at hl 1 rfl) ?_
    refine zb_eq (tgt := 9) hx hb dX5_may_2 (by decide) (fun c_2 => Bool.noConfusion c_2) (fun c_2 => ?_)
    refine lv_iconst (v := nI (0)) hx hb dX5_may_5 (by decide) ?_
    refine lv_goto (tgt := 10) hx hb dX5_may_6 (by decide) ?_
    refine va_put (D := D) (ci := 5) (v := .int (nI (0))) (ty := .int) (C := RX5) (T := TX5) (N := 26) hx hb hts iX5 tyX5 tyX5_ok nmX5 hown hZ.1 hP hD hS 0 m0 rfl 25 (by decide) (hts (.fieldLink RX5 74 "TapeRoboticsModel" "thrown" "I") (by decide +kernel)) (fun _ h9 => h9) rfl (by decide +kernel) rfl rfl (Nat.le_of_ble_eq_true rfl) dX5_may_10 (fun H locs hP hD hS => ?_)
    have hP : va_P D vwCl (ws.set 0 (gd 0, zMod gd n nd nj my 0)) H := hP
    have hD : va_D A (ws.set 0 (gd 0, zMod gd n nd nj my 0)) := hD
    refine lv_iload_n hx hb dX5_may_13 rfl (lv_at hl 1 rfl) ?_
    exact zr_qz (S := Unit) (w1 := fun _ => _) () hx hb hr hlocks (rfl) hP hD hS (rfl) dX5_may_14

set_option maxHeartbeats 4000000 in
set_option maxRecDepth 100000 in
theorem c_X5_mayBoth (l : Launch) (D : va_G) (cA : Nat → ClassId) (sz : Nat) (ws : va_W) (gd : Nat → Nat) (n nd nj my th : Nat) (b9 c9 : Bool) (m0 : ws[0]? = some (gd 0, zMod gd n nd nj my th)) : Met l yX5_mayBoth wsX5_mayBoth ({ frames := 0, cells := 0, slots := 0, locals := 0 }) (va_Pc [.ref (gd 0), .int (bI (b9)), .int (bI (c9))] (zM D cA (ws) sz)) (va_Qi (fun (r : Int32) (u : Unit) => r = bI (b9 && c9)) (fun u => zB D (va_A (ws) sz) (ws.set 0 (gd 0, zMod gd n nd nj my (m2 b9 c9)))) (va_A (ws) sz)) 0 0 (va_A (ws) sz) := by
  refine zOpen (cc := cX5_mayBoth) (maxL := 3) (ret := (some .boolean)) (own := RX5) (by decide) rfl rfl (Nat.le_of_ble_eq_true rfl) ?_
  intro p e s m below meth c ls hx hb hr hml hts hown hlocks hnm ⟨hZ, hP, hD0, hsz⟩ hl
  subst hsz
  have hD := hD0.self (sz := s.heap.size)
  generalize hAe : va_A (ws) s.heap.size = A at hD ⊢
  have hA : ∀ q : Nat, s.heap.size ≤ q → A q := fun q h => by rw [← hAe]; exact Or.inr h
  have hS : va_S A s.heap s.heap [] := va_S.rf
  have iX5 : ∀ w ∈ wsX50, w ∈ wsX5_mayBoth := by decide +kernel
  have hl : lv_has ls 3 [(0, .ref (gd 0)), (1, .int (bI (b9))), (2, .int (bI (c9)))] := hl
  rcases b9 with _ | _ <;> rcases c9 with _ | _
  · refine lv_aload_n hx hb dX5_mayBoth_0 rfl (lv_at hl 0 rfl) ?_
    refine lv_iload_n hx hb dX5_mayBoth_1 rfl (lv_at hl 1 rfl) ?_
    refine zb_ne (tgt := 9) hx hb dX5_mayBoth_2 (by decide) (fun c_1 => Bool.noConfusion c_1) (fun c_1 => ?_)
    refine lv_iconst (v := nI (1)) hx hb dX5_mayBoth_5 (by decide) ?_
    refine lv_goto (tgt := 18) hx hb dX5_mayBoth_6 (by decide) ?_
    refine va_put (D := D) (ci := 5) (v := .int (nI (1))) (ty := .int) (C := RX5) (T := TX5) (N := 26) hx hb hts iX5 tyX5 tyX5_ok nmX5 hown hZ.1 hP hD hS 0 m0 rfl 25 (by decide) (hts (.fieldLink RX5 74 "TapeRoboticsModel" "thrown" "I") (by decide +kernel)) (fun _ h9 => h9) rfl (by decide +kernel) rfl rfl (Nat.le_of_ble_eq_true rfl) dX5_mayBoth_18 (fun H locs hP hD hS => ?_)
    have hP : va_P D vwCl (ws.set 0 (gd 0, zMod gd n nd nj my 1)) H := hP
    have hD : va_D A (ws.set 0 (gd 0, zMod gd n nd nj my 1)) := hD
    refine lv_aload_n hx hb dX5_mayBoth_21 rfl (lv_at hl 0 rfl) ?_
    refine va_get (D := D) (ci := 5) (v := .int (nI (1))) (C := RX5) (T := TX5) (N := 26) hx hb hts iX5 hown hZ.1 hP 0 (zset_s m0) rfl 25 (by decide) (hts (.fieldLink RX5 74 "TapeRoboticsModel" "thrown" "I") (by decide +kernel)) (fun _ h9 => h9) rfl dX5_mayBoth_22 ?_
    refine zf_ne (tgt := 32) hx hb (by omega) dX5_mayBoth_25 (by decide) (fun c_2 => ?_) (fun c_2 => False.elim (by omega))
    refine lv_iconst (v := bI (false)) hx hb dX5_mayBoth_32 (by decide) ?_
    exact zr_qz (S := Unit) (w1 := fun _ => _) () hx hb hr hlocks (rfl) hP hD hS (rfl) dX5_mayBoth_33
  · refine lv_aload_n hx hb dX5_mayBoth_0 rfl (lv_at hl 0 rfl) ?_
    refine lv_iload_n hx hb dX5_mayBoth_1 rfl (lv_at hl 1 rfl) ?_
    refine zb_ne (tgt := 9) hx hb dX5_mayBoth_2 (by decide) (fun c_3 => Bool.noConfusion c_3) (fun c_3 => ?_)
    refine lv_iconst (v := nI (1)) hx hb dX5_mayBoth_5 (by decide) ?_
    refine lv_goto (tgt := 18) hx hb dX5_mayBoth_6 (by decide) ?_
    refine va_put (D := D) (ci := 5) (v := .int (nI (1))) (ty := .int) (C := RX5) (T := TX5) (N := 26) hx hb hts iX5 tyX5 tyX5_ok nmX5 hown hZ.1 hP hD hS 0 m0 rfl 25 (by decide) (hts (.fieldLink RX5 74 "TapeRoboticsModel" "thrown" "I") (by decide +kernel)) (fun _ h9 => h9) rfl (by decide +kernel) rfl rfl (Nat.le_of_ble_eq_true rfl) dX5_mayBoth_18 (fun H locs hP hD hS => ?_)
    have hP : va_P D vwCl (ws.set 0 (gd 0, zMod gd n nd nj my 1)) H := hP
    have hD : va_D A (ws.set 0 (gd 0, zMod gd n nd nj my 1)) := hD
    refine lv_aload_n hx hb dX5_mayBoth_21 rfl (lv_at hl 0 rfl) ?_
    refine va_get (D := D) (ci := 5) (v := .int (nI (1))) (C := RX5) (T := TX5) (N := 26) hx hb hts iX5 hown hZ.1 hP 0 (zset_s m0) rfl 25 (by decide) (hts (.fieldLink RX5 74 "TapeRoboticsModel" "thrown" "I") (by decide +kernel)) (fun _ h9 => h9) rfl dX5_mayBoth_22 ?_
    refine zf_ne (tgt := 32) hx hb (by omega) dX5_mayBoth_25 (by decide) (fun c_4 => ?_) (fun c_4 => False.elim (by omega))
    refine lv_iconst (v := bI (false)) hx hb dX5_mayBoth_32 (by decide) ?_
    exact zr_qz (S := Unit) (w1 := fun _ => _) () hx hb hr hlocks (rfl) hP hD hS (rfl) dX5_mayBoth_33
  · refine lv_aload_n hx hb dX5_mayBoth_0 rfl (lv_at hl 0 rfl) ?_
    refine lv_iload_n hx hb dX5_mayBoth_1 rfl (lv_at hl 1 rfl) ?_
    refine zb_ne (tgt := 9) hx hb dX5_mayBoth_2 (by decide) (fun c_5 => ?_) (fun c_5 => Bool.noConfusion c_5)
    refine lv_iload_n hx hb dX5_mayBoth_9 rfl (lv_at hl 2 rfl) ?_
    refine zb_ne (tgt := 17) hx hb dX5_mayBoth_10 (by decide) (fun c_6 => Bool.noConfusion c_6) (fun c_6 => ?_)
    refine lv_iconst (v := nI (2)) hx hb dX5_mayBoth_13 (by decide) ?_
    refine lv_goto (tgt := 18) hx hb dX5_mayBoth_14 (by decide) ?_
    refine va_put (D := D) (ci := 5) (v := .int (nI (2))) (ty := .int) (C := RX5) (T := TX5) (N := 26) hx hb hts iX5 tyX5 tyX5_ok nmX5 hown hZ.1 hP hD hS 0 m0 rfl 25 (by decide) (hts (.fieldLink RX5 74 "TapeRoboticsModel" "thrown" "I") (by decide +kernel)) (fun _ h9 => h9) rfl (by decide +kernel) rfl rfl (Nat.le_of_ble_eq_true rfl) dX5_mayBoth_18 (fun H locs hP hD hS => ?_)
    have hP : va_P D vwCl (ws.set 0 (gd 0, zMod gd n nd nj my 2)) H := hP
    have hD : va_D A (ws.set 0 (gd 0, zMod gd n nd nj my 2)) := hD
    refine lv_aload_n hx hb dX5_mayBoth_21 rfl (lv_at hl 0 rfl) ?_
    refine va_get (D := D) (ci := 5) (v := .int (nI (2))) (C := RX5) (T := TX5) (N := 26) hx hb hts iX5 hown hZ.1 hP 0 (zset_s m0) rfl 25 (by decide) (hts (.fieldLink RX5 74 "TapeRoboticsModel" "thrown" "I") (by decide +kernel)) (fun _ h9 => h9) rfl dX5_mayBoth_22 ?_
    refine zf_ne (tgt := 32) hx hb (by omega) dX5_mayBoth_25 (by decide) (fun c_7 => ?_) (fun c_7 => False.elim (by omega))
    refine lv_iconst (v := bI (false)) hx hb dX5_mayBoth_32 (by decide) ?_
    exact zr_qz (S := Unit) (w1 := fun _ => _) () hx hb hr hlocks (rfl) hP hD hS (rfl) dX5_mayBoth_33
  · refine lv_aload_n hx hb dX5_mayBoth_0 rfl (lv_at hl 0 rfl) ?_
    refine lv_iload_n hx hb dX5_mayBoth_1 rfl (lv_at hl 1 rfl) ?_
    refine zb_ne (tgt := 9) hx hb dX5_mayBoth_2 (by decide) (fun c_8 => ?_) (fun c_8 => Bool.noConfusion c_8)
    refine lv_iload_n hx hb dX5_mayBoth_9 rfl (lv_at hl 2 rfl) ?_
    refine zb_ne (tgt := 17) hx hb dX5_mayBoth_10 (by decide) (fun c_9 => ?_) (fun c_9 => Bool.noConfusion c_9)
    refine lv_iconst (v := nI (0)) hx hb dX5_mayBoth_17 (by decide) ?_
    refine va_put (D := D) (ci := 5) (v := .int (nI (0))) (ty := .int) (C := RX5) (T := TX5) (N := 26) hx hb hts iX5 tyX5 tyX5_ok nmX5 hown hZ.1 hP hD hS 0 m0 rfl 25 (by decide) (hts (.fieldLink RX5 74 "TapeRoboticsModel" "thrown" "I") (by decide +kernel)) (fun _ h9 => h9) rfl (by decide +kernel) rfl rfl (Nat.le_of_ble_eq_true rfl) dX5_mayBoth_18 (fun H locs hP hD hS => ?_)
    have hP : va_P D vwCl (ws.set 0 (gd 0, zMod gd n nd nj my 0)) H := hP
    have hD : va_D A (ws.set 0 (gd 0, zMod gd n nd nj my 0)) := hD
    refine lv_aload_n hx hb dX5_mayBoth_21 rfl (lv_at hl 0 rfl) ?_
    refine va_get (D := D) (ci := 5) (v := .int (nI (0))) (C := RX5) (T := TX5) (N := 26) hx hb hts iX5 hown hZ.1 hP 0 (zset_s m0) rfl 25 (by decide) (hts (.fieldLink RX5 74 "TapeRoboticsModel" "thrown" "I") (by decide +kernel)) (fun _ h9 => h9) rfl dX5_mayBoth_22 ?_
    refine zf_ne (tgt := 32) hx hb (by omega) dX5_mayBoth_25 (by decide) (fun c_10 => False.elim (by omega)) (fun c_10 => ?_)
    refine lv_iconst (v := bI (true)) hx hb dX5_mayBoth_28 (by decide) ?_
    refine lv_goto (tgt := 33) hx hb dX5_mayBoth_29 (by decide) ?_
    exact zr_qz (S := Unit) (w1 := fun _ => _) () hx hb hr hlocks (rfl) hP hD hS (rfl) dX5_mayBoth_33

set_option maxHeartbeats 4000000 in
set_option maxRecDepth 100000 in
theorem c_X5_mayAll (l : Launch) (D : va_G) (cA : Nat → ClassId) (sz : Nat) (ws : va_W) (gd : Nat → Nat) (n nd nj my th : Nat) (b9 c9 d9 : Bool) (m0 : ws[0]? = some (gd 0, zMod gd n nd nj my th)) : Met l yX5_mayAll wsX5_mayAll ({ frames := 0, cells := 0, slots := 0, locals := 0 }) (va_Pc [.ref (gd 0), .int (bI (b9)), .int (bI (c9)), .int (bI (d9))] (zM D cA (ws) sz)) (va_Qi (fun (r : Int32) (u : Unit) => r = bI (b9 && (c9 && d9))) (fun u => zB D (va_A (ws) sz) (ws.set 0 (gd 0, zMod gd n nd nj my (m3 b9 c9 d9)))) (va_A (ws) sz)) 0 0 (va_A (ws) sz) := by
  refine zOpen (cc := cX5_mayAll) (maxL := 4) (ret := (some .boolean)) (own := RX5) (by decide) rfl rfl (Nat.le_of_ble_eq_true rfl) ?_
  intro p e s m below meth c ls hx hb hr hml hts hown hlocks hnm ⟨hZ, hP, hD0, hsz⟩ hl
  subst hsz
  have hD := hD0.self (sz := s.heap.size)
  generalize hAe : va_A (ws) s.heap.size = A at hD ⊢
  have hA : ∀ q : Nat, s.heap.size ≤ q → A q := fun q h => by rw [← hAe]; exact Or.inr h
  have hS : va_S A s.heap s.heap [] := va_S.rf
  have iX5 : ∀ w ∈ wsX50, w ∈ wsX5_mayAll := by decide +kernel
  have hl : lv_has ls 4 [(0, .ref (gd 0)), (1, .int (bI (b9))), (2, .int (bI (c9))), (3, .int (bI (d9)))] := hl
  rcases b9 with _ | _ <;> rcases c9 with _ | _ <;> rcases d9 with _ | _
  · refine lv_aload_n hx hb dX5_mayAll_0 rfl (lv_at hl 0 rfl) ?_
    refine lv_iload_n hx hb dX5_mayAll_1 rfl (lv_at hl 1 rfl) ?_
    refine zb_ne (tgt := 9) hx hb dX5_mayAll_2 (by decide) (fun c_1 => Bool.noConfusion c_1) (fun c_1 => ?_)
    refine lv_iconst (v := nI (1)) hx hb dX5_mayAll_5 (by decide) ?_
    refine lv_goto (tgt := 26) hx hb dX5_mayAll_6 (by decide) ?_
    refine va_put (D := D) (ci := 5) (v := .int (nI (1))) (ty := .int) (C := RX5) (T := TX5) (N := 26) hx hb hts iX5 tyX5 tyX5_ok nmX5 hown hZ.1 hP hD hS 0 m0 rfl 25 (by decide) (hts (.fieldLink RX5 74 "TapeRoboticsModel" "thrown" "I") (by decide +kernel)) (fun _ h9 => h9) rfl (by decide +kernel) rfl rfl (Nat.le_of_ble_eq_true rfl) dX5_mayAll_26 (fun H locs hP hD hS => ?_)
    have hP : va_P D vwCl (ws.set 0 (gd 0, zMod gd n nd nj my 1)) H := hP
    have hD : va_D A (ws.set 0 (gd 0, zMod gd n nd nj my 1)) := hD
    refine lv_aload_n hx hb dX5_mayAll_29 rfl (lv_at hl 0 rfl) ?_
    refine va_get (D := D) (ci := 5) (v := .int (nI (1))) (C := RX5) (T := TX5) (N := 26) hx hb hts iX5 hown hZ.1 hP 0 (zset_s m0) rfl 25 (by decide) (hts (.fieldLink RX5 74 "TapeRoboticsModel" "thrown" "I") (by decide +kernel)) (fun _ h9 => h9) rfl dX5_mayAll_30 ?_
    refine zf_ne (tgt := 40) hx hb (by omega) dX5_mayAll_33 (by decide) (fun c_2 => ?_) (fun c_2 => False.elim (by omega))
    refine lv_iconst (v := bI (false)) hx hb dX5_mayAll_40 (by decide) ?_
    exact zr_qz (S := Unit) (w1 := fun _ => _) () hx hb hr hlocks (rfl) hP hD hS (rfl) dX5_mayAll_41
  · refine lv_aload_n hx hb dX5_mayAll_0 rfl (lv_at hl 0 rfl) ?_
    refine lv_iload_n hx hb dX5_mayAll_1 rfl (lv_at hl 1 rfl) ?_
    refine zb_ne (tgt := 9) hx hb dX5_mayAll_2 (by decide) (fun c_3 => Bool.noConfusion c_3) (fun c_3 => ?_)
    refine lv_iconst (v := nI (1)) hx hb dX5_mayAll_5 (by decide) ?_
    refine lv_goto (tgt := 26) hx hb dX5_mayAll_6 (by decide) ?_
    refine va_put (D := D) (ci := 5) (v := .int (nI (1))) (ty := .int) (C := RX5) (T := TX5) (N := 26) hx hb hts iX5 tyX5 tyX5_ok nmX5 hown hZ.1 hP hD hS 0 m0 rfl 25 (by decide) (hts (.fieldLink RX5 74 "TapeRoboticsModel" "thrown" "I") (by decide +kernel)) (fun _ h9 => h9) rfl (by decide +kernel) rfl rfl (Nat.le_of_ble_eq_true rfl) dX5_mayAll_26 (fun H locs hP hD hS => ?_)
    have hP : va_P D vwCl (ws.set 0 (gd 0, zMod gd n nd nj my 1)) H := hP
    have hD : va_D A (ws.set 0 (gd 0, zMod gd n nd nj my 1)) := hD
    refine lv_aload_n hx hb dX5_mayAll_29 rfl (lv_at hl 0 rfl) ?_
    refine va_get (D := D) (ci := 5) (v := .int (nI (1))) (C := RX5) (T := TX5) (N := 26) hx hb hts iX5 hown hZ.1 hP 0 (zset_s m0) rfl 25 (by decide) (hts (.fieldLink RX5 74 "TapeRoboticsModel" "thrown" "I") (by decide +kernel)) (fun _ h9 => h9) rfl dX5_mayAll_30 ?_
    refine zf_ne (tgt := 40) hx hb (by omega) dX5_mayAll_33 (by decide) (fun c_4 => ?_) (fun c_4 => False.elim (by omega))
    refine lv_iconst (v := bI (false)) hx hb dX5_mayAll_40 (by decide) ?_
    exact zr_qz (S := Unit) (w1 := fun _ => _) () hx hb hr hlocks (rfl) hP hD hS (rfl) dX5_mayAll_41
  · refine lv_aload_n hx hb dX5_mayAll_0 rfl (lv_at hl 0 rfl) ?_
    refine lv_iload_n hx hb dX5_mayAll_1 rfl (lv_at hl 1 rfl) ?_
    refine zb_ne (tgt := 9) hx hb dX5_mayAll_2 (by decide) (fun c_5 => Bool.noConfusion c_5) (fun c_5 => ?_)
    refine lv_iconst (v := nI (1)) hx hb dX5_mayAll_5 (by decide) ?_
    refine lv_goto (tgt := 26) hx hb dX5_mayAll_6 (by decide) ?_
    refine va_put (D := D) (ci := 5) (v := .int (nI (1))) (ty := .int) (C := RX5) (T := TX5) (N := 26) hx hb hts iX5 tyX5 tyX5_ok nmX5 hown hZ.1 hP hD hS 0 m0 rfl 25 (by decide) (hts (.fieldLink RX5 74 "TapeRoboticsModel" "thrown" "I") (by decide +kernel)) (fun _ h9 => h9) rfl (by decide +kernel) rfl rfl (Nat.le_of_ble_eq_true rfl) dX5_mayAll_26 (fun H locs hP hD hS => ?_)
    have hP : va_P D vwCl (ws.set 0 (gd 0, zMod gd n nd nj my 1)) H := hP
    have hD : va_D A (ws.set 0 (gd 0, zMod gd n nd nj my 1)) := hD
    refine lv_aload_n hx hb dX5_mayAll_29 rfl (lv_at hl 0 rfl) ?_
    refine va_get (D := D) (ci := 5) (v := .int (nI (1))) (C := RX5) (T := TX5) (N := 26) hx hb hts iX5 hown hZ.1 hP 0 (zset_s m0) rfl 25 (by decide) (hts (.fieldLink RX5 74 "TapeRoboticsModel" "thrown" "I") (by decide +kernel)) (fun _ h9 => h9) rfl dX5_mayAll_30 ?_
    refine zf_ne (tgt := 40) hx hb (by omega) dX5_mayAll_33 (by decide) (fun c_6 => ?_) (fun c_6 => False.elim (by omega))
    refine lv_iconst (v := bI (false)) hx hb dX5_mayAll_40 (by decide) ?_
    exact zr_qz (S := Unit) (w1 := fun _ => _) () hx hb hr hlocks (rfl) hP hD hS (rfl) dX5_mayAll_41
  · refine lv_aload_n hx hb dX5_mayAll_0 rfl (lv_at hl 0 rfl) ?_
    refine lv_iload_n hx hb dX5_mayAll_1 rfl (lv_at hl 1 rfl) ?_
    refine zb_ne (tgt := 9) hx hb dX5_mayAll_2 (by decide) (fun c_7 => Bool.noConfusion c_7) (fun c_7 => ?_)
    refine lv_iconst (v := nI (1)) hx hb dX5_mayAll_5 (by decide) ?_
    refine lv_goto (tgt := 26) hx hb dX5_mayAll_6 (by decide) ?_
    refine va_put (D := D) (ci := 5) (v := .int (nI (1))) (ty := .int) (C := RX5) (T := TX5) (N := 26) hx hb hts iX5 tyX5 tyX5_ok nmX5 hown hZ.1 hP hD hS 0 m0 rfl 25 (by decide) (hts (.fieldLink RX5 74 "TapeRoboticsModel" "thrown" "I") (by decide +kernel)) (fun _ h9 => h9) rfl (by decide +kernel) rfl rfl (Nat.le_of_ble_eq_true rfl) dX5_mayAll_26 (fun H locs hP hD hS => ?_)
    have hP : va_P D vwCl (ws.set 0 (gd 0, zMod gd n nd nj my 1)) H := hP
    have hD : va_D A (ws.set 0 (gd 0, zMod gd n nd nj my 1)) := hD
    refine lv_aload_n hx hb dX5_mayAll_29 rfl (lv_at hl 0 rfl) ?_
    refine va_get (D := D) (ci := 5) (v := .int (nI (1))) (C := RX5) (T := TX5) (N := 26) hx hb hts iX5 hown hZ.1 hP 0 (zset_s m0) rfl 25 (by decide) (hts (.fieldLink RX5 74 "TapeRoboticsModel" "thrown" "I") (by decide +kernel)) (fun _ h9 => h9) rfl dX5_mayAll_30 ?_
    refine zf_ne (tgt := 40) hx hb (by omega) dX5_mayAll_33 (by decide) (fun c_8 => ?_) (fun c_8 => False.elim (by omega))
    refine lv_iconst (v := bI (false)) hx hb dX5_mayAll_40 (by decide) ?_
    exact zr_qz (S := Unit) (w1 := fun _ => _) () hx hb hr hlocks (rfl) hP hD hS (rfl) dX5_mayAll_41
  · refine lv_aload_n hx hb dX5_mayAll_0 rfl (lv_at hl 0 rfl) ?_
    refine lv_iload_n hx hb dX5_mayAll_1 rfl (lv_at hl 1 rfl) ?_
    refine zb_ne (tgt := 9) hx hb dX5_mayAll_2 (by decide) (fun c_9 => ?_) (fun c_9 => Bool.noConfusion c_9)
    refine lv_iload_n hx hb dX5_mayAll_9 rfl (lv_at hl 2 rfl) ?_
    refine zb_ne (tgt := 17) hx hb dX5_mayAll_10 (by decide) (fun c_10 => Bool.noConfusion c_10) (fun c_10 => ?_)
    refine lv_iconst (v := nI (2)) hx hb dX5_mayAll_13 (by decide) ?_
    refine lv_goto (tgt := 26) hx hb dX5_mayAll_14 (by decide) ?_
    refine va_put (D := D) (ci := 5) (v := .int (nI (2))) (ty := .int) (C := RX5) (T := TX5) (N := 26) hx hb hts iX5 tyX5 tyX5_ok nmX5 hown hZ.1 hP hD hS 0 m0 rfl 25 (by decide) (hts (.fieldLink RX5 74 "TapeRoboticsModel" "thrown" "I") (by decide +kernel)) (fun _ h9 => h9) rfl (by decide +kernel) rfl rfl (Nat.le_of_ble_eq_true rfl) dX5_mayAll_26 (fun H locs hP hD hS => ?_)
    have hP : va_P D vwCl (ws.set 0 (gd 0, zMod gd n nd nj my 2)) H := hP
    have hD : va_D A (ws.set 0 (gd 0, zMod gd n nd nj my 2)) := hD
    refine lv_aload_n hx hb dX5_mayAll_29 rfl (lv_at hl 0 rfl) ?_
    refine va_get (D := D) (ci := 5) (v := .int (nI (2))) (C := RX5) (T := TX5) (N := 26) hx hb hts iX5 hown hZ.1 hP 0 (zset_s m0) rfl 25 (by decide) (hts (.fieldLink RX5 74 "TapeRoboticsModel" "thrown" "I") (by decide +kernel)) (fun _ h9 => h9) rfl dX5_mayAll_30 ?_
    refine zf_ne (tgt := 40) hx hb (by omega) dX5_mayAll_33 (by decide) (fun c_11 => ?_) (fun c_11 => False.elim (by omega))
    refine lv_iconst (v := bI (false)) hx hb dX5_mayAll_40 (by decide) ?_
    exact zr_qz (S := Unit) (w1 := fun _ => _) () hx hb hr hlocks (rfl) hP hD hS (rfl) dX5_mayAll_41
  · refine lv_aload_n hx hb dX5_mayAll_0 rfl (lv_at hl 0 rfl) ?_
    refine lv_iload_n hx hb dX5_mayAll_1 rfl (lv_at hl 1 rfl) ?_
    refine zb_ne (tgt := 9) hx hb dX5_mayAll_2 (by decide) (fun c_12 => ?_) (fun c_12 => Bool.noConfusion c_12)
    refine lv_iload_n hx hb dX5_mayAll_9 rfl (lv_at hl 2 rfl) ?_
    refine zb_ne (tgt := 17) hx hb dX5_mayAll_10 (by decide) (fun c_13 => Bool.noConfusion c_13) (fun c_13 => ?_)
    refine lv_iconst (v := nI (2)) hx hb dX5_mayAll_13 (by decide) ?_
    refine lv_goto (tgt := 26) hx hb dX5_mayAll_14 (by decide) ?_
    refine va_put (D := D) (ci := 5) (v := .int (nI (2))) (ty := .int) (C := RX5) (T := TX5) (N := 26) hx hb hts iX5 tyX5 tyX5_ok nmX5 hown hZ.1 hP hD hS 0 m0 rfl 25 (by decide) (hts (.fieldLink RX5 74 "TapeRoboticsModel" "thrown" "I") (by decide +kernel)) (fun _ h9 => h9) rfl (by decide +kernel) rfl rfl (Nat.le_of_ble_eq_true rfl) dX5_mayAll_26 (fun H locs hP hD hS => ?_)
    have hP : va_P D vwCl (ws.set 0 (gd 0, zMod gd n nd nj my 2)) H := hP
    have hD : va_D A (ws.set 0 (gd 0, zMod gd n nd nj my 2)) := hD
    refine lv_aload_n hx hb dX5_mayAll_29 rfl (lv_at hl 0 rfl) ?_
    refine va_get (D := D) (ci := 5) (v := .int (nI (2))) (C := RX5) (T := TX5) (N := 26) hx hb hts iX5 hown hZ.1 hP 0 (zset_s m0) rfl 25 (by decide) (hts (.fieldLink RX5 74 "TapeRoboticsModel" "thrown" "I") (by decide +kernel)) (fun _ h9 => h9) rfl dX5_mayAll_30 ?_
    refine zf_ne (tgt := 40) hx hb (by omega) dX5_mayAll_33 (by decide) (fun c_14 => ?_) (fun c_14 => False.elim (by omega))
    refine lv_iconst (v := bI (false)) hx hb dX5_mayAll_40 (by decide) ?_
    exact zr_qz (S := Unit) (w1 := fun _ => _) () hx hb hr hlocks (rfl) hP hD hS (rfl) dX5_mayAll_41
  · refine lv_aload_n hx hb dX5_mayAll_0 rfl (lv_at hl 0 rfl) ?_
    refine lv_iload_n hx hb dX5_mayAll_1 rfl (lv_at hl 1 rfl) ?_
    refine zb_ne (tgt := 9) hx hb dX5_mayAll_2 (by decide) (fun c_15 => ?_) (fun c_15 => Bool.noConfusion c_15)
    refine lv_iload_n hx hb dX5_mayAll_9 rfl (lv_at hl 2 rfl) ?_
    refine zb_ne (tgt := 17) hx hb dX5_mayAll_10 (by decide) (fun c_16 => ?_) (fun c_16 => Bool.noConfusion c_16)
    refine lv_iload_n hx hb dX5_mayAll_17 rfl (lv_at hl 3 rfl) ?_
    refine zb_ne (tgt := 25) hx hb dX5_mayAll_18 (by decide) (fun c_17 => Bool.noConfusion c_17) (fun c_17 => ?_)
    refine lv_iconst (v := nI (3)) hx hb dX5_mayAll_21 (by decide) ?_
    refine lv_goto (tgt := 26) hx hb dX5_mayAll_22 (by decide) ?_
    refine va_put (D := D) (ci := 5) (v := .int (nI (3))) (ty := .int) (C := RX5) (T := TX5) (N := 26) hx hb hts iX5 tyX5 tyX5_ok nmX5 hown hZ.1 hP hD hS 0 m0 rfl 25 (by decide) (hts (.fieldLink RX5 74 "TapeRoboticsModel" "thrown" "I") (by decide +kernel)) (fun _ h9 => h9) rfl (by decide +kernel) rfl rfl (Nat.le_of_ble_eq_true rfl) dX5_mayAll_26 (fun H locs hP hD hS => ?_)
    have hP : va_P D vwCl (ws.set 0 (gd 0, zMod gd n nd nj my 3)) H := hP
    have hD : va_D A (ws.set 0 (gd 0, zMod gd n nd nj my 3)) := hD
    refine lv_aload_n hx hb dX5_mayAll_29 rfl (lv_at hl 0 rfl) ?_
    refine va_get (D := D) (ci := 5) (v := .int (nI (3))) (C := RX5) (T := TX5) (N := 26) hx hb hts iX5 hown hZ.1 hP 0 (zset_s m0) rfl 25 (by decide) (hts (.fieldLink RX5 74 "TapeRoboticsModel" "thrown" "I") (by decide +kernel)) (fun _ h9 => h9) rfl dX5_mayAll_30 ?_
    refine zf_ne (tgt := 40) hx hb (by omega) dX5_mayAll_33 (by decide) (fun c_18 => ?_) (fun c_18 => False.elim (by omega))
    refine lv_iconst (v := bI (false)) hx hb dX5_mayAll_40 (by decide) ?_
    exact zr_qz (S := Unit) (w1 := fun _ => _) () hx hb hr hlocks (rfl) hP hD hS (rfl) dX5_mayAll_41
  · refine lv_aload_n hx hb dX5_mayAll_0 rfl (lv_at hl 0 rfl) ?_
    refine lv_iload_n hx hb dX5_mayAll_1 rfl (lv_at hl 1 rfl) ?_
    refine zb_ne (tgt := 9) hx hb dX5_mayAll_2 (by decide) (fun c_19 => ?_) (fun c_19 => Bool.noConfusion c_19)
    refine lv_iload_n hx hb dX5_mayAll_9 rfl (lv_at hl 2 rfl) ?_
    refine zb_ne (tgt := 17) hx hb dX5_mayAll_10 (by decide) (fun c_20 => ?_) (fun c_20 => Bool.noConfusion c_20)
    refine lv_iload_n hx hb dX5_mayAll_17 rfl (lv_at hl 3 rfl) ?_
    refine zb_ne (tgt := 25) hx hb dX5_mayAll_18 (by decide) (fun c_21 => ?_) (fun c_21 => Bool.noConfusion c_21)
    refine lv_iconst (v := nI (0)) hx hb dX5_mayAll_25 (by decide) ?_
    refine va_put (D := D) (ci := 5) (v := .int (nI (0))) (ty := .int) (C := RX5) (T := TX5) (N := 26) hx hb hts iX5 tyX5 tyX5_ok nmX5 hown hZ.1 hP hD hS 0 m0 rfl 25 (by decide) (hts (.fieldLink RX5 74 "TapeRoboticsModel" "thrown" "I") (by decide +kernel)) (fun _ h9 => h9) rfl (by decide +kernel) rfl rfl (Nat.le_of_ble_eq_true rfl) dX5_mayAll_26 (fun H locs hP hD hS => ?_)
    have hP : va_P D vwCl (ws.set 0 (gd 0, zMod gd n nd nj my 0)) H := hP
    have hD : va_D A (ws.set 0 (gd 0, zMod gd n nd nj my 0)) := hD
    refine lv_aload_n hx hb dX5_mayAll_29 rfl (lv_at hl 0 rfl) ?_
    refine va_get (D := D) (ci := 5) (v := .int (nI (0))) (C := RX5) (T := TX5) (N := 26) hx hb hts iX5 hown hZ.1 hP 0 (zset_s m0) rfl 25 (by decide) (hts (.fieldLink RX5 74 "TapeRoboticsModel" "thrown" "I") (by decide +kernel)) (fun _ h9 => h9) rfl dX5_mayAll_30 ?_
    refine zf_ne (tgt := 40) hx hb (by omega) dX5_mayAll_33 (by decide) (fun c_22 => False.elim (by omega)) (fun c_22 => ?_)
    refine lv_iconst (v := bI (true)) hx hb dX5_mayAll_36 (by decide) ?_
    refine lv_goto (tgt := 41) hx hb dX5_mayAll_37 (by decide) ?_
    exact zr_qz (S := Unit) (w1 := fun _ => _) () hx hb hr hlocks (rfl) hP hD hS (rfl) dX5_mayAll_41

set_option maxHeartbeats 4000000 in
set_option maxRecDepth 100000 in
theorem c_X5_thrown (l : Launch) (D : va_G) (cA : Nat → ClassId) (ws : va_W) {gd : Nat → Nat} {n : Nat} {tr : Nat → Nat} {le : Nat → Nat} {sl : Nat → Nat} {mo : Nat → Option Nat} {la : Nat → Bool} {fc : Nat → Nat} {sf : Nat → Int32} {bf : Nat → Int32} {nd : Nat} {mk : Nat → Nat} {ck : Nat → Int32} {ct : Nat → Nat} {hd : Nat → Option Nat} {pf : Nat → Int32} {nj : Nat} {jt : Nat → Int32} {jf : Nat → Nat} {dl : Nat → Nat} {fin : Nat → Bool} {my : Nat} {fls : Nat → Int32} {fod : Nat → Int32} {fle : Nat → Int32} {fro : Nat → Int32} {th : Nat} (hm : mL cA ws gd n tr le sl mo la fc sf bf nd mk ck ct hd pf nj jt jf dl fin my fls fod fle fro th)  : Met l yX5_thrown wsX5_thrown ({ frames := 0, cells := 0, slots := 0, locals := 0 }) (va_Pc [.ref (gd 0)] (zS D cA ws)) (vp_Si (fun r => r = nI (th))) 0 0 zF := by
  refine zOpen (cc := cX5_thrown) (maxL := 1) (ret := (some .int)) (own := RX5) (by decide) rfl rfl (Nat.le_of_ble_eq_true rfl) ?_
  intro p e s m below meth c ls hx hb hr hml hts hown hlocks hnm ⟨hZ, hP⟩ hl
  have iX5 : ∀ w ∈ wsX50, w ∈ wsX5_thrown := by decide +kernel
  have hl : lv_has ls 1 [(0, .ref (gd 0))] := hl
  have hm0 := hm
  obtain ⟨m0, m1, m2, m3, m4, m5, m6, m7, m8, m9, m10, m11, m12, m13, m14, m15, m16, m17, m18, m19, m20, m21⟩ := hm
  refine lv_aload_n hx hb dX5_thrown_0 rfl (lv_at hl 0 rfl) ?_
  refine va_get (D := D) (ci := 5) (v := .int (nI (th))) (C := RX5) (T := TX5) (N := 26) hx hb hts iX5 hown hZ.1 hP 0 m0 rfl 25 (by decide) (hts (.fieldLink RX5 74 "TapeRoboticsModel" "thrown" "I") (by decide +kernel)) (fun _ h9 => h9) rfl dX5_thrown_1 ?_
  exact zr_i hx hb hr hlocks (rfl) dX5_thrown_4

set_option maxHeartbeats 4000000 in
set_option maxRecDepth 100000 in
theorem c_X5_behind (l : Launch) (D : va_G) (cA : Nat → ClassId) (ws : va_W) {gd : Nat → Nat} {n : Nat} {tr : Nat → Nat} {le : Nat → Nat} {sl : Nat → Nat} {mo : Nat → Option Nat} {la : Nat → Bool} {fc : Nat → Nat} {sf : Nat → Int32} {bf : Nat → Int32} {nd : Nat} {mk : Nat → Nat} {ck : Nat → Int32} {ct : Nat → Nat} {hd : Nat → Option Nat} {pf : Nat → Int32} {nj : Nat} {jt : Nat → Int32} {jf : Nat → Nat} {dl : Nat → Nat} {fin : Nat → Bool} {my : Nat} {fls : Nat → Int32} {fod : Nat → Int32} {fle : Nat → Int32} {fro : Nat → Int32} {th : Nat} (hm : mL cA ws gd n tr le sl mo la fc sf bf nd mk ck ct hd pf nj jt jf dl fin my fls fod fle fro th) (t9 : Nat) (ht9 : t9 < 8) (hfc : fc t9 ≤ 10) (bo : Nat → Nat → Nat) (hb0 : bo t9 0 = 0) (hbi : ∀ k, k < fc t9 → bo t9 k < bo t9 (k + 1)) (hsf : ∀ f, f < fc t9 → sf (10 * t9 + f) = nI (bo t9 f) ∧ bf (10 * t9 + f) = nI (bo t9 (f + 1) - bo t9 f)) : Met l yX5_behind wsX5_behind ({ frames := 0, cells := 0, slots := 0, locals := 0 }) (va_Pc [.ref (gd 0), .int (nI (t9))] (zS D cA ws)) (vp_Si (fun r => r = nI (bo t9 (fc t9)))) 0 0 zF := by
  refine zOpen (cc := cX5_behind) (maxL := 3) (ret := (some .int)) (own := RX5) (by decide) rfl rfl (Nat.le_of_ble_eq_true rfl) ?_
  intro p e s m below meth c ls hx hb hr hml hts hown hlocks hnm ⟨hZ, hP⟩ hl
  have iX5 : ∀ w ∈ wsX50, w ∈ wsX5_behind := by decide +kernel
  have hl : lv_has ls 3 [(0, .ref (gd 0)), (1, .int (nI (t9)))] := hl
  have hm0 := hm
  obtain ⟨m0, m1, m2, m3, m4, m5, m6, m7, m8, m9, m10, m11, m12, m13, m14, m15, m16, m17, m18, m19, m20, m21⟩ := hm
  refine lv_bipush (v := nI (10)) hx hb dX5_behind_0 (by decide) ?_
  refine lv_iload_n hx hb dX5_behind_2 rfl (lv_at hl 1 rfl) ?_
  refine zo_mul hx hb dX5_behind_3 ?_
  refine lv_aload_n hx hb dX5_behind_4 rfl (lv_at hl 0 rfl) ?_
  refine va_get (D := D) (ci := 5) (v := .ref (gd 6)) (C := RX5) (T := TX5) (N := 26) hx hb hts iX5 hown hZ.1 hP 0 m0 rfl 6 (by decide) (hts (.fieldLink RX5 26 "TapeRoboticsModel" "files" "[I") (by decide +kernel)) (fun _ h9 => h9) rfl dX5_behind_5 ?_
  refine lv_iload_n hx hb dX5_behind_8 rfl (lv_at hl 1 rfl) ?_
  refine va_iald hx hb hZ.1 hP 6 0 m6 rfl (vp_in_nI (show t9 < 8 by omega) (by omega)) dX5_behind_9 ?_
  rw [nI_clamp (show t9 < 2 ^ 31 by omega)]
  refine zo_add hx hb dX5_behind_10 ?_
  refine lv_iconst (v := nI (1)) hx hb dX5_behind_11 (by decide) ?_
  refine lv_isub hx hb dX5_behind_12 ?_
  refine zx_val (y := nI (10 * t9 + fc t9) - nI 1) (rfl) ?_
  refine lv_istore_n (lv' := [(2, .int (nI (10 * t9 + fc t9) - nI 1)), (0, .ref (gd 0)), (1, .int (nI (t9)))]) hx hb dX5_behind_13 rfl hl (by decide) rfl (fun ls hl => ?_)
  refine lv_aload_n hx hb dX5_behind_14 rfl (lv_at hl 1 rfl) ?_
  refine va_get (D := D) (ci := 5) (v := .ref (gd 6)) (C := RX5) (T := TX5) (N := 26) hx hb hts iX5 hown hZ.1 hP 0 m0 rfl 6 (by decide) (hts (.fieldLink RX5 26 "TapeRoboticsModel" "files" "[I") (by decide +kernel)) (fun _ h9 => h9) rfl dX5_behind_15 ?_
  refine lv_iload_n hx hb dX5_behind_18 rfl (lv_at hl 2 rfl) ?_
  refine va_iald hx hb hZ.1 hP 6 0 m6 rfl (vp_in_nI (show t9 < 8 by omega) (by omega)) dX5_behind_19 ?_
  rw [nI_clamp (show t9 < 2 ^ 31 by omega)]
  refine zf_ne (tgt := 27) hx hb (by omega) dX5_behind_20 (by decide) (fun c_1 => ?_) (fun c_1 => ?_)
  · obtain ⟨f9, hf9⟩ : ∃ f, fc t9 = f + 1 := ⟨fc t9 - 1, by omega⟩
    have he0 := hbi f9 (by omega)
    obtain ⟨he1, he2⟩ := hsf f9 (by omega)
    have hl : lv_has ls 3 [(2, .int (nI (10 * t9 + f9))), (0, .ref (gd 0)), (1, .int (nI t9))] := by
      have e : nI (10 * t9 + fc t9) - nI 1 = nI (10 * t9 + f9) := by rw [hf9, pk_sub (by omega)]; rfl
      rw [← e]; exact hl
    refine lv_aload_n hx hb dX5_behind_27 rfl (lv_at hl 1 rfl) ?_
    refine va_get (D := D) (ci := 5) (v := .ref (gd 7)) (C := RX5) (T := TX5) (N := 26) hx hb hts iX5 hown hZ.1 hP 0 m0 rfl 7 (by decide) (hts (.fieldLink RX5 29 "TapeRoboticsModel" "start" "[I") (by decide +kernel)) (fun _ h9 => h9) rfl dX5_behind_28 ?_
    refine lv_iload_n hx hb dX5_behind_31 rfl (lv_at hl 0 rfl) ?_
    refine va_iald hx hb hZ.1 hP 7 0 m7 rfl (vp_in_nI (show 10 * t9 + f9 < 80 by omega) (by omega)) dX5_behind_32 ?_
    rw [nI_clamp (show 10 * t9 + f9 < 2 ^ 31 by omega)]
    refine zx_val (y := nI (bo t9 f9)) (he1) ?_
    refine lv_aload_n hx hb dX5_behind_33 rfl (lv_at hl 1 rfl) ?_
    refine va_get (D := D) (ci := 5) (v := .ref (gd 8)) (C := RX5) (T := TX5) (N := 26) hx hb hts iX5 hown hZ.1 hP 0 m0 rfl 8 (by decide) (hts (.fieldLink RX5 32 "TapeRoboticsModel" "blocks" "[I") (by decide +kernel)) (fun _ h9 => h9) rfl dX5_behind_34 ?_
    refine lv_iload_n hx hb dX5_behind_37 rfl (lv_at hl 0 rfl) ?_
    refine va_iald hx hb hZ.1 hP 8 0 m8 rfl (vp_in_nI (show 10 * t9 + f9 < 80 by omega) (by omega)) dX5_behind_38 ?_
    rw [nI_clamp (show 10 * t9 + f9 < 2 ^ 31 by omega)]
    refine zx_val (y := nI (bo t9 (f9 + 1) - bo t9 f9)) (he2) ?_
    refine zo_add hx hb dX5_behind_39 ?_
    exact zr_i hx hb hr hlocks (by congr 1; rw [hf9]; omega) dX5_behind_40
  · refine lv_iconst (v := nI (0)) hx hb dX5_behind_23 (by decide) ?_
    refine lv_goto (tgt := 40) hx hb dX5_behind_24 (by decide) ?_
    exact zr_i hx hb hr hlocks (by rw [show fc t9 = 0 by assumption, hb0]) dX5_behind_40

