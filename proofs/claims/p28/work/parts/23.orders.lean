set_option maxHeartbeats 4000000 in
set_option maxRecDepth 100000 in
theorem c_X2_leg (l : Launch) (D : va_G) (cA : Nat → ClassId) (ws : va_W) (k0 h0 oc an al ar ab ao : Nat) (hk : ws[k0]? = some (h0, zOrd oc an al ar ab ao)) (kl : Nat) (fl : Nat → Int32) (hkl : ws[kl]? = some (al, zInts cA 56 fl)) (a b : Nat) (h1 : a ≤ 7) (h2 : b < 7) : Met l yX2_leg wsX2_leg ({ frames := 1, cells := 0, slots := 0, locals := 21 }) (va_Pc [.ref h0, .int (nI (a)), .int (nI (b))] (zS D cA ws)) (vp_Si (fun r => r = fl (a * 7 + b))) 0 0 zF := by
  refine zOpen (cc := cX2_leg) (maxL := 3) (ret := (some .int)) (own := RX2) (by decide) rfl rfl (Nat.le_of_ble_eq_true rfl) ?_
  intro p e s m below meth c ls hx hb hr hml hts hown hlocks hnm ⟨hZ, hP⟩ hl
  have iX2 : ∀ w ∈ wsX20, w ∈ wsX2_leg := by decide +kernel
  have hl : lv_has ls 3 [(0, .ref h0), (1, .int (nI (a))), (2, .int (nI (b)))] := hl
  refine lv_aload_n hx hb dX2_leg_0 rfl (lv_at hl 0 rfl) ?_
  refine va_get (D := D) (ci := 2) (v := .ref al) (C := RX2) (T := TX2) (N := 6) hx hb hts iX2 hown hZ.1 hP k0 hk rfl 2 (by decide) (hts (.fieldLink RX2 19 "TapeRobotics$Orders" "legs" "[I") (by decide +kernel)) (fun _ h9 => h9) rfl dX2_leg_1 ?_
  refine lv_iload_n hx hb dX2_leg_4 rfl (lv_at hl 1 rfl) ?_
  refine lv_bipush (v := nI (7)) hx hb dX2_leg_5 (by decide) ?_
  refine zo_mul hx hb dX2_leg_7 ?_
  refine lv_iload_n hx hb dX2_leg_8 rfl (lv_at hl 2 rfl) ?_
  refine zo_add hx hb dX2_leg_9 ?_
  refine zk_SN_i (n := 2) (As := [.ref al, .int (nI ((a * 7) + b))]) (rest := []) hx hb hml hts hown hZ hP (c_X4_at l D cA _ kl al 56 fl hkl ((a * 7) + b) (by omega) (by omega)) ggX2_leg_X4_at (List.mem_of_getElem? (i := 28) rfl) (by decide +kernel) rfl ⟨rfl, rfl⟩ ⟨by decide +kernel, Nat.le_of_ble_eq_true rfl, Nat.le_of_ble_eq_true rfl⟩ hl.1 rfl (Nat.le_of_ble_eq_true rfl) ⟨Nat.zero_le _, Nat.zero_le _⟩ rfl dX2_leg_10 (fun r_1 hr_2 => ?_)
  obtain rfl := show r_1 = _ from hr_2
  exact zr_i hx hb hr hlocks (rfl) dX2_leg_13

set_option maxHeartbeats 4000000 in
set_option maxRecDepth 100000 in
theorem c_X2_restThrough (l : Launch) (D : va_G) (cA : Nat → ClassId) (ws : va_W) (k0 h0 oc an al ar ab ao : Nat) (hk : ws[k0]? = some (h0, zOrd oc an al ar ab ao)) (kl : Nat) (fl : Nat → Int32) (hkl : ws[kl]? = some (al, zInts cA 56 fl)) (kr : Nat) (fr : Nat → Int32) (hkr : ws[kr]? = some (ar, zInts cA 896 fr)) (rd la fo : Nat) (h1 : rd < 2 ^ 7) (h2 : la ≤ 7) (h3 : fo < 7) (lv rv : Nat) (hlv : fl (la * 7 + fo) = nI lv) (hrv : fr ((rd ||| 2 ^ fo) * 7 + fo) = nI rv) : Met l yX2_restThrough wsX2_restThrough ({ frames := 2, cells := 0, slots := 0, locals := 43 }) (va_Pc [.ref h0, .int (nI (rd)), .int (nI (la)), .int (nI (fo))] (zS D cA ws)) (vp_Si (fun r => r = nI (lv + rv))) 0 0 zF := by
  refine zOpen (cc := cX2_restThrough) (maxL := 4) (ret := (some .int)) (own := RX2) (by decide) rfl rfl (Nat.le_of_ble_eq_true rfl) ?_
  intro p e s m below meth c ls hx hb hr hml hts hown hlocks hnm ⟨hZ, hP⟩ hl
  have iX2 : ∀ w ∈ wsX20, w ∈ wsX2_restThrough := by decide +kernel
  have hl : lv_has ls 4 [(0, .ref h0), (1, .int (nI (rd))), (2, .int (nI (la))), (3, .int (nI (fo)))] := hl
  have h4 : rd ||| 2 ^ fo < 2 ^ 7 := Nat.or_lt_two_pow h1 (Nat.pow_lt_pow_right (by omega) h3)
  have h5 : (rd ||| 2 ^ fo) * 7 + fo < 896 := by omega
  refine lv_aload_n hx hb dX2_restThrough_0 rfl (lv_at hl 0 rfl) ?_
  refine lv_iload_n hx hb dX2_restThrough_1 rfl (lv_at hl 2 rfl) ?_
  refine lv_iload_n hx hb dX2_restThrough_2 rfl (lv_at hl 3 rfl) ?_
  refine zk_V_i (n := 2) (As := [.int (nI (la)), .int (nI (fo))]) (rest := []) hx hb hml hts hown hZ hP (c_X2_leg l D cA _ k0 h0 oc an al ar ab ao hk kl fl hkl la fo (by omega) (by omega)) gX2_restThrough_X2_leg rfl rfl ⟨rfl, rfl⟩ ⟨by decide +kernel, Nat.le_of_ble_eq_true rfl, Nat.le_of_ble_eq_true rfl⟩ hk rfl hl.1 rfl (Nat.le_of_ble_eq_true rfl) ⟨Nat.zero_le _, Nat.zero_le _⟩ rfl dX2_restThrough_3 (fun r_1 hr_2 => ?_)
  obtain rfl := show r_1 = _ from hr_2
  refine zx_val (y := nI (lv)) (hlv) ?_
  refine lv_aload_n hx hb dX2_restThrough_6 rfl (lv_at hl 0 rfl) ?_
  refine va_get (D := D) (ci := 2) (v := .ref ar) (C := RX2) (T := TX2) (N := 6) hx hb hts iX2 hown hZ.1 hP k0 hk rfl 3 (by decide) (hts (.fieldLink RX2 22 "TapeRobotics$Orders" "rests" "[I") (by decide +kernel)) (fun _ h9 => h9) rfl dX2_restThrough_7 ?_
  refine lv_iload_n hx hb dX2_restThrough_10 rfl (lv_at hl 1 rfl) ?_
  refine lv_iconst (v := nI (1)) hx hb dX2_restThrough_11 (by decide) ?_
  refine lv_iload_n hx hb dX2_restThrough_12 rfl (lv_at hl 3 rfl) ?_
  refine lv_ishl hx hb dX2_restThrough_13 ?_
  refine zx_val (y := nI (2 ^ fo)) (zshl fo (by omega)) ?_
  refine lv_ior hx hb dX2_restThrough_14 ?_
  refine zx_val (y := nI (rd ||| 2 ^ fo)) (zor _ _) ?_
  refine lv_bipush (v := nI (7)) hx hb dX2_restThrough_15 (by decide) ?_
  refine zo_mul hx hb dX2_restThrough_17 ?_
  refine lv_iload_n hx hb dX2_restThrough_18 rfl (lv_at hl 3 rfl) ?_
  refine zo_add hx hb dX2_restThrough_19 ?_
  refine zk_SN_i (n := 2) (As := [.ref ar, .int (nI (((rd ||| 2 ^ fo) * 7) + fo))]) (rest := [.int (nI (lv))]) hx hb hml hts hown hZ hP (c_X4_at l D cA _ kr ar 896 fr hkr (((rd ||| 2 ^ fo) * 7) + fo) (by omega) (by omega)) ggX2_restThrough_X4_at (List.mem_of_getElem? (i := 28) rfl) (by decide +kernel) rfl ⟨rfl, rfl⟩ ⟨by decide +kernel, Nat.le_of_ble_eq_true rfl, Nat.le_of_ble_eq_true rfl⟩ hl.1 rfl (Nat.le_of_ble_eq_true rfl) ⟨Nat.zero_le _, Nat.zero_le _⟩ rfl dX2_restThrough_20 (fun r_3 hr_4 => ?_)
  obtain rfl := show r_3 = _ from hr_4
  refine zx_val (y := nI (rv)) (hrv) ?_
  refine zo_add hx hb dX2_restThrough_23 ?_
  exact zr_i hx hb hr hlocks (rfl) dX2_restThrough_24

set_option maxHeartbeats 4000000 in
set_option maxRecDepth 100000 in
theorem c_X2_bestFollower (l : Launch) (D : va_G) (cA : Nat → ClassId) (ws : va_W) (k0 h0 oc an al ar ab ao : Nat) (hk : ws[k0]? = some (h0, zOrd oc an al ar ab ao)) (kl : Nat) (fl : Nat → Int32) (hkl : ws[kl]? = some (al, zInts cA 56 fl)) (kr : Nat) (fr : Nat → Int32) (hkr : ws[kr]? = some (ar, zInts cA 896 fr)) (rd la : Nat) (hoc : oc ≤ 7) (h1 : rd < 2 ^ 7) (h2 : la ≤ 7) (lv rv : Nat → Nat) (hlv : ∀ b, b < oc → fl (la * 7 + b) = nI (lv b)) (hrv : ∀ b, b < oc → np rd b = true → fr ((rd ||| 2 ^ b) * 7 + b) = nI (rv b)) (hB : ∀ b, b < oc → np rd b = true → lv b + rv b < 2 ^ 31)  : Met l yX2_bestFollower wsX2_bestFollower ({ frames := 3, cells := 0, slots := 0, locals := 66 }) (va_Pc [.ref h0, .int (nI (rd)), .int (nI (la))] (zS D cA ws)) (vp_Si (fun r => r = oI (aminP (fun b => lv b + rv b) (np rd) oc))) 0 0 zF := by
  refine zOpen (cc := cX2_bestFollower) (maxL := 7) (ret := (some .int)) (own := RX2) (by decide) rfl rfl (Nat.le_of_ble_eq_true rfl) ?_
  intro p e s m below meth c ls hx hb hr hml hts hown hlocks hnm ⟨hZ, hP⟩ hl
  have iX2 : ∀ w ∈ wsX20, w ∈ wsX2_bestFollower := by decide +kernel
  have hl : lv_has ls 7 [(0, .ref h0), (1, .int (nI (rd))), (2, .int (nI (la)))] := hl
  have hdl : ∀ j, rd / 2 ^ j ≤ rd := fun j => Nat.div_le_self _ _
  refine lv_iconst (v := (-1)) hx hb dX2_bestFollower_0 (by decide) ?_
  refine lv_istore_n (lv' := [(3, .int ((-1))), (0, .ref h0), (1, .int (nI (rd))), (2, .int (nI (la)))]) hx hb dX2_bestFollower_1 rfl hl (by decide) rfl (fun ls hl => ?_)
  refine lv_iconst (v := nI (0)) hx hb dX2_bestFollower_2 (by decide) ?_
  refine lv_istore (lv' := [(4, .int (nI (0))), (3, .int ((-1))), (0, .ref h0), (1, .int (nI (rd))), (2, .int (nI (la)))]) hx hb dX2_bestFollower_3 hl (by decide) rfl (fun ls hl => ?_)
  refine lv_iconst (v := nI (0)) hx hb dX2_bestFollower_5 (by decide) ?_
  refine lv_istore (lv' := [(5, .int (nI (0))), (4, .int (nI (0))), (3, .int ((-1))), (0, .ref h0), (1, .int (nI (rd))), (2, .int (nI (la)))]) hx hb dX2_bestFollower_6 hl (by decide) rfl (fun ls hl => ?_)
  refine z_loop (α := Nat × Option Nat × Nat) (fun v => oc - v.1) (fun v ls => lv_has ls 7 [(0, .ref h0), (1, .int (nI (rd))), (2, .int (nI (la))), (5, .int (nI (v.1))), (3, .int (oI v.2.1)), (4, .int (nI (v.2.2)))] ∧ v.2.1 = aminP (fun b => lv b + rv b) (np rd) v.1 ∧ (∀ b, v.2.1 = some b → v.2.2 = lv b + rv b ∧ b < oc) ∧ v.1 ≤ oc) (fun _ => []) (0, none, 0) ⟨lv_sub hl [3, 4, 5, 0, 2, 1] rfl, rfl, (fun b hb2 => nomatch hb2), Nat.zero_le _⟩ ?_
  intro v ih ls hv
  obtain ⟨j, o, ft⟩ := v
  obtain ⟨hl, hI⟩ := hv
  have hl : lv_has ls 7 [(0, .ref h0), (1, .int (nI (rd))), (2, .int (nI (la))), (5, .int (nI (j))), (3, .int (oI o)), (4, .int (nI (ft)))] := hl
  have hI : o = aminP (fun b => lv b + rv b) (np rd) j ∧ (∀ b, o = some b → ft = lv b + rv b ∧ b < oc) ∧ j ≤ oc := hI
  obtain ⟨ho, hft, hj⟩ := hI
  have hdj := hdl j
  refine lv_iload hx hb dX2_bestFollower_8 (lv_at hl 3 rfl) ?_
  refine lv_aload_n hx hb dX2_bestFollower_10 rfl (lv_at hl 0 rfl) ?_
  refine va_get (D := D) (ci := 2) (v := .int (nI (oc))) (C := RX2) (T := TX2) (N := 6) hx hb hts iX2 hown hZ.1 hP k0 hk rfl 0 (by decide) (hts (.fieldLink RX2 9 "TapeRobotics$Orders" "count" "I") (by decide +kernel)) (fun _ h9 => h9) rfl dX2_bestFollower_11 ?_
  refine zc_ge (tgt := 61) hx hb (by omega) (by omega) dX2_bestFollower_14 (by decide) (fun c_1 => ?_) (fun c_1 => ?_)
  · refine lv_iload_n hx hb dX2_bestFollower_61 rfl (lv_at hl 4 rfl) ?_
    exact zr_i hx hb hr hlocks (by rw [ho, show j = oc by omega]) dX2_bestFollower_62
  · refine lv_iload_n hx hb dX2_bestFollower_17 rfl (lv_at hl 1 rfl) ?_
    refine lv_iload hx hb dX2_bestFollower_18 (lv_at hl 3 rfl) ?_
    refine lv_ishr hx hb dX2_bestFollower_20 ?_
    refine zx_val (y := nI (rd / 2 ^ j)) (zshr (by omega) (by omega)) ?_
    refine lv_iconst (v := nI (1)) hx hb dX2_bestFollower_21 (by decide) ?_
    refine lv_iand hx hb dX2_bestFollower_22 ?_
    refine zx_val (y := nI (rd / 2 ^ j % 2)) (z_and1 (by omega)) ?_
    refine zf_ne (tgt := 55) hx hb (by omega) dX2_bestFollower_23 (by decide) (fun c_2 => ?_) (fun c_2 => ?_)
    · refine lv_iinc (v := nI (j + 1)) (lv' := [(5, .int (nI (j + 1))), (0, .ref h0), (1, .int (nI (rd))), (2, .int (nI (la))), (3, .int (oI o)), (4, .int (nI (ft)))]) hx hb dX2_bestFollower_55 hl (k := 3) rfl (zinc 1 _) (by decide) rfl (fun ls hl => ?_)
      refine lv_goto (tgt := 8) hx hb dX2_bestFollower_58 (by decide) ?_
      exact ih (j + 1, o, ft) ls (by show oc - (j + 1) < oc - j; omega) ⟨lv_sub hl [1, 2, 3, 0, 4, 5] rfl, by show _ = _; rw [aminP_n (by rw [np_bit]; exact decide_eq_false (by assumption))]; exact ho, hft, by omega⟩
    · have hbit : np rd j = true := by rw [np_bit]; exact decide_eq_true (by assumption)
      have hBj := hB j (by omega) hbit
      refine lv_aload_n hx hb dX2_bestFollower_26 rfl (lv_at hl 0 rfl) ?_
      refine lv_iload_n hx hb dX2_bestFollower_27 rfl (lv_at hl 1 rfl) ?_
      refine lv_iload_n hx hb dX2_bestFollower_28 rfl (lv_at hl 2 rfl) ?_
      refine lv_iload hx hb dX2_bestFollower_29 (lv_at hl 3 rfl) ?_
      refine zk_V_i (n := 3) (As := [.int (nI (rd)), .int (nI (la)), .int (nI (j))]) (rest := []) hx hb hml hts hown hZ hP (c_X2_restThrough l D cA _ k0 h0 oc an al ar ab ao hk kl fl hkl kr fr hkr rd la j (by omega) (by omega) (by omega) (lv j) (rv j) (hlv _ (by omega)) (hrv _ (by omega) hbit)) gX2_bestFollower_X2_restThrough rfl rfl ⟨rfl, rfl⟩ ⟨by decide +kernel, Nat.le_of_ble_eq_true rfl, Nat.le_of_ble_eq_true rfl⟩ hk rfl hl.1 rfl (Nat.le_of_ble_eq_true rfl) ⟨Nat.zero_le _, Nat.zero_le _⟩ rfl dX2_bestFollower_31 (fun r_3 hr_4 => ?_)
      obtain rfl := show r_3 = _ from hr_4
      refine lv_istore (lv' := [(6, .int (nI (lv j + rv j))), (0, .ref h0), (1, .int (nI (rd))), (2, .int (nI (la))), (5, .int (nI (j))), (3, .int (oI o)), (4, .int (nI (ft)))]) hx hb dX2_bestFollower_34 hl (by decide) rfl (fun ls hl => ?_)
      rcases o with _ | b
      · refine lv_iload_n hx hb dX2_bestFollower_36 rfl (lv_at hl 5 rfl) ?_
        refine lv_iconst (v := (-1)) hx hb dX2_bestFollower_37 (by decide) ?_
        refine lv_icmp_eq (tgt := 48) hx hb dX2_bestFollower_38 (by decide) (fun c_5 => ?_) (fun c_5 => absurd rfl c_5)
        refine lv_iload hx hb dX2_bestFollower_48 (lv_at hl 4 rfl) ?_
        refine lv_istore_n (lv' := [(3, .int (nI (j))), (6, .int (nI (lv j + rv j))), (0, .ref h0), (1, .int (nI (rd))), (2, .int (nI (la))), (5, .int (nI (j))), (4, .int (nI (ft)))]) hx hb dX2_bestFollower_50 rfl hl (by decide) rfl (fun ls hl => ?_)
        refine lv_iload hx hb dX2_bestFollower_51 (lv_at hl 1 rfl) ?_
        refine lv_istore (lv' := [(4, .int (nI (lv j + rv j))), (3, .int (nI (j))), (6, .int (nI (lv j + rv j))), (0, .ref h0), (1, .int (nI (rd))), (2, .int (nI (la))), (5, .int (nI (j)))]) hx hb dX2_bestFollower_53 hl (by decide) rfl (fun ls hl => ?_)
        refine lv_iinc (v := nI (j + 1)) (lv' := [(5, .int (nI (j + 1))), (4, .int (nI (lv j + rv j))), (3, .int (nI (j))), (6, .int (nI (lv j + rv j))), (0, .ref h0), (1, .int (nI (rd))), (2, .int (nI (la)))]) hx hb dX2_bestFollower_55 hl (k := 6) rfl (zinc 1 _) (by decide) rfl (fun ls hl => ?_)
        refine lv_goto (tgt := 8) hx hb dX2_bestFollower_58 (by decide) ?_
        exact ih (j + 1, (some j), lv j + rv j) ls (by show oc - (j + 1) < oc - j; omega) ⟨lv_sub hl [4, 5, 6, 0, 2, 1] rfl, by show _ = _; rw [aminP_y hbit, ← ho]; rfl, (fun b hb2 => by cases hb2; exact ⟨rfl, by omega⟩), by omega⟩
      · obtain ⟨hfb, hbm⟩ := hft b rfl
        obtain ⟨-, hbb⟩ := aminP_mem j b ho.symm
        have hBb := hB b hbm hbb
        refine lv_iload_n hx hb dX2_bestFollower_36 rfl (lv_at hl 5 rfl) ?_
        refine lv_iconst (v := (-1)) hx hb dX2_bestFollower_37 (by decide) ?_
        refine lv_icmp_eq (tgt := 48) hx hb dX2_bestFollower_38 (by decide) (fun c_6 => absurd c_6 (nI_nm1 (by omega))) (fun c_6 => ?_)
        refine lv_iload hx hb dX2_bestFollower_41 (lv_at hl 0 rfl) ?_
        refine lv_iload hx hb dX2_bestFollower_43 (lv_at hl 6 rfl) ?_
        refine zc_ge (tgt := 55) hx hb (by omega) (by omega) dX2_bestFollower_45 (by decide) (fun c_7 => ?_) (fun c_7 => ?_)
        · refine lv_iinc (v := nI (j + 1)) (lv' := [(5, .int (nI (j + 1))), (6, .int (nI (lv j + rv j))), (0, .ref h0), (1, .int (nI (rd))), (2, .int (nI (la))), (3, .int (oI (some b))), (4, .int (nI (ft)))]) hx hb dX2_bestFollower_55 hl (k := 4) rfl (zinc 1 _) (by decide) rfl (fun ls hl => ?_)
          refine lv_goto (tgt := 8) hx hb dX2_bestFollower_58 (by decide) ?_
          exact ih (j + 1, (some b), ft) ls (by show oc - (j + 1) < oc - j; omega) ⟨lv_sub hl [2, 3, 4, 0, 5, 6] rfl, by show _ = _; rw [aminP_y hbit, ← ho]; show _ = (if lv j + rv j < lv b + rv b then some j else some b); rw [if_neg (by omega)], (fun b2 hb2 => by cases hb2; exact ⟨hfb, hbm⟩), by omega⟩
        · refine lv_iload hx hb dX2_bestFollower_48 (lv_at hl 4 rfl) ?_
          refine lv_istore_n (lv' := [(3, .int (nI (j))), (6, .int (nI (lv j + rv j))), (0, .ref h0), (1, .int (nI (rd))), (2, .int (nI (la))), (5, .int (nI (j))), (4, .int (nI (ft)))]) hx hb dX2_bestFollower_50 rfl hl (by decide) rfl (fun ls hl => ?_)
          refine lv_iload hx hb dX2_bestFollower_51 (lv_at hl 1 rfl) ?_
          refine lv_istore (lv' := [(4, .int (nI (lv j + rv j))), (3, .int (nI (j))), (6, .int (nI (lv j + rv j))), (0, .ref h0), (1, .int (nI (rd))), (2, .int (nI (la))), (5, .int (nI (j)))]) hx hb dX2_bestFollower_53 hl (by decide) rfl (fun ls hl => ?_)
          refine lv_iinc (v := nI (j + 1)) (lv' := [(5, .int (nI (j + 1))), (4, .int (nI (lv j + rv j))), (3, .int (nI (j))), (6, .int (nI (lv j + rv j))), (0, .ref h0), (1, .int (nI (rd))), (2, .int (nI (la)))]) hx hb dX2_bestFollower_55 hl (k := 6) rfl (zinc 1 _) (by decide) rfl (fun ls hl => ?_)
          refine lv_goto (tgt := 8) hx hb dX2_bestFollower_58 (by decide) ?_
          exact ih (j + 1, (some j), lv j + rv j) ls (by show oc - (j + 1) < oc - j; omega) ⟨lv_sub hl [4, 5, 6, 0, 2, 1] rfl, by show _ = _; rw [aminP_y hbit, ← ho]; show _ = (if lv j + rv j < lv b + rv b then some j else some b); rw [if_pos (by omega)], (fun b hb2 => by cases hb2; exact ⟨rfl, by omega⟩), by omega⟩

set_option maxHeartbeats 4000000 in
set_option maxRecDepth 100000 in
theorem c_X2_restBehind (l : Launch) (D : va_G) (cA : Nat → ClassId) (ws : va_W) (k0 h0 oc an al ar ab ao : Nat) (hk : ws[k0]? = some (h0, zOrd oc an al ar ab ao)) (kl : Nat) (fl : Nat → Int32) (hkl : ws[kl]? = some (al, zInts cA 56 fl)) (kr : Nat) (fr : Nat → Int32) (hkr : ws[kr]? = some (ar, zInts cA 896 fr)) (rd la : Nat) (hoc : oc ≤ 7) (h1 : rd < 2 ^ 7) (h2 : la ≤ 7) (lv rv : Nat → Nat) (hlv : ∀ b, b < oc → fl (la * 7 + b) = nI (lv b)) (hrv : ∀ b, b < oc → np rd b = true → fr ((rd ||| 2 ^ b) * 7 + b) = nI (rv b)) (hB : ∀ b, b < oc → np rd b = true → lv b + rv b < 2 ^ 31)  : Met l yX2_restBehind wsX2_restBehind ({ frames := 4, cells := 0, slots := 0, locals := 92 }) (va_Pc [.ref h0, .int (nI (rd)), .int (nI (la))] (zS D cA ws)) (vp_Si (fun r => r = nI (match aminP (fun b => lv b + rv b) (np rd) oc with | none => 0 | some b => lv b + rv b))) 0 0 zF := by
  refine zOpen (cc := cX2_restBehind) (maxL := 4) (ret := (some .int)) (own := RX2) (by decide) rfl rfl (Nat.le_of_ble_eq_true rfl) ?_
  intro p e s m below meth c ls hx hb hr hml hts hown hlocks hnm ⟨hZ, hP⟩ hl
  have hl : lv_has ls 4 [(0, .ref h0), (1, .int (nI (rd))), (2, .int (nI (la)))] := hl
  refine lv_aload_n hx hb dX2_restBehind_0 rfl (lv_at hl 0 rfl) ?_
  refine lv_iload_n hx hb dX2_restBehind_1 rfl (lv_at hl 1 rfl) ?_
  refine lv_iload_n hx hb dX2_restBehind_2 rfl (lv_at hl 2 rfl) ?_
  refine zk_V_i (n := 2) (As := [.int (nI (rd)), .int (nI (la))]) (rest := []) hx hb hml hts hown hZ hP (c_X2_bestFollower l D cA _ k0 h0 oc an al ar ab ao hk kl fl hkl kr fr hkr rd la (by omega) (by omega) (by omega) lv rv hlv hrv hB) gX2_restBehind_X2_bestFollower rfl rfl ⟨rfl, rfl⟩ ⟨by decide +kernel, Nat.le_of_ble_eq_true rfl, Nat.le_of_ble_eq_true rfl⟩ hk rfl hl.1 rfl (Nat.le_of_ble_eq_true rfl) ⟨Nat.zero_le _, Nat.zero_le _⟩ rfl dX2_restBehind_3 (fun r_1 hr_2 => ?_)
  obtain rfl := show r_1 = _ from hr_2
  refine lv_istore_n (lv' := [(3, .int (oI (aminP (fun b => lv b + rv b) (np rd) oc))), (0, .ref h0), (1, .int (nI (rd))), (2, .int (nI (la)))]) hx hb dX2_restBehind_6 rfl hl (by decide) rfl (fun ls hl => ?_)
  rcases ha : aminP (fun b => lv b + rv b) (np rd) oc with _ | b
  · have hl := ha ▸ hl
    have hl : lv_has ls 4 [(3, .int (oI none)), (0, .ref h0), (1, .int (nI rd)), (2, .int (nI la))] := hl
    refine lv_iload_n hx hb dX2_restBehind_7 rfl (lv_at hl 0 rfl) ?_
    refine lv_iconst (v := (-1)) hx hb dX2_restBehind_8 (by decide) ?_
    refine lv_icmp_ne (tgt := 16) hx hb dX2_restBehind_9 (by decide) (fun c_3 => absurd rfl c_3) (fun c_3 => ?_)
    refine lv_iconst (v := nI (0)) hx hb dX2_restBehind_12 (by decide) ?_
    refine lv_goto (tgt := 23) hx hb dX2_restBehind_13 (by decide) ?_
    exact zr_i hx hb hr hlocks (rfl) dX2_restBehind_23
  · obtain ⟨hbm, hbit⟩ := aminP_mem oc b ha
    have hl := ha ▸ hl
    have hl : lv_has ls 4 [(3, .int (nI b)), (0, .ref h0), (1, .int (nI rd)), (2, .int (nI la))] := hl
    refine lv_iload_n hx hb dX2_restBehind_7 rfl (lv_at hl 0 rfl) ?_
    refine lv_iconst (v := (-1)) hx hb dX2_restBehind_8 (by decide) ?_
    refine lv_icmp_ne (tgt := 16) hx hb dX2_restBehind_9 (by decide) (fun c_4 => ?_) (fun c_4 => absurd c_4 (nI_nm1 (by omega)))
    refine lv_aload_n hx hb dX2_restBehind_16 rfl (lv_at hl 1 rfl) ?_
    refine lv_iload_n hx hb dX2_restBehind_17 rfl (lv_at hl 2 rfl) ?_
    refine lv_iload_n hx hb dX2_restBehind_18 rfl (lv_at hl 3 rfl) ?_
    refine lv_iload_n hx hb dX2_restBehind_19 rfl (lv_at hl 0 rfl) ?_
    refine zk_V_i (n := 3) (As := [.int (nI (rd)), .int (nI (la)), .int (nI (b))]) (rest := []) hx hb hml hts hown hZ hP (c_X2_restThrough l D cA _ k0 h0 oc an al ar ab ao hk kl fl hkl kr fr hkr rd la b (by omega) (by omega) (by omega) (lv b) (rv b) (hlv _ (by omega)) (hrv _ (by omega) hbit)) gX2_restBehind_X2_restThrough rfl rfl ⟨rfl, rfl⟩ ⟨by decide +kernel, Nat.le_of_ble_eq_true rfl, Nat.le_of_ble_eq_true rfl⟩ hk rfl hl.1 rfl (Nat.le_of_ble_eq_true rfl) ⟨Nat.zero_le _, Nat.zero_le _⟩ rfl dX2_restBehind_20 (fun r_5 hr_6 => ?_)
    obtain rfl := show r_5 = _ from hr_6
    exact zr_i hx hb hr hlocks (rfl) dX2_restBehind_23
