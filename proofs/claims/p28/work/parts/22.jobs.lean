set_option maxHeartbeats 4000000 in
set_option maxRecDepth 100000 in
theorem c_X1_fileOf (l : Launch) (D : va_G) (cA : Nat → ClassId) (ws : va_W) (k0 h0 nc dn w f d : Nat) (hk : ws[k0]? = some (h0, zJobs nc dn w f d)) (kf : Nat) (ff : Nat → Nat) (hkf : ws[kf]? = some (f, zInts cA 60 (fun k => nI (ff k)))) (i : Nat) (hi : i < 60) : Met l yX1_fileOf wsX1_fileOf ({ frames := 1, cells := 0, slots := 0, locals := 21 }) (va_Pc [.ref h0, .int (nI (i))] (zS D cA ws)) (vp_Si (fun r => r = nI (ff i))) 0 0 zF := by
  refine zOpen (cc := cX1_fileOf) (maxL := 2) (ret := (some .int)) (own := RX1) (by decide) rfl rfl (Nat.le_of_ble_eq_true rfl) ?_
  intro p e s m below meth c ls hx hb hr hml hts hown hlocks hnm ⟨hZ, hP⟩ hl
  have iX1 : ∀ w ∈ wsX10, w ∈ wsX1_fileOf := by decide +kernel
  have hl : lv_has ls 2 [(0, .ref h0), (1, .int (nI (i)))] := hl
  refine lv_aload_n hx hb dX1_fileOf_0 rfl (lv_at hl 0 rfl) ?_
  refine va_get (D := D) (ci := 1) (v := .ref f) (C := RX1) (T := TX1) (N := 5) hx hb hts iX1 hown hZ.1 hP k0 hk rfl 3 (by decide) (hts (.fieldLink RX1 22 "TapeRobotics$Jobs" "files" "[I") (by decide +kernel)) (fun _ h9 => h9) rfl dX1_fileOf_1 ?_
  refine lv_iload_n hx hb dX1_fileOf_4 rfl (lv_at hl 1 rfl) ?_
  refine zk_SN_i (n := 2) (As := [.ref f, .int (nI (i))]) (rest := []) hx hb hml hts hown hZ hP (c_X4_at l D cA _ kf f 60 (fun k => nI (ff k)) hkf i (by omega) (by omega)) ggX1_fileOf_X4_at (List.mem_of_getElem? (i := 4) rfl) (by decide +kernel) rfl ⟨rfl, rfl⟩ ⟨by decide +kernel, Nat.le_of_ble_eq_true rfl, Nat.le_of_ble_eq_true rfl⟩ hl.1 rfl (Nat.le_of_ble_eq_true rfl) ⟨Nat.zero_le _, Nat.zero_le _⟩ rfl dX1_fileOf_5 (fun r_1 hr_2 => ?_)
  obtain rfl := show r_1 = _ from hr_2
  exact zr_i hx hb hr hlocks (rfl) dX1_fileOf_8

set_option maxHeartbeats 4000000 in
set_option maxRecDepth 100000 in
theorem c_X1_deadlineOf (l : Launch) (D : va_G) (cA : Nat → ClassId) (ws : va_W) (k0 h0 nc dn w f d : Nat) (hk : ws[k0]? = some (h0, zJobs nc dn w f d)) (kd : Nat) (fd : Nat → Nat) (hkd : ws[kd]? = some (d, zInts cA 60 (fun k => nI (fd k)))) (i : Nat) (hi : i < 60) : Met l yX1_deadlineOf wsX1_deadlineOf ({ frames := 1, cells := 0, slots := 0, locals := 21 }) (va_Pc [.ref h0, .int (nI (i))] (zS D cA ws)) (vp_Si (fun r => r = nI (fd i))) 0 0 zF := by
  refine zOpen (cc := cX1_deadlineOf) (maxL := 2) (ret := (some .int)) (own := RX1) (by decide) rfl rfl (Nat.le_of_ble_eq_true rfl) ?_
  intro p e s m below meth c ls hx hb hr hml hts hown hlocks hnm ⟨hZ, hP⟩ hl
  have iX1 : ∀ w ∈ wsX10, w ∈ wsX1_deadlineOf := by decide +kernel
  have hl : lv_has ls 2 [(0, .ref h0), (1, .int (nI (i)))] := hl
  refine lv_aload_n hx hb dX1_deadlineOf_0 rfl (lv_at hl 0 rfl) ?_
  refine va_get (D := D) (ci := 1) (v := .ref d) (C := RX1) (T := TX1) (N := 5) hx hb hts iX1 hown hZ.1 hP k0 hk rfl 4 (by decide) (hts (.fieldLink RX1 25 "TapeRobotics$Jobs" "deadlines" "[I") (by decide +kernel)) (fun _ h9 => h9) rfl dX1_deadlineOf_1 ?_
  refine lv_iload_n hx hb dX1_deadlineOf_4 rfl (lv_at hl 1 rfl) ?_
  refine zk_SN_i (n := 2) (As := [.ref d, .int (nI (i))]) (rest := []) hx hb hml hts hown hZ hP (c_X4_at l D cA _ kd d 60 (fun k => nI (fd k)) hkd i (by omega) (by omega)) ggX1_deadlineOf_X4_at (List.mem_of_getElem? (i := 4) rfl) (by decide +kernel) rfl ⟨rfl, rfl⟩ ⟨by decide +kernel, Nat.le_of_ble_eq_true rfl, Nat.le_of_ble_eq_true rfl⟩ hl.1 rfl (Nat.le_of_ble_eq_true rfl) ⟨Nat.zero_le _, Nat.zero_le _⟩ rfl dX1_deadlineOf_5 (fun r_1 hr_2 => ?_)
  obtain rfl := show r_1 = _ from hr_2
  exact zr_i hx hb hr hlocks (rfl) dX1_deadlineOf_8

set_option maxHeartbeats 4000000 in
set_option maxRecDepth 100000 in
theorem c_X1_countAt (l : Launch) (D : va_G) (cA : Nat → ClassId) (ws : va_W) (k0 h0 nc dn w f d : Nat) (hk : ws[k0]? = some (h0, zJobs nc dn w f d)) (kw : Nat) (fw : Nat → Int32) (hkw : ws[kw]? = some (w, zInts cA 60 fw)) (t : Nat) (hn : nc ≤ 60) : Met l yX1_countAt wsX1_countAt ({ frames := 1, cells := 0, slots := 0, locals := 21 }) (va_Pc [.ref h0, .int (nI (t))] (zS D cA ws)) (vp_Si (fun r => r = nI ((wl fw (nI t) nc).length))) 0 0 zF := by
  refine zOpen (cc := cX1_countAt) (maxL := 4) (ret := (some .int)) (own := RX1) (by decide) rfl rfl (Nat.le_of_ble_eq_true rfl) ?_
  intro p e s m below meth c ls hx hb hr hml hts hown hlocks hnm ⟨hZ, hP⟩ hl
  have iX1 : ∀ w ∈ wsX10, w ∈ wsX1_countAt := by decide +kernel
  have hl : lv_has ls 4 [(0, .ref h0), (1, .int (nI (t)))] := hl
  have hle := wl_le (f := fw) (x := nI t)
  refine lv_iconst (v := nI (0)) hx hb dX1_countAt_0 (by decide) ?_
  refine lv_istore_n (lv' := [(2, .int (nI (0))), (0, .ref h0), (1, .int (nI (t)))]) hx hb dX1_countAt_1 rfl hl (by decide) rfl (fun ls hl => ?_)
  refine lv_iconst (v := nI (0)) hx hb dX1_countAt_2 (by decide) ?_
  refine lv_istore_n (lv' := [(3, .int (nI (0))), (2, .int (nI (0))), (0, .ref h0), (1, .int (nI (t)))]) hx hb dX1_countAt_3 rfl hl (by decide) rfl (fun ls hl => ?_)
  refine z_loop (α := Nat × Nat) (fun v => nc - v.1) (fun v ls => lv_has ls 4 [(0, .ref h0), (1, .int (nI (t))), (3, .int (nI (v.1))), (2, .int (nI (v.2)))] ∧ v.2 = (wl fw (nI t) v.1).length ∧ v.1 ≤ nc) (fun _ => []) (0, 0) ⟨lv_sub hl [2, 3, 0, 1] rfl, rfl, Nat.zero_le _⟩ ?_
  intro v ih ls hv
  obtain ⟨j, x⟩ := v
  obtain ⟨hl, hI⟩ := hv
  have hl : lv_has ls 4 [(0, .ref h0), (1, .int (nI (t))), (3, .int (nI (j))), (2, .int (nI (x)))] := hl
  have hI : x = (wl fw (nI t) j).length ∧ j ≤ nc := hI
  obtain ⟨hx1, hj⟩ := hI
  have hxl := hle j
  refine lv_iload_n hx hb dX1_countAt_4 rfl (lv_at hl 2 rfl) ?_
  refine lv_aload_n hx hb dX1_countAt_5 rfl (lv_at hl 0 rfl) ?_
  refine va_get (D := D) (ci := 1) (v := .int (nI (nc))) (C := RX1) (T := TX1) (N := 5) hx hb hts iX1 hown hZ.1 hP k0 hk rfl 0 (by decide) (hts (.fieldLink RX1 9 "TapeRobotics$Jobs" "count" "I") (by decide +kernel)) (fun _ h9 => h9) rfl dX1_countAt_6 ?_
  refine zc_ge (tgt := 33) hx hb (by omega) (by omega) dX1_countAt_9 (by decide) (fun c_1 => ?_) (fun c_1 => ?_)
  · refine lv_iload_n hx hb dX1_countAt_33 rfl (lv_at hl 3 rfl) ?_
    exact zr_i hx hb hr hlocks (by rw [hx1, show j = nc by omega]) dX1_countAt_34
  · refine lv_aload_n hx hb dX1_countAt_12 rfl (lv_at hl 0 rfl) ?_
    refine va_get (D := D) (ci := 1) (v := .ref w) (C := RX1) (T := TX1) (N := 5) hx hb hts iX1 hown hZ.1 hP k0 hk rfl 2 (by decide) (hts (.fieldLink RX1 18 "TapeRobotics$Jobs" "waitsAt" "[I") (by decide +kernel)) (fun _ h9 => h9) rfl dX1_countAt_13 ?_
    refine lv_iload_n hx hb dX1_countAt_16 rfl (lv_at hl 2 rfl) ?_
    refine zk_SN_i (n := 2) (As := [.ref w, .int (nI (j))]) (rest := []) hx hb hml hts hown hZ hP (c_X4_at l D cA _ kw w 60 fw hkw j (by omega) (by omega)) ggX1_countAt_X4_at (List.mem_of_getElem? (i := 4) rfl) (by decide +kernel) rfl ⟨rfl, rfl⟩ ⟨by decide +kernel, Nat.le_of_ble_eq_true rfl, Nat.le_of_ble_eq_true rfl⟩ hl.1 rfl (Nat.le_of_ble_eq_true rfl) ⟨Nat.zero_le _, Nat.zero_le _⟩ rfl dX1_countAt_17 (fun r_2 hr_3 => ?_)
    obtain rfl := show r_2 = _ from hr_3
    refine lv_iload_n hx hb dX1_countAt_20 rfl (lv_at hl 1 rfl) ?_
    refine lv_icmp_ne (tgt := 27) hx hb dX1_countAt_21 (by decide) (fun c_4 => ?_) (fun c_4 => ?_)
    · refine lv_iinc (v := nI (j + 1)) (lv' := [(3, .int (nI (j + 1))), (0, .ref h0), (1, .int (nI (t))), (2, .int (nI (x)))]) hx hb dX1_countAt_27 hl (k := 2) rfl (zinc 1 _) (by decide) rfl (fun ls hl => ?_)
      refine lv_goto (tgt := 4) hx hb dX1_countAt_30 (by decide) ?_
      exact ih (j + 1, x) ls (by show nc - (j + 1) < nc - j; omega) ⟨lv_sub hl [1, 2, 0, 3] rfl, by show _ = _; rw [wl_n (by assumption)]; exact hx1, by omega⟩
    · refine lv_iinc (v := nI (x + 1)) (lv' := [(2, .int (nI (x + 1))), (0, .ref h0), (1, .int (nI (t))), (3, .int (nI (j)))]) hx hb dX1_countAt_24 hl (k := 3) rfl (zinc 1 _) (by decide) rfl (fun ls hl => ?_)
      refine lv_iinc (v := nI (j + 1)) (lv' := [(3, .int (nI (j + 1))), (2, .int (nI (x + 1))), (0, .ref h0), (1, .int (nI (t)))]) hx hb dX1_countAt_27 hl (k := 3) rfl (zinc 1 _) (by decide) rfl (fun ls hl => ?_)
      refine lv_goto (tgt := 4) hx hb dX1_countAt_30 (by decide) ?_
      exact ih (j + 1, x + 1) ls (by show nc - (j + 1) < nc - j; omega) ⟨lv_sub hl [2, 3, 0, 1] rfl, by show _ = _; rw [wl_y (by assumption), List.length_append, ← hx1]; rfl, by omega⟩

set_option maxHeartbeats 4000000 in
set_option maxRecDepth 100000 in
theorem c_X1_earliestDeadlineAt (l : Launch) (D : va_G) (cA : Nat → ClassId) (ws : va_W) (k0 h0 nc dn w f d : Nat) (hk : ws[k0]? = some (h0, zJobs nc dn w f d)) (kw : Nat) (fw : Nat → Int32) (hkw : ws[kw]? = some (w, zInts cA 60 fw)) (kd : Nat) (fd : Nat → Nat) (hkd : ws[kd]? = some (d, zInts cA 60 (fun k => nI (fd k)))) (t : Nat) (hn : nc ≤ 60) (hd : ∀ k, fd k < 2 ^ 31) : Met l yX1_earliestDeadlineAt wsX1_earliestDeadlineAt ({ frames := 1, cells := 0, slots := 0, locals := 21 }) (va_Pc [.ref h0, .int (nI (t))] (zS D cA ws)) (vp_Si (fun r => r = nI (erl fw (nI t) fd nc))) 0 0 zF := by
  refine zOpen (cc := cX1_earliestDeadlineAt) (maxL := 4) (ret := (some .int)) (own := RX1) (by decide) rfl rfl (Nat.le_of_ble_eq_true rfl) ?_
  intro p e s m below meth c ls hx hb hr hml hts hown hlocks hnm ⟨hZ, hP⟩ hl
  have iX1 : ∀ w ∈ wsX10, w ∈ wsX1_earliestDeadlineAt := by decide +kernel
  have hl : lv_has ls 4 [(0, .ref h0), (1, .int (nI (t)))] := hl
  refine lv_ldc (v := nI 99999) hx hb hown (hts (.constant RX1 36 99999) (by decide +kernel)) dX1_earliestDeadlineAt_0 ?_
  refine lv_istore_n (lv' := [(2, .int (nI (99999))), (0, .ref h0), (1, .int (nI (t)))]) hx hb dX1_earliestDeadlineAt_2 rfl hl (by decide) rfl (fun ls hl => ?_)
  refine lv_iconst (v := nI (0)) hx hb dX1_earliestDeadlineAt_3 (by decide) ?_
  refine lv_istore_n (lv' := [(3, .int (nI (0))), (2, .int (nI (99999))), (0, .ref h0), (1, .int (nI (t)))]) hx hb dX1_earliestDeadlineAt_4 rfl hl (by decide) rfl (fun ls hl => ?_)
  refine z_loop (α := Nat × Nat) (fun v => nc - v.1) (fun v ls => lv_has ls 4 [(0, .ref h0), (1, .int (nI (t))), (3, .int (nI (v.1))), (2, .int (nI (v.2)))] ∧ v.2 = erl fw (nI t) fd v.1 ∧ v.1 ≤ nc) (fun _ => []) (0, 99999) ⟨lv_sub hl [2, 3, 0, 1] rfl, rfl, Nat.zero_le _⟩ ?_
  intro v ih ls hv
  obtain ⟨j, x⟩ := v
  obtain ⟨hl, hI⟩ := hv
  have hl : lv_has ls 4 [(0, .ref h0), (1, .int (nI (t))), (3, .int (nI (j))), (2, .int (nI (x)))] := hl
  have hI : x = erl fw (nI t) fd j ∧ j ≤ nc := hI
  obtain ⟨hx1, hj⟩ := hI
  have hxl : x ≤ 99999 := by rw [hx1]; exact erl_le j
  have hdj := hd j
  refine lv_iload_n hx hb dX1_earliestDeadlineAt_5 rfl (lv_at hl 2 rfl) ?_
  refine lv_aload_n hx hb dX1_earliestDeadlineAt_6 rfl (lv_at hl 0 rfl) ?_
  refine va_get (D := D) (ci := 1) (v := .int (nI (nc))) (C := RX1) (T := TX1) (N := 5) hx hb hts iX1 hown hZ.1 hP k0 hk rfl 0 (by decide) (hts (.fieldLink RX1 9 "TapeRobotics$Jobs" "count" "I") (by decide +kernel)) (fun _ h9 => h9) rfl dX1_earliestDeadlineAt_7 ?_
  refine zc_ge (tgt := 44) hx hb (by omega) (by omega) dX1_earliestDeadlineAt_10 (by decide) (fun c_1 => ?_) (fun c_1 => ?_)
  · refine lv_iload_n hx hb dX1_earliestDeadlineAt_44 rfl (lv_at hl 3 rfl) ?_
    exact zr_i hx hb hr hlocks (by rw [hx1, show j = nc by omega]) dX1_earliestDeadlineAt_45
  · refine lv_aload_n hx hb dX1_earliestDeadlineAt_13 rfl (lv_at hl 0 rfl) ?_
    refine va_get (D := D) (ci := 1) (v := .ref w) (C := RX1) (T := TX1) (N := 5) hx hb hts iX1 hown hZ.1 hP k0 hk rfl 2 (by decide) (hts (.fieldLink RX1 18 "TapeRobotics$Jobs" "waitsAt" "[I") (by decide +kernel)) (fun _ h9 => h9) rfl dX1_earliestDeadlineAt_14 ?_
    refine lv_iload_n hx hb dX1_earliestDeadlineAt_17 rfl (lv_at hl 2 rfl) ?_
    refine zk_SN_i (n := 2) (As := [.ref w, .int (nI (j))]) (rest := []) hx hb hml hts hown hZ hP (c_X4_at l D cA _ kw w 60 fw hkw j (by omega) (by omega)) ggX1_earliestDeadlineAt_X4_at (List.mem_of_getElem? (i := 4) rfl) (by decide +kernel) rfl ⟨rfl, rfl⟩ ⟨by decide +kernel, Nat.le_of_ble_eq_true rfl, Nat.le_of_ble_eq_true rfl⟩ hl.1 rfl (Nat.le_of_ble_eq_true rfl) ⟨Nat.zero_le _, Nat.zero_le _⟩ rfl dX1_earliestDeadlineAt_18 (fun r_2 hr_3 => ?_)
    obtain rfl := show r_2 = _ from hr_3
    refine lv_iload_n hx hb dX1_earliestDeadlineAt_21 rfl (lv_at hl 1 rfl) ?_
    refine lv_icmp_ne (tgt := 38) hx hb dX1_earliestDeadlineAt_22 (by decide) (fun c_4 => ?_) (fun c_4 => ?_)
    · refine lv_iinc (v := nI (j + 1)) (lv' := [(3, .int (nI (j + 1))), (0, .ref h0), (1, .int (nI (t))), (2, .int (nI (x)))]) hx hb dX1_earliestDeadlineAt_38 hl (k := 2) rfl (zinc 1 _) (by decide) rfl (fun ls hl => ?_)
      refine lv_goto (tgt := 5) hx hb dX1_earliestDeadlineAt_41 (by decide) ?_
      exact ih (j + 1, x) ls (by show nc - (j + 1) < nc - j; omega) ⟨lv_sub hl [1, 2, 0, 3] rfl, by show _ = _; rw [erl_n (by assumption)]; exact hx1, by omega⟩
    · refine lv_iload_n hx hb dX1_earliestDeadlineAt_25 rfl (lv_at hl 3 rfl) ?_
      refine lv_aload_n hx hb dX1_earliestDeadlineAt_26 rfl (lv_at hl 0 rfl) ?_
      refine va_get (D := D) (ci := 1) (v := .ref d) (C := RX1) (T := TX1) (N := 5) hx hb hts iX1 hown hZ.1 hP k0 hk rfl 4 (by decide) (hts (.fieldLink RX1 25 "TapeRobotics$Jobs" "deadlines" "[I") (by decide +kernel)) (fun _ h9 => h9) rfl dX1_earliestDeadlineAt_27 ?_
      refine lv_iload_n hx hb dX1_earliestDeadlineAt_30 rfl (lv_at hl 2 rfl) ?_
      refine zk_SN_i (n := 2) (As := [.ref d, .int (nI (j))]) (rest := [.int (nI (x))]) hx hb hml hts hown hZ hP (c_X4_at l D cA _ kd d 60 (fun k => nI (fd k)) hkd j (by omega) (by omega)) ggX1_earliestDeadlineAt_X4_at (List.mem_of_getElem? (i := 4) rfl) (by decide +kernel) rfl ⟨rfl, rfl⟩ ⟨by decide +kernel, Nat.le_of_ble_eq_true rfl, Nat.le_of_ble_eq_true rfl⟩ hl.1 rfl (Nat.le_of_ble_eq_true rfl) ⟨Nat.zero_le _, Nat.zero_le _⟩ rfl dX1_earliestDeadlineAt_31 (fun r_5 hr_6 => ?_)
      obtain rfl := show r_5 = _ from hr_6
      refine va_mmin hx hb (hml.trans hl.1.symm) hown (hts (.methodLink RX1 37 Lib.Math.min.name) (by decide +kernel)) (hts (.static Lib.Math.min.name) (by decide +kernel)) (hts (.initialized "java/lang/Math") (by decide +kernel)) (hts (.code Lib.Math.min.name Lib.Math.min.code 2 (some .int)) (by decide +kernel)) (Nat.le_of_ble_eq_true rfl) (Nat.le_of_ble_eq_true rfl) (Nat.le_of_ble_eq_true rfl) (Nat.le_of_ble_eq_true rfl) dX1_earliestDeadlineAt_34 ?_
      refine zx_val (zm_min (by omega) (by omega)) ?_
      refine lv_istore_n (lv' := [(2, .int (nI (min x (fd j)))), (0, .ref h0), (1, .int (nI (t))), (3, .int (nI (j)))]) hx hb dX1_earliestDeadlineAt_37 rfl hl (by decide) rfl (fun ls hl => ?_)
      refine lv_iinc (v := nI (j + 1)) (lv' := [(3, .int (nI (j + 1))), (2, .int (nI (min x (fd j)))), (0, .ref h0), (1, .int (nI (t)))]) hx hb dX1_earliestDeadlineAt_38 hl (k := 3) rfl (zinc 1 _) (by decide) rfl (fun ls hl => ?_)
      refine lv_goto (tgt := 5) hx hb dX1_earliestDeadlineAt_41 (by decide) ?_
      exact ih (j + 1, min x (fd j)) ls (by show nc - (j + 1) < nc - j; omega) ⟨lv_sub hl [2, 3, 0, 1] rfl, by show _ = _; rw [erl_y (by assumption), ← hx1], by omega⟩

set_option maxHeartbeats 4000000 in
set_option maxRecDepth 100000 in
theorem c_X1_finish (l : Launch) (D : va_G) (cA : Nat → ClassId) (sz : Nat) (ws : va_W) (k0 h0 nc dn w f d : Nat) (hk : ws[k0]? = some (h0, zJobs nc dn w f d)) (kw : Nat) (fw : Nat → Int32) (hkw : ws[kw]? = some (w, zInts cA 60 fw)) (j : Nat) (hj : j < 60) : Met l yX1_finish wsX1_finish ({ frames := 1, cells := 0, slots := 0, locals := 22 }) (va_Pc [.ref h0, .int (nI (j))] (zM D cA (ws) sz)) (va_Qv (fun _ : Unit => True) (fun u => zB D (va_A (ws) sz) ((ws.set kw (w, zInts cA 60 (upd fw j (-1)))).set k0 (h0, zJobs nc (dn + 1) w f d))) (va_A (ws) sz)) 0 0 (va_A (ws) sz) := by
  refine zOpen (cc := cX1_finish) (maxL := 2) (ret := none) (own := RX1) (by decide) rfl rfl (Nat.le_of_ble_eq_true rfl) ?_
  intro p e s m below meth c ls hx hb hr hml hts hown hlocks hnm ⟨hZ, hP, hD0, hsz⟩ hl
  subst hsz
  have hD := hD0.self (sz := s.heap.size)
  generalize hAe : va_A (ws) s.heap.size = A at hD ⊢
  have hA : ∀ q : Nat, s.heap.size ≤ q → A q := fun q h => by rw [← hAe]; exact Or.inr h
  have hS : va_S A s.heap s.heap [] := va_S.rf
  have iX1 : ∀ w ∈ wsX10, w ∈ wsX1_finish := by decide +kernel
  have hl : lv_has ls 2 [(0, .ref h0), (1, .int (nI (j)))] := hl
  refine lv_aload_n hx hb dX1_finish_0 rfl (lv_at hl 0 rfl) ?_
  refine va_get (D := D) (ci := 1) (v := .ref w) (C := RX1) (T := TX1) (N := 5) hx hb hts iX1 hown hZ.1 hP k0 hk rfl 2 (by decide) (hts (.fieldLink RX1 18 "TapeRobotics$Jobs" "waitsAt" "[I") (by decide +kernel)) (fun _ h9 => h9) rfl dX1_finish_1 ?_
  refine lv_iload_n hx hb dX1_finish_4 rfl (lv_at hl 1 rfl) ?_
  refine lv_iconst (v := (-1)) hx hb dX1_finish_5 (by decide) ?_
  refine zw_SN_v (n := 3) (mc := 0) (ms := 0) (As := [.ref w, .int (nI (j)), .int ((-1))]) (rest := []) (w1 := fun _ : Unit => ws.set kw (w, zInts cA 60 (upd fw j ((-1))))) hx hb hml hts hown hZ hP hD hS hA (c_X4_put l D cA _ _ kw w 60 fw hkw j (by omega) (by omega) ((-1))) ggX1_finish_X4_put (List.mem_of_getElem? (i := 25) rfl) (by decide +kernel) rfl ⟨rfl, rfl⟩ ⟨by decide +kernel, Nat.le_of_ble_eq_true rfl, Nat.le_of_ble_eq_true rfl⟩ hl.1 rfl (Nat.le_of_ble_eq_true rfl) ⟨Nat.le_of_ble_eq_true rfl, Nat.le_of_ble_eq_true rfl⟩ rfl dX1_finish_6 (fun u_3 H locs hr_2 hP hD hS hz_3 => ?_)
  have hP : va_P D vwCl (ws.set kw (w, zInts cA 60 (upd fw j ((-1))))) H := hP
  have hD : va_D A (ws.set kw (w, zInts cA 60 (upd fw j ((-1))))) := hD
  refine lv_aload_n hx hb dX1_finish_9 rfl (lv_at hl 0 rfl) ?_
  refine lv_dup hx hb dX1_finish_10 rfl ?_
  refine va_get (D := D) (ci := 1) (v := .int (nI (dn))) (C := RX1) (T := TX1) (N := 5) hx hb hts iX1 hown hZ.1 hP k0 (zset_n hk (zapo' hkw hk)) rfl 1 (by decide) (hts (.fieldLink RX1 15 "TapeRobotics$Jobs" "doneCount" "I") (by decide +kernel)) (fun _ h9 => h9) rfl dX1_finish_11 ?_
  refine lv_iconst (v := nI (1)) hx hb dX1_finish_14 (by decide) ?_
  refine zo_add hx hb dX1_finish_15 ?_
  refine va_put (D := D) (ci := 1) (v := .int (nI (dn + 1))) (ty := .int) (C := RX1) (T := TX1) (N := 5) hx hb hts iX1 tyX1 tyX1_ok nmX1 hown hZ.1 hP hD hS k0 (zset_n hk (zapo' hkw hk)) rfl 1 (by decide) (hts (.fieldLink RX1 15 "TapeRobotics$Jobs" "doneCount" "I") (by decide +kernel)) (fun _ h9 => h9) rfl (by decide +kernel) rfl rfl (Nat.le_of_ble_eq_true rfl) dX1_finish_16 (fun H locs hP hD hS => ?_)
  have hP : va_P D vwCl ((ws.set kw (w, zInts cA 60 (upd fw j ((-1))))).set k0 (h0, .inr (1, [.int (nI (nc)), .int (nI (dn + 1)), .ref w, .ref f, .ref d]))) H := hP
  have hD : va_D A ((ws.set kw (w, zInts cA 60 (upd fw j ((-1))))).set k0 (h0, .inr (1, [.int (nI (nc)), .int (nI (dn + 1)), .ref w, .ref f, .ref d]))) := hD
  exact zr_qv (S := Unit) (w1 := fun u => (ws.set kw (w, zInts cA 60 (upd fw j (-1)))).set k0 (h0, zJobs nc (dn + 1) w f d)) () hx hb hr hlocks (trivial) hP hD hS (rfl) dX1_finish_19

set_option maxHeartbeats 4000000 in
set_option maxRecDepth 100000 in
theorem c_X1_enter (l : Launch) (D : va_G) (cA : Nat → ClassId) (sz : Nat) (ws : va_W) (k0 h0 nc dn w f d : Nat) (hk : ws[k0]? = some (h0, zJobs nc dn w f d)) (kw : Nat) (fw : Nat → Int32) (hkw : ws[kw]? = some (w, zInts cA 60 fw)) (kf : Nat) (ff : Nat → Nat) (hkf : ws[kf]? = some (f, zInts cA 60 (fun k => nI (ff k)))) (kd : Nat) (fd : Nat → Nat) (hkd : ws[kd]? = some (d, zInts cA 60 (fun k => nI (fd k)))) (t g e1 : Nat) (hn : nc < 60) (n1 : kw ≠ kf) (n2 : kw ≠ kd) (n3 : kf ≠ kd) : Met l yX1_enter wsX1_enter ({ frames := 1, cells := 0, slots := 0, locals := 22 }) (va_Pc [.ref h0, .int (nI (t)), .int (nI (g)), .int (nI (e1))] (zM D cA (ws) sz)) (va_Qi (fun (r : Int32) (u : Unit) => r = nI (nc)) (fun u => zB D (va_A (ws) sz) ((((ws.set kw (w, zInts cA 60 (upd fw nc (nI t)))).set kf (f, zInts cA 60 (upd (fun k => nI (ff k)) nc (nI g)))).set kd (d, zInts cA 60 (upd (fun k => nI (fd k)) nc (nI e1)))).set k0 (h0, zJobs (nc + 1) dn w f d))) (va_A (ws) sz)) 0 0 (va_A (ws) sz) := by
  refine zOpen (cc := cX1_enter) (maxL := 4) (ret := (some .int)) (own := RX1) (by decide) rfl rfl (Nat.le_of_ble_eq_true rfl) ?_
  intro p e s m below meth c ls hx hb hr hml hts hown hlocks hnm ⟨hZ, hP, hD0, hsz⟩ hl
  subst hsz
  have hD := hD0.self (sz := s.heap.size)
  generalize hAe : va_A (ws) s.heap.size = A at hD ⊢
  have hA : ∀ q : Nat, s.heap.size ≤ q → A q := fun q h => by rw [← hAe]; exact Or.inr h
  have hS : va_S A s.heap s.heap [] := va_S.rf
  have iX1 : ∀ w ∈ wsX10, w ∈ wsX1_enter := by decide +kernel
  have hl : lv_has ls 4 [(0, .ref h0), (1, .int (nI (t))), (2, .int (nI (g))), (3, .int (nI (e1)))] := hl
  refine lv_aload_n hx hb dX1_enter_0 rfl (lv_at hl 0 rfl) ?_
  refine va_get (D := D) (ci := 1) (v := .ref w) (C := RX1) (T := TX1) (N := 5) hx hb hts iX1 hown hZ.1 hP k0 hk rfl 2 (by decide) (hts (.fieldLink RX1 18 "TapeRobotics$Jobs" "waitsAt" "[I") (by decide +kernel)) (fun _ h9 => h9) rfl dX1_enter_1 ?_
  refine lv_aload_n hx hb dX1_enter_4 rfl (lv_at hl 0 rfl) ?_
  refine va_get (D := D) (ci := 1) (v := .int (nI (nc))) (C := RX1) (T := TX1) (N := 5) hx hb hts iX1 hown hZ.1 hP k0 hk rfl 0 (by decide) (hts (.fieldLink RX1 9 "TapeRobotics$Jobs" "count" "I") (by decide +kernel)) (fun _ h9 => h9) rfl dX1_enter_5 ?_
  refine lv_iload_n hx hb dX1_enter_8 rfl (lv_at hl 1 rfl) ?_
  refine zw_SN_v (n := 3) (mc := 0) (ms := 0) (As := [.ref w, .int (nI (nc)), .int (nI (t))]) (rest := []) (w1 := fun _ : Unit => ws.set kw (w, zInts cA 60 (upd fw nc (nI (t))))) hx hb hml hts hown hZ hP hD hS hA (c_X4_put l D cA _ _ kw w 60 fw hkw nc (by omega) (by omega) (nI (t))) ggX1_enter_X4_put (List.mem_of_getElem? (i := 25) rfl) (by decide +kernel) rfl ⟨rfl, rfl⟩ ⟨by decide +kernel, Nat.le_of_ble_eq_true rfl, Nat.le_of_ble_eq_true rfl⟩ hl.1 rfl (Nat.le_of_ble_eq_true rfl) ⟨Nat.le_of_ble_eq_true rfl, Nat.le_of_ble_eq_true rfl⟩ rfl dX1_enter_9 (fun u_3 H locs hr_2 hP hD hS hz_3 => ?_)
  have hP : va_P D vwCl (ws.set kw (w, zInts cA 60 (upd fw nc (nI (t))))) H := hP
  have hD : va_D A (ws.set kw (w, zInts cA 60 (upd fw nc (nI (t))))) := hD
  refine lv_aload_n hx hb dX1_enter_12 rfl (lv_at hl 0 rfl) ?_
  refine va_get (D := D) (ci := 1) (v := .ref f) (C := RX1) (T := TX1) (N := 5) hx hb hts iX1 hown hZ.1 hP k0 (zset_n hk (zapo' hkw hk)) rfl 3 (by decide) (hts (.fieldLink RX1 22 "TapeRobotics$Jobs" "files" "[I") (by decide +kernel)) (fun _ h9 => h9) rfl dX1_enter_13 ?_
  refine lv_aload_n hx hb dX1_enter_16 rfl (lv_at hl 0 rfl) ?_
  refine va_get (D := D) (ci := 1) (v := .int (nI (nc))) (C := RX1) (T := TX1) (N := 5) hx hb hts iX1 hown hZ.1 hP k0 (zset_n hk (zapo' hkw hk)) rfl 0 (by decide) (hts (.fieldLink RX1 9 "TapeRobotics$Jobs" "count" "I") (by decide +kernel)) (fun _ h9 => h9) rfl dX1_enter_17 ?_
  refine lv_iload_n hx hb dX1_enter_20 rfl (lv_at hl 2 rfl) ?_
  refine zw_SN_v (n := 3) (mc := 0) (ms := 0) (As := [.ref f, .int (nI (nc)), .int (nI (g))]) (rest := []) (w1 := fun _ : Unit => (ws.set kw (w, zInts cA 60 (upd fw nc (nI (t))))).set kf (f, zInts cA 60 (upd (fun k => nI (ff k)) nc (nI (g))))) hx hb hml hts hown hZ hP hD hS hA (c_X4_put l D cA _ _ kf f 60 (fun k => nI (ff k)) (zset_n hkf (n1)) nc (by omega) (by omega) (nI (g))) ggX1_enter_X4_put (List.mem_of_getElem? (i := 25) rfl) (by decide +kernel) rfl ⟨rfl, rfl⟩ ⟨by decide +kernel, Nat.le_of_ble_eq_true rfl, Nat.le_of_ble_eq_true rfl⟩ hl.1 rfl (Nat.le_of_ble_eq_true rfl) ⟨Nat.le_of_ble_eq_true rfl, Nat.le_of_ble_eq_true rfl⟩ rfl dX1_enter_21 (fun u_6 H locs hr_5 hP hD hS hz_6 => ?_)
  have hP : va_P D vwCl ((ws.set kw (w, zInts cA 60 (upd fw nc (nI (t))))).set kf (f, zInts cA 60 (upd (fun k => nI (ff k)) nc (nI (g))))) H := hP
  have hD : va_D A ((ws.set kw (w, zInts cA 60 (upd fw nc (nI (t))))).set kf (f, zInts cA 60 (upd (fun k => nI (ff k)) nc (nI (g))))) := hD
  refine lv_aload_n hx hb dX1_enter_24 rfl (lv_at hl 0 rfl) ?_
  refine va_get (D := D) (ci := 1) (v := .ref d) (C := RX1) (T := TX1) (N := 5) hx hb hts iX1 hown hZ.1 hP k0 (zset_n (zset_n hk (zapo' hkw hk)) (zapo' hkf hk)) rfl 4 (by decide) (hts (.fieldLink RX1 25 "TapeRobotics$Jobs" "deadlines" "[I") (by decide +kernel)) (fun _ h9 => h9) rfl dX1_enter_25 ?_
  refine lv_aload_n hx hb dX1_enter_28 rfl (lv_at hl 0 rfl) ?_
  refine va_get (D := D) (ci := 1) (v := .int (nI (nc))) (C := RX1) (T := TX1) (N := 5) hx hb hts iX1 hown hZ.1 hP k0 (zset_n (zset_n hk (zapo' hkw hk)) (zapo' hkf hk)) rfl 0 (by decide) (hts (.fieldLink RX1 9 "TapeRobotics$Jobs" "count" "I") (by decide +kernel)) (fun _ h9 => h9) rfl dX1_enter_29 ?_
  refine lv_iload_n hx hb dX1_enter_32 rfl (lv_at hl 3 rfl) ?_
  refine zw_SN_v (n := 3) (mc := 0) (ms := 0) (As := [.ref d, .int (nI (nc)), .int (nI (e1))]) (rest := []) (w1 := fun _ : Unit => ((ws.set kw (w, zInts cA 60 (upd fw nc (nI (t))))).set kf (f, zInts cA 60 (upd (fun k => nI (ff k)) nc (nI (g))))).set kd (d, zInts cA 60 (upd (fun k => nI (fd k)) nc (nI (e1))))) hx hb hml hts hown hZ hP hD hS hA (c_X4_put l D cA _ _ kd d 60 (fun k => nI (fd k)) (zset_n (zset_n hkd (n2)) (n3)) nc (by omega) (by omega) (nI (e1))) ggX1_enter_X4_put (List.mem_of_getElem? (i := 25) rfl) (by decide +kernel) rfl ⟨rfl, rfl⟩ ⟨by decide +kernel, Nat.le_of_ble_eq_true rfl, Nat.le_of_ble_eq_true rfl⟩ hl.1 rfl (Nat.le_of_ble_eq_true rfl) ⟨Nat.le_of_ble_eq_true rfl, Nat.le_of_ble_eq_true rfl⟩ rfl dX1_enter_33 (fun u_9 H locs hr_8 hP hD hS hz_9 => ?_)
  have hP : va_P D vwCl (((ws.set kw (w, zInts cA 60 (upd fw nc (nI (t))))).set kf (f, zInts cA 60 (upd (fun k => nI (ff k)) nc (nI (g))))).set kd (d, zInts cA 60 (upd (fun k => nI (fd k)) nc (nI (e1))))) H := hP
  have hD : va_D A (((ws.set kw (w, zInts cA 60 (upd fw nc (nI (t))))).set kf (f, zInts cA 60 (upd (fun k => nI (ff k)) nc (nI (g))))).set kd (d, zInts cA 60 (upd (fun k => nI (fd k)) nc (nI (e1))))) := hD
  refine lv_aload_n hx hb dX1_enter_36 rfl (lv_at hl 0 rfl) ?_
  refine lv_dup hx hb dX1_enter_37 rfl ?_
  refine va_get (D := D) (ci := 1) (v := .int (nI (nc))) (C := RX1) (T := TX1) (N := 5) hx hb hts iX1 hown hZ.1 hP k0 (zset_n (zset_n (zset_n hk (zapo' hkw hk)) (zapo' hkf hk)) (zapo' hkd hk)) rfl 0 (by decide) (hts (.fieldLink RX1 9 "TapeRobotics$Jobs" "count" "I") (by decide +kernel)) (fun _ h9 => h9) rfl dX1_enter_38 ?_
  refine lv_iconst (v := nI (1)) hx hb dX1_enter_41 (by decide) ?_
  refine zo_add hx hb dX1_enter_42 ?_
  refine va_put (D := D) (ci := 1) (v := .int (nI (nc + 1))) (ty := .int) (C := RX1) (T := TX1) (N := 5) hx hb hts iX1 tyX1 tyX1_ok nmX1 hown hZ.1 hP hD hS k0 (zset_n (zset_n (zset_n hk (zapo' hkw hk)) (zapo' hkf hk)) (zapo' hkd hk)) rfl 0 (by decide) (hts (.fieldLink RX1 9 "TapeRobotics$Jobs" "count" "I") (by decide +kernel)) (fun _ h9 => h9) rfl (by decide +kernel) rfl rfl (Nat.le_of_ble_eq_true rfl) dX1_enter_43 (fun H locs hP hD hS => ?_)
  have hP : va_P D vwCl ((((ws.set kw (w, zInts cA 60 (upd fw nc (nI (t))))).set kf (f, zInts cA 60 (upd (fun k => nI (ff k)) nc (nI (g))))).set kd (d, zInts cA 60 (upd (fun k => nI (fd k)) nc (nI (e1))))).set k0 (h0, .inr (1, [.int (nI (nc + 1)), .int (nI (dn)), .ref w, .ref f, .ref d]))) H := hP
  have hD : va_D A ((((ws.set kw (w, zInts cA 60 (upd fw nc (nI (t))))).set kf (f, zInts cA 60 (upd (fun k => nI (ff k)) nc (nI (g))))).set kd (d, zInts cA 60 (upd (fun k => nI (fd k)) nc (nI (e1))))).set k0 (h0, .inr (1, [.int (nI (nc + 1)), .int (nI (dn)), .ref w, .ref f, .ref d]))) := hD
  refine lv_aload_n hx hb dX1_enter_46 rfl (lv_at hl 0 rfl) ?_
  refine va_get (D := D) (ci := 1) (v := .int (nI (nc + 1))) (C := RX1) (T := TX1) (N := 5) hx hb hts iX1 hown hZ.1 hP k0 (zset_s (zset_n (zset_n (zset_n hk (zapo' hkw hk)) (zapo' hkf hk)) (zapo' hkd hk))) rfl 0 (by decide) (hts (.fieldLink RX1 9 "TapeRobotics$Jobs" "count" "I") (by decide +kernel)) (fun _ h9 => h9) rfl dX1_enter_47 ?_
  refine lv_iconst (v := nI (1)) hx hb dX1_enter_50 (by decide) ?_
  refine zo_sub hx hb (by omega) dX1_enter_51 ?_
  exact zr_qi (S := Unit) (w1 := fun u => (((ws.set kw (w, zInts cA 60 (upd fw nc (nI t)))).set kf (f, zInts cA 60 (upd (fun k => nI (ff k)) nc (nI g)))).set kd (d, zInts cA 60 (upd (fun k => nI (fd k)) nc (nI e1)))).set k0 (h0, zJobs (nc + 1) dn w f d)) () hx hb hr hlocks (by rw [Nat.add_sub_cancel]) hP hD hS (rfl) dX1_enter_52

set_option maxHeartbeats 4000000 in
set_option maxRecDepth 100000 in
theorem c_X1_collectAt (l : Launch) (D : va_G) (cA : Nat → ClassId) (sz : Nat) (ws : va_W) (k0 h0 nc dn w f d : Nat) (hk : ws[k0]? = some (h0, zJobs nc dn w f d)) (kw : Nat) (fw : Nat → Int32) (hkw : ws[kw]? = some (w, zInts cA 60 fw)) (t kg g ng : Nat) (fg : Nat → Int32) (hkg : ws[kg]? = some (g, zInts cA ng fg)) (hn : nc ≤ 60) (hng : (wl fw (nI t) nc).length ≤ ng) (hng2 : ng < 2 ^ 31) (n1 : kg ≠ kw)  : Met l yX1_collectAt wsX1_collectAt ({ frames := 1, cells := 0, slots := 0, locals := 22 }) (va_Pc [.ref h0, .int (nI (t)), .ref g] (zM D cA (ws) sz)) (va_Qi (fun (r : Int32) (u : Unit) => r = nI ((wl fw (nI t) nc).length)) (fun u => zB D (va_A (ws) sz) (ws.set kg (g, zInts cA ng (colF fg (wl fw (nI t) nc))))) (va_A (ws) sz)) 0 0 (va_A (ws) sz) := by
  refine zOpen (cc := cX1_collectAt) (maxL := 5) (ret := (some .int)) (own := RX1) (by decide) rfl rfl (Nat.le_of_ble_eq_true rfl) ?_
  intro p e s m below meth c ls hx hb hr hml hts hown hlocks hnm ⟨hZ, hP, hD0, hsz⟩ hl
  subst hsz
  have hD := hD0.self (sz := s.heap.size)
  generalize hAe : va_A (ws) s.heap.size = A at hD ⊢
  have hA : ∀ q : Nat, s.heap.size ≤ q → A q := fun q h => by rw [← hAe]; exact Or.inr h
  have hS : va_S A s.heap s.heap [] := va_S.rf
  have iX1 : ∀ w ∈ wsX10, w ∈ wsX1_collectAt := by decide +kernel
  have hl : lv_has ls 5 [(0, .ref h0), (1, .int (nI (t))), (2, .ref g)] := hl
  have hle := wl_le (f := fw) (x := nI t)
  have hP : va_P D vwCl (ws.set kg (g, zInts cA ng (colF fg (wl fw (nI t) 0)))) s.heap := by rw [wl_0, colF_0, zset_self hkg]; exact hP
  have hD : va_D A (ws.set kg (g, zInts cA ng (colF fg (wl fw (nI t) 0)))) := by rw [wl_0, colF_0, zset_self hkg]; exact hD
  refine lv_iconst (v := nI (0)) hx hb dX1_collectAt_0 (by decide) ?_
  refine lv_istore_n (lv' := [(3, .int (nI (0))), (0, .ref h0), (1, .int (nI (t))), (2, .ref g)]) hx hb dX1_collectAt_1 rfl hl (by decide) rfl (fun ls hl => ?_)
  refine lv_iconst (v := nI (0)) hx hb dX1_collectAt_2 (by decide) ?_
  refine lv_istore (lv' := [(4, .int (nI (0))), (3, .int (nI (0))), (0, .ref h0), (1, .int (nI (t))), (2, .ref g)]) hx hb dX1_collectAt_3 hl (by decide) rfl (fun ls hl => ?_)
  refine z_loopW (α := Nat × Nat) (fun v => nc - v.1) (fun v H locs ls => lv_has ls 5 [(0, .ref h0), (1, .int (nI (t))), (2, .ref g), (4, .int (nI (v.1))), (3, .int (nI (v.2)))] ∧ va_P D vwCl (ws.set kg (g, zInts cA ng (colF fg (wl fw (nI t) v.1)))) H ∧ va_D A (ws.set kg (g, zInts cA ng (colF fg (wl fw (nI t) v.1)))) ∧ va_S A s.heap H locs ∧ v.2 = (wl fw (nI t) v.1).length ∧ v.1 ≤ nc) (fun _ => []) (0, 0) ⟨lv_sub hl [2, 3, 4, 0, 1] rfl, hP, hD, hS, rfl, Nat.zero_le _⟩ ?_
  intro v ih H locs ls hv
  obtain ⟨j, x⟩ := v
  obtain ⟨hl, hP, hD, hS, hI⟩ := hv
  have hP : va_P D vwCl (ws.set kg (g, zInts cA ng (colF fg (wl fw (nI t) j)))) H := hP
  have hD : va_D A (ws.set kg (g, zInts cA ng (colF fg (wl fw (nI t) j)))) := hD
  have hl : lv_has ls 5 [(0, .ref h0), (1, .int (nI (t))), (2, .ref g), (4, .int (nI (j))), (3, .int (nI (x)))] := hl
  have hI : x = (wl fw (nI t) j).length ∧ j ≤ nc := hI
  obtain ⟨hx1, hj⟩ := hI
  have hxl := hle j
  refine lv_iload hx hb dX1_collectAt_5 (lv_at hl 3 rfl) ?_
  refine lv_aload_n hx hb dX1_collectAt_7 rfl (lv_at hl 0 rfl) ?_
  refine va_get (D := D) (ci := 1) (v := .int (nI (nc))) (C := RX1) (T := TX1) (N := 5) hx hb hts iX1 hown hZ.1 hP k0 (zset_n hk (zapo' hkg hk)) rfl 0 (by decide) (hts (.fieldLink RX1 9 "TapeRobotics$Jobs" "count" "I") (by decide +kernel)) (fun _ h9 => h9) rfl dX1_collectAt_8 ?_
  refine zc_ge (tgt := 43) hx hb (by omega) (by omega) dX1_collectAt_11 (by decide) (fun c_1 => ?_) (fun c_1 => ?_)
  · refine lv_iload_n hx hb dX1_collectAt_43 rfl (lv_at hl 4 rfl) ?_
    refine lv_aload_n hx hb dX1_collectAt_44 rfl (lv_at hl 2 rfl) ?_
    refine va_alen (v := nI (ng)) hx hb hZ.1 hP kg 0 (zset_s hkg) rfl rfl dX1_collectAt_45 ?_
    refine va_mmin hx hb (hml.trans hl.1.symm) hown (hts (.methodLink RX1 37 Lib.Math.min.name) (by decide +kernel)) (hts (.static Lib.Math.min.name) (by decide +kernel)) (hts (.initialized "java/lang/Math") (by decide +kernel)) (hts (.code Lib.Math.min.name Lib.Math.min.code 2 (some .int)) (by decide +kernel)) (Nat.le_of_ble_eq_true rfl) (Nat.le_of_ble_eq_true rfl) (Nat.le_of_ble_eq_true rfl) (Nat.le_of_ble_eq_true rfl) dX1_collectAt_46 ?_
    refine zx_val (zm_min (by omega) (by omega)) ?_
    exact zr_qi (S := Unit) (w1 := fun u => ws.set kg (g, zInts cA ng (colF fg (wl fw (nI t) nc)))) () hx hb hr hlocks (by rw [Nat.min_eq_left (by rw [hx1, show j = nc by omega]; exact hng), hx1, show j = nc by omega]) hP hD hS (by rw [show j = nc by omega]) dX1_collectAt_49
  · refine lv_aload_n hx hb dX1_collectAt_14 rfl (lv_at hl 0 rfl) ?_
    refine va_get (D := D) (ci := 1) (v := .ref w) (C := RX1) (T := TX1) (N := 5) hx hb hts iX1 hown hZ.1 hP k0 (zset_n hk (zapo' hkg hk)) rfl 2 (by decide) (hts (.fieldLink RX1 18 "TapeRobotics$Jobs" "waitsAt" "[I") (by decide +kernel)) (fun _ h9 => h9) rfl dX1_collectAt_15 ?_
    refine lv_iload hx hb dX1_collectAt_18 (lv_at hl 3 rfl) ?_
    refine zk_SN_i (n := 2) (As := [.ref w, .int (nI (j))]) (rest := []) hx hb hml hts hown hZ hP (c_X4_at l D cA _ kw w 60 fw (zset_n hkw n1) j (by omega) (by omega)) ggX1_collectAt_X4_at (List.mem_of_getElem? (i := 4) rfl) (by decide +kernel) rfl ⟨rfl, rfl⟩ ⟨by decide +kernel, Nat.le_of_ble_eq_true rfl, Nat.le_of_ble_eq_true rfl⟩ hl.1 rfl (Nat.le_of_ble_eq_true rfl) ⟨Nat.zero_le _, Nat.zero_le _⟩ rfl dX1_collectAt_20 (fun r_2 hr_3 => ?_)
    obtain rfl := show r_2 = _ from hr_3
    refine lv_iload_n hx hb dX1_collectAt_23 rfl (lv_at hl 1 rfl) ?_
    refine lv_icmp_ne (tgt := 37) hx hb dX1_collectAt_24 (by decide) (fun c_4 => ?_) (fun c_4 => ?_)
    · rw [← wl_n (n := j) (by assumption)] at hP hD
      refine lv_iinc (v := nI (j + 1)) (lv' := [(4, .int (nI (j + 1))), (0, .ref h0), (1, .int (nI (t))), (2, .ref g), (3, .int (nI (x)))]) hx hb dX1_collectAt_37 hl (k := 3) rfl (zinc 1 _) (by decide) rfl (fun ls hl => ?_)
      refine lv_goto (tgt := 5) hx hb dX1_collectAt_40 (by decide) ?_
      exact ih (j + 1, x) H locs ls (by show nc - (j + 1) < nc - j; omega) ⟨lv_sub hl [1, 2, 3, 0, 4] rfl, hP, hD, hS, by show _ = _; rw [wl_n (by assumption)]; exact hx1, by omega⟩
    · refine lv_aload_n hx hb dX1_collectAt_27 rfl (lv_at hl 2 rfl) ?_
      refine lv_iload_n hx hb dX1_collectAt_28 rfl (lv_at hl 4 rfl) ?_
      refine lv_iload hx hb dX1_collectAt_29 (lv_at hl 3 rfl) ?_
      have hlt : x < ng := by
        have h1 := wl_mono (f := fw) (x := nI t) (m := j + 1) nc (by omega)
        rw [wl_y (by assumption), List.length_append] at h1
        simp at h1; omega
      refine zw_SN_v (n := 3) (mc := 0) (ms := 0) (As := [.ref g, .int (nI (x)), .int (nI (j))]) (rest := []) (w1 := fun _ : Unit => (ws.set kg (g, zInts cA ng (colF fg (wl fw (nI t) j)))).set kg (g, zInts cA ng (upd (colF fg (wl fw (nI t) j)) x (nI (j))))) hx hb hml hts hown hZ hP hD hS hA (c_X4_put l D cA _ _ kg g ng (colF fg (wl fw (nI t) j)) (zset_s hkg) x (by omega) (by omega) (nI (j))) ggX1_collectAt_X4_put (List.mem_of_getElem? (i := 25) rfl) (by decide +kernel) rfl ⟨rfl, rfl⟩ ⟨by decide +kernel, Nat.le_of_ble_eq_true rfl, Nat.le_of_ble_eq_true rfl⟩ hl.1 rfl (Nat.le_of_ble_eq_true rfl) ⟨Nat.le_of_ble_eq_true rfl, Nat.le_of_ble_eq_true rfl⟩ rfl dX1_collectAt_31 (fun u_7 H locs hr_6 hP hD hS hz_7 => ?_)
      have hP : va_P D vwCl ((ws.set kg (g, zInts cA ng (colF fg (wl fw (nI t) j)))).set kg (g, zInts cA ng (upd (colF fg (wl fw (nI t) j)) x (nI (j))))) H := hP
      have hD : va_D A ((ws.set kg (g, zInts cA ng (colF fg (wl fw (nI t) j)))).set kg (g, zInts cA ng (upd (colF fg (wl fw (nI t) j)) x (nI (j))))) := hD
      rw [zset2, hx1, colF_y, ← wl_y (by assumption)] at hP hD
      refine lv_iinc (v := nI (x + 1)) (lv' := [(3, .int (nI (x + 1))), (0, .ref h0), (1, .int (nI (t))), (2, .ref g), (4, .int (nI (j)))]) hx hb dX1_collectAt_34 hl (k := 4) rfl (zinc 1 _) (by decide) rfl (fun ls hl => ?_)
      refine lv_iinc (v := nI (j + 1)) (lv' := [(4, .int (nI (j + 1))), (3, .int (nI (x + 1))), (0, .ref h0), (1, .int (nI (t))), (2, .ref g)]) hx hb dX1_collectAt_37 hl (k := 4) rfl (zinc 1 _) (by decide) rfl (fun ls hl => ?_)
      refine lv_goto (tgt := 5) hx hb dX1_collectAt_40 (by decide) ?_
      exact ih (j + 1, x + 1) H locs ls (by show nc - (j + 1) < nc - j; omega) ⟨lv_sub hl [2, 3, 4, 0, 1] rfl, hP, hD, hS, by show _ = _; rw [wl_y (by assumption), List.length_append, ← hx1]; rfl, by omega⟩
