set_option maxHeartbeats 4000000 in
set_option maxRecDepth 100000 in
theorem c_X5_run (l : Launch) (D : va_G) (cA : Nat → ClassId) (sz : Nat) (ws : va_W) {gd : Nat → Nat} {n : Nat} {tr : Nat → Nat} {le : Nat → Nat} {sl : Nat → Nat} {mo : Nat → Option Nat} {la : Nat → Bool} {fc : Nat → Nat} {sf : Nat → Int32} {bf : Nat → Int32} {nd : Nat} {mk : Nat → Nat} {ck : Nat → Int32} {ct : Nat → Nat} {hd : Nat → Option Nat} {pf : Nat → Int32} {nj : Nat} {jt : Nat → Int32} {jf : Nat → Nat} {dl : Nat → Nat} {fin : Nat → Bool} {my : Nat} {fls : Nat → Int32} {fod : Nat → Int32} {fle : Nat → Int32} {fro : Nat → Int32} {th : Nat} (hm : mL cA ws gd n tr le sl mo la fc sf bf nd mk ck ct hd pf nj jt jf dl fin my fls fod fle fro th) (j9 t9 P9 a9 b9 : Nat) (hj9 : j9 < 3) (hht : hd j9 = some t9) (hmk : mk j9 ≤ 1) (hpf : pf j9 = nI P9) (hP9 : P9 ≤ tr t9 * le t9) (hab : a9 + b9 ≤ tr t9 * le t9) (ht9 : t9 < 8) (htr : 1 ≤ tr t9 ∧ tr t9 ≤ 8) (hle : 4 ≤ le t9 ∧ le t9 ≤ 200) : Met l yX5_run wsX5_run ({ frames := 3, cells := 0, slots := 0, locals := 74 }) (va_Pc [.ref (gd 0), .int (nI (j9)), .int (nI (a9)), .int (nI (b9))] (zM D cA (ws) sz)) (va_Qi (fun (r : Int32) (u : va_W) => r = nI (wayT (zpa (mk j9)) (zsp (mk j9)) (tr t9) (le t9) P9 a9 + 3 * b9) ∧ mKeep ws u ∧ mL cA u gd n tr le sl mo la fc sf bf nd mk (va_up ck j9 ((ck j9) + (nI (wayT (zpa (mk j9)) (zsp (mk j9)) (tr t9) (le t9) P9 a9 + 3 * b9)))) (va_up ct j9 (ct j9 + 1)) hd (va_up pf j9 (nI (a9 + b9))) nj jt jf dl fin my fls fod fle fro th) (fun u => zB D (va_A (ws) sz) (u)) (va_A (ws) sz)) 0 0 (va_A (ws) sz) := by
  refine zOpen (cc := cX5_run) (maxL := 5) (ret := (some .int)) (own := RX5) (by decide) rfl rfl (Nat.le_of_ble_eq_true rfl) ?_
  intro p e s m below meth c ls hx hb hr hml hts hown hlocks hnm ⟨hZ, hP, hD0, hsz⟩ hl
  subst hsz
  have hD := hD0.self (sz := s.heap.size)
  generalize hAe : va_A (ws) s.heap.size = A at hD ⊢
  have hA : ∀ q : Nat, s.heap.size ≤ q → A q := fun q h => by rw [← hAe]; exact Or.inr h
  have hS : va_S A s.heap s.heap [] := va_S.rf
  have iX5 : ∀ w ∈ wsX50, w ∈ wsX5_run := by decide +kernel
  have hl : lv_has ls 5 [(0, .ref (gd 0)), (1, .int (nI (j9))), (2, .int (nI (a9))), (3, .int (nI (b9)))] := hl
  have hm0 := hm
  obtain ⟨m0, m1, m2, m3, m4, m5, m6, m7, m8, m9, m10, m11, m12, m13, m14, m15, m16, m17, m18, m19, m20, m21⟩ := hm
  have hmul : tr t9 * le t9 ≤ 8 * 200 := Nat.mul_le_mul (by omega) (by omega)
  refine lv_aload_n hx hb dX5_run_0 rfl (lv_at hl 0 rfl) ?_
  refine lv_iload_n hx hb dX5_run_1 rfl (lv_at hl 1 rfl) ?_
  refine lv_aload_n hx hb dX5_run_2 rfl (lv_at hl 0 rfl) ?_
  refine va_get (D := D) (ci := 5) (v := .ref (gd 13)) (C := RX5) (T := TX5) (N := 26) hx hb hts iX5 hown hZ.1 hP 0 m0 rfl 14 (by decide) (hts (.fieldLink RX5 47 "TapeRoboticsModel" "stand" "[I") (by decide +kernel)) (fun _ h9 => h9) rfl dX5_run_3 ?_
  refine lv_iload_n hx hb dX5_run_6 rfl (lv_at hl 1 rfl) ?_
  refine va_iald hx hb hZ.1 hP 13 0 m13 rfl (vp_in_nI (show j9 < 3 by omega) (by omega)) dX5_run_7 ?_
  rw [nI_clamp (show j9 < 2 ^ 31 by omega)]
  refine zx_val (y := nI (P9)) (hpf) ?_
  refine lv_iload_n hx hb dX5_run_8 rfl (lv_at hl 2 rfl) ?_
  refine zk_V_i (n := 3) (As := [.int (nI (j9)), .int (nI (P9)), .int (nI (a9))]) (rest := []) hx hb hml hts hown hZ hP (c_X5_way l D cA _ hm0 j9 t9 P9 a9 hj9 hht hmk (by omega) (by omega) ht9 htr hle) gX5_run_X5_way rfl rfl ⟨rfl, rfl⟩ ⟨by decide +kernel, Nat.le_of_ble_eq_true rfl, Nat.le_of_ble_eq_true rfl⟩ m0 rfl hl.1 rfl (Nat.le_of_ble_eq_true rfl) ⟨Nat.le_of_ble_eq_true rfl, Nat.le_of_ble_eq_true rfl⟩ rfl dX5_run_9 (fun r_1 hr_2 => ?_)
  obtain rfl := show r_1 = _ from hr_2
  refine lv_iconst (v := nI (3)) hx hb dX5_run_12 (by decide) ?_
  refine lv_iload_n hx hb dX5_run_13 rfl (lv_at hl 3 rfl) ?_
  refine zo_mul hx hb dX5_run_14 ?_
  refine zo_add hx hb dX5_run_15 ?_
  refine lv_istore (lv' := [(4, .int (nI ((wayT (zpa (mk j9)) (zsp (mk j9)) (tr t9) (le t9) P9 a9) + (3 * b9)))), (0, .ref (gd 0)), (1, .int (nI (j9))), (2, .int (nI (a9))), (3, .int (nI (b9)))]) hx hb dX5_run_16 hl (by decide) rfl (fun ls hl => ?_)
  refine lv_aload_n hx hb dX5_run_18 rfl (lv_at hl 1 rfl) ?_
  refine va_get (D := D) (ci := 5) (v := .ref (gd 13)) (C := RX5) (T := TX5) (N := 26) hx hb hts iX5 hown hZ.1 hP 0 m0 rfl 14 (by decide) (hts (.fieldLink RX5 47 "TapeRoboticsModel" "stand" "[I") (by decide +kernel)) (fun _ h9 => h9) rfl dX5_run_19 ?_
  refine lv_iload_n hx hb dX5_run_22 rfl (lv_at hl 2 rfl) ?_
  refine lv_iload_n hx hb dX5_run_23 rfl (lv_at hl 3 rfl) ?_
  refine lv_iload_n hx hb dX5_run_24 rfl (lv_at hl 4 rfl) ?_
  refine zo_add hx hb dX5_run_25 ?_
  refine va_iast hx hb hZ.1 hP hD hS 13 0 m13 rfl (vp_in_nI (show j9 < 3 by omega) (by omega)) dX5_run_26 (fun H locs hP hD hS => ?_)
  rw [nI_clamp (show j9 < 2 ^ 31 by omega)] at hP hD
  have hP : va_P D vwCl (ws.set 13 (gd 13, zInts cA 3 (va_up pf j9 (nI (a9 + b9))))) H := hP
  have hD : va_D A (ws.set 13 (gd 13, zInts cA 3 (va_up pf j9 (nI (a9 + b9))))) := hD
  refine lv_aload_n hx hb dX5_run_27 rfl (lv_at hl 1 rfl) ?_
  refine va_get (D := D) (ci := 5) (v := .ref (gd 10)) (C := RX5) (T := TX5) (N := 26) hx hb hts iX5 hown hZ.1 hP 0 (zset_n m0 (by decide)) rfl 11 (by decide) (hts (.fieldLink RX5 38 "TapeRoboticsModel" "clock" "[I") (by decide +kernel)) (fun _ h9 => h9) rfl dX5_run_28 ?_
  refine lv_iload_n hx hb dX5_run_31 rfl (lv_at hl 2 rfl) ?_
  refine lv_dup2_11 hx hb dX5_run_32 rfl rfl ?_
  refine va_iald hx hb hZ.1 hP 10 0 (zset_n m10 (by decide)) rfl (vp_in_nI (show j9 < 3 by omega) (by omega)) dX5_run_33 ?_
  rw [nI_clamp (show j9 < 2 ^ 31 by omega)]
  refine lv_iload hx hb dX5_run_34 (lv_at hl 0 rfl) ?_
  refine lv_iadd hx hb dX5_run_36 ?_
  refine va_iast hx hb hZ.1 hP hD hS 10 0 (zset_n m10 (by decide)) rfl (vp_in_nI (show j9 < 3 by omega) (by omega)) dX5_run_37 (fun H locs hP hD hS => ?_)
  rw [nI_clamp (show j9 < 2 ^ 31 by omega)] at hP hD
  have hP : va_P D vwCl ((ws.set 13 (gd 13, zInts cA 3 (va_up pf j9 (nI (a9 + b9))))).set 10 (gd 10, zInts cA 3 (va_up ck j9 ((ck j9) + (nI ((wayT (zpa (mk j9)) (zsp (mk j9)) (tr t9) (le t9) P9 a9) + (3 * b9))))))) H := hP
  have hD : va_D A ((ws.set 13 (gd 13, zInts cA 3 (va_up pf j9 (nI (a9 + b9))))).set 10 (gd 10, zInts cA 3 (va_up ck j9 ((ck j9) + (nI ((wayT (zpa (mk j9)) (zsp (mk j9)) (tr t9) (le t9) P9 a9) + (3 * b9))))))) := hD
  refine lv_aload_n hx hb dX5_run_38 rfl (lv_at hl 1 rfl) ?_
  refine va_get (D := D) (ci := 5) (v := .ref (gd 11)) (C := RX5) (T := TX5) (N := 26) hx hb hts iX5 hown hZ.1 hP 0 (zset_n (zset_n m0 (by decide)) (by decide)) rfl 12 (by decide) (hts (.fieldLink RX5 41 "TapeRoboticsModel" "count" "[I") (by decide +kernel)) (fun _ h9 => h9) rfl dX5_run_39 ?_
  refine lv_iload_n hx hb dX5_run_42 rfl (lv_at hl 2 rfl) ?_
  refine lv_dup2_11 hx hb dX5_run_43 rfl rfl ?_
  refine va_iald hx hb hZ.1 hP 11 0 (zset_n (zset_n m11 (by decide)) (by decide)) rfl (vp_in_nI (show j9 < 3 by omega) (by omega)) dX5_run_44 ?_
  rw [nI_clamp (show j9 < 2 ^ 31 by omega)]
  refine lv_iconst (v := nI (1)) hx hb dX5_run_45 (by decide) ?_
  refine zo_add hx hb dX5_run_46 ?_
  refine va_iast hx hb hZ.1 hP hD hS 11 0 (zset_n (zset_n m11 (by decide)) (by decide)) rfl (vp_in_nI (show j9 < 3 by omega) (by omega)) dX5_run_47 (fun H locs hP hD hS => ?_)
  rw [nI_clamp (show j9 < 2 ^ 31 by omega)] at hP hD
  rw [upd_nI] at hP hD
  have hP : va_P D vwCl (((ws.set 13 (gd 13, zInts cA 3 (va_up pf j9 (nI (a9 + b9))))).set 10 (gd 10, zInts cA 3 (va_up ck j9 ((ck j9) + (nI ((wayT (zpa (mk j9)) (zsp (mk j9)) (tr t9) (le t9) P9 a9) + (3 * b9))))))).set 11 (gd 11, zInts cA 3 (fun k => nI ((va_up ct j9 ((ct j9) + 1)) k)))) H := hP
  have hD : va_D A (((ws.set 13 (gd 13, zInts cA 3 (va_up pf j9 (nI (a9 + b9))))).set 10 (gd 10, zInts cA 3 (va_up ck j9 ((ck j9) + (nI ((wayT (zpa (mk j9)) (zsp (mk j9)) (tr t9) (le t9) P9 a9) + (3 * b9))))))).set 11 (gd 11, zInts cA 3 (fun k => nI ((va_up ct j9 ((ct j9) + 1)) k)))) := hD
  refine lv_iload hx hb dX5_run_48 (lv_at hl 0 rfl) ?_
  exact zr_qi (S := va_W) (w1 := fun u => u) (((ws.set 13 (gd 13, zInts cA 3 (va_up pf j9 (nI (a9 + b9))))).set 10 (gd 10, zInts cA 3 (va_up ck j9 ((ck j9) + (nI ((wayT (zpa (mk j9)) (zsp (mk j9)) (tr t9) (le t9) P9 a9) + (3 * b9))))))).set 11 (gd 11, zInts cA 3 (fun k => nI ((va_up ct j9 ((ct j9) + 1)) k)))) hx hb hr hlocks (⟨rfl, (mKeep_set (mKeep_set (mKeep_set mKeep_rf (by decide)) (by decide)) (by decide)), (mL_11 (mL_10 (mL_13 hm0 ((va_up pf j9 (nI (a9 + b9))))) ((va_up ck j9 ((ck j9) + (nI ((wayT (zpa (mk j9)) (zsp (mk j9)) (tr t9) (le t9) P9 a9) + (3 * b9))))))) ((va_up ct j9 ((ct j9) + 1))))⟩) hP hD hS (rfl) dX5_run_50

set_option maxHeartbeats 4000000 in
set_option maxRecDepth 100000 in
theorem c_X5_listJobs (l : Launch) (D : va_G) (cA : Nat → ClassId) (sz : Nat) (ws : va_W) {gd : Nat → Nat} {n : Nat} {tr : Nat → Nat} {le : Nat → Nat} {sl : Nat → Nat} {mo : Nat → Option Nat} {la : Nat → Bool} {fc : Nat → Nat} {sf : Nat → Int32} {bf : Nat → Int32} {nd : Nat} {mk : Nat → Nat} {ck : Nat → Int32} {ct : Nat → Nat} {hd : Nat → Option Nat} {pf : Nat → Int32} {nj : Nat} {jt : Nat → Int32} {jf : Nat → Nat} {dl : Nat → Nat} {fin : Nat → Bool} {my : Nat} {fls : Nat → Int32} {fod : Nat → Int32} {fle : Nat → Int32} {fro : Nat → Int32} {th : Nat} (hm : mL cA ws gd n tr le sl mo la fc sf bf nd mk ck ct hd pf nj jt jf dl fin my fls fod fle fro th) (fw : Nat → Int32) (hfw : ∀ k, k < nj → fw k = if fin k then -1 else jt k) (j9 t9 : Nat) (hj9 : j9 < 3) (hht : hd j9 = some t9) (hj60 : nj ≤ 60) (ht9 : t9 < 8) (hw7 : (wl fw (nI t9) nj).length ≤ 7) : Met l yX5_listJobs wsX5_listJobs ({ frames := 1, cells := 0, slots := 0, locals := 22 }) (va_Pc [.ref (gd 0), .int (nI (j9))] (zM D cA (ws) sz)) (va_Qv (fun u : va_W => mKeep ws u ∧ mL cA u gd n tr le sl mo la fc sf bf nd mk ck ct hd pf nj jt jf dl fin (wl fw (nI t9) nj).length (colF fls (wl fw (nI t9) nj)) fod fle fro th) (fun u => zB D (va_A (ws) sz) (u)) (va_A (ws) sz)) 0 0 (va_A (ws) sz) := by
  refine zOpen (cc := cX5_listJobs) (maxL := 3) (ret := none) (own := RX5) (by decide) rfl rfl (Nat.le_of_ble_eq_true rfl) ?_
  intro p e s m below meth c ls hx hb hr hml hts hown hlocks hnm ⟨hZ, hP, hD0, hsz⟩ hl
  subst hsz
  have hD := hD0.self (sz := s.heap.size)
  generalize hAe : va_A (ws) s.heap.size = A at hD ⊢
  have hA : ∀ q : Nat, s.heap.size ≤ q → A q := fun q h => by rw [← hAe]; exact Or.inr h
  have hS : va_S A s.heap s.heap [] := va_S.rf
  have iX5 : ∀ w ∈ wsX50, w ∈ wsX5_listJobs := by decide +kernel
  have hl : lv_has ls 3 [(0, .ref (gd 0)), (1, .int (nI (j9)))] := hl
  have hm0 := hm
  obtain ⟨m0, m1, m2, m3, m4, m5, m6, m7, m8, m9, m10, m11, m12, m13, m14, m15, m16, m17, m18, m19, m20, m21⟩ := hm
  refine lv_aload_n hx hb dX5_listJobs_0 rfl (lv_at hl 0 rfl) ?_
  refine lv_iconst (v := nI (0)) hx hb dX5_listJobs_1 (by decide) ?_
  refine va_put (D := D) (ci := 5) (v := .int (nI (0))) (ty := .int) (C := RX5) (T := TX5) (N := 26) hx hb hts iX5 tyX5 tyX5_ok nmX5 hown hZ.1 hP hD hS 0 m0 rfl 20 (by decide) (hts (.fieldLink RX5 164 "TapeRoboticsModel" "many" "I") (by decide +kernel)) (fun _ h9 => h9) rfl (by decide +kernel) rfl rfl (Nat.le_of_ble_eq_true rfl) dX5_listJobs_2 (fun H locs hP hD hS => ?_)
  have hP : va_P D vwCl (ws.set 0 (gd 0, zMod gd n nd nj 0 th)) H := hP
  have hD : va_D A (ws.set 0 (gd 0, zMod gd n nd nj 0 th)) := hD
  refine lv_iconst (v := nI (0)) hx hb dX5_listJobs_5 (by decide) ?_
  refine lv_istore_n (lv' := [(2, .int (nI (0))), (0, .ref (gd 0)), (1, .int (nI (j9)))]) hx hb dX5_listJobs_6 rfl hl (by decide) rfl (fun ls hl => ?_)
  refine z_loopW (α := Nat × va_W) (fun v => nj - v.1) (fun v H locs ls => lv_has ls 3 [(0, .ref (gd 0)), (1, .int (nI (j9))), (2, .int (nI (v.1)))] ∧ va_P D vwCl (v.2) H ∧ va_D A (v.2) ∧ va_S A s.heap H locs ∧ mKeep ws v.2 ∧ mL cA v.2 gd n tr le sl mo la fc sf bf nd mk ck ct hd pf nj jt jf dl fin (wl fw (nI t9) v.1).length (colF fls (wl fw (nI t9) v.1)) fod fle fro th ∧ v.1 ≤ nj) (fun _ => []) (0, (ws.set 0 (gd 0, zMod gd n nd nj 0 th))) ⟨lv_sub hl [1, 2, 0] rfl, hP, hD, hS, (mKeep_set mKeep_rf (by decide)), (by have h9 := mL_18 (mL_0 hm0 n nd nj 0 th) (colF fls []); rw [colF_0, zset_self (zset_n m18 (by decide))] at h9; rw [show wl fw (nI t9) 0 = [] from rfl, colF_0]; exact h9), Nat.zero_le _⟩ ?_
  intro v ih7 H locs ls hv
  obtain ⟨j, w9⟩ := v
  obtain ⟨hl, hP, hD, hS, hI⟩ := hv
  have hP : va_P D vwCl (w9) H := hP
  have hD : va_D A (w9) := hD
  have hl : lv_has ls 3 [(0, .ref (gd 0)), (1, .int (nI (j9))), (2, .int (nI (j)))] := hl
  have hI : mKeep ws w9 ∧ mL cA w9 gd n tr le sl mo la fc sf bf nd mk ck ct hd pf nj jt jf dl fin (wl fw (nI t9) j).length (colF fls (wl fw (nI t9) j)) fod fle fro th ∧ j ≤ nj := hI
  obtain ⟨hkp9, hm0, hI⟩ := hI
  obtain ⟨m0, m1, m2, m3, m4, m5, m6, m7, m8, m9, m10, m11, m12, m13, m14, m15, m16, m17, m18, m19, m20, m21⟩ := id hm0
  have hj : j ≤ nj := hI
  refine lv_iload_n hx hb dX5_listJobs_7 rfl (lv_at hl 2 rfl) ?_
  refine lv_aload_n hx hb dX5_listJobs_8 rfl (lv_at hl 0 rfl) ?_
  refine va_get (D := D) (ci := 5) (v := .int (nI (nj))) (C := RX5) (T := TX5) (N := 26) hx hb hts iX5 hown hZ.1 hP 0 m0 rfl 15 (by decide) (hts (.fieldLink RX5 144 "TapeRoboticsModel" "jobs" "I") (by decide +kernel)) (fun _ h9 => h9) rfl dX5_listJobs_9 ?_
  refine zc_ge (tgt := 55) hx hb (by omega) (by omega) dX5_listJobs_12 (by decide) (fun c_1 => ?_) (fun c_1 => ?_)
  · exact zr_qv (S := va_W) (w1 := fun u => u) w9 hx hb hr hlocks (⟨hkp9, (by have h9 := hm0; rw [show j = nj by omega] at h9; exact h9)⟩) hP hD hS (rfl) dX5_listJobs_55
  · refine lv_aload_n hx hb dX5_listJobs_15 rfl (lv_at hl 0 rfl) ?_
    refine lv_iload_n hx hb dX5_listJobs_16 rfl (lv_at hl 2 rfl) ?_
    refine lv_aload_n hx hb dX5_listJobs_17 rfl (lv_at hl 0 rfl) ?_
    refine va_get (D := D) (ci := 5) (v := .ref (gd 12)) (C := RX5) (T := TX5) (N := 26) hx hb hts iX5 hown hZ.1 hP 0 m0 rfl 13 (by decide) (hts (.fieldLink RX5 44 "TapeRoboticsModel" "held" "[I") (by decide +kernel)) (fun _ h9 => h9) rfl dX5_listJobs_18 ?_
    refine lv_iload_n hx hb dX5_listJobs_21 rfl (lv_at hl 1 rfl) ?_
    refine va_iald hx hb hZ.1 hP 12 0 m12 rfl (vp_in_nI (show j9 < 3 by omega) (by omega)) dX5_listJobs_22 ?_
    rw [nI_clamp (show j9 < 2 ^ 31 by omega)]
    refine zx_val (y := nI (t9)) (by rw [hht]; rfl) ?_
    refine zk_V_i (n := 2) (As := [.int (nI (j)), .int (nI (t9))]) (rest := []) hx hb hml hts hown hZ hP (c_X5_waits l D cA _ hm0 fw hfw j t9 (by omega) (by omega) (by omega)) gX5_listJobs_X5_waits rfl rfl ⟨rfl, rfl⟩ ⟨by decide +kernel, Nat.le_of_ble_eq_true rfl, Nat.le_of_ble_eq_true rfl⟩ m0 rfl hl.1 rfl (Nat.le_of_ble_eq_true rfl) ⟨Nat.le_of_ble_eq_true rfl, Nat.le_of_ble_eq_true rfl⟩ rfl dX5_listJobs_23 (fun r_2 hr_3 => ?_)
    obtain rfl := show r_2 = _ from hr_3
    refine zb_eq (tgt := 49) hx hb dX5_listJobs_26 (by decide) (fun c_4 => ?_) (fun c_4 => ?_)
    · refine lv_iinc (v := nI (j + 1)) (lv' := [(2, .int (nI (j + 1))), (0, .ref (gd 0)), (1, .int (nI (j9)))]) hx hb dX5_listJobs_49 hl (k := 2) rfl (zinc 1 _) (by decide) rfl (fun ls hl => ?_)
      refine lv_goto (tgt := 7) hx hb dX5_listJobs_52 (by decide) ?_
      exact ih7 (j + 1, w9) H locs ls (by first | omega | (dsimp only; omega)) ⟨lv_sub hl [1, 2, 0] rfl, hP, hD, hS, hkp9, (by show mL cA w9 gd n tr le sl mo la fc sf bf nd mk ck ct hd pf nj jt jf dl fin (wl fw (nI t9) (j + 1)).length (colF fls (wl fw (nI t9) (j + 1))) fod fle fro th; rw [wl_n (of_decide_eq_false (by assumption))]; exact hm0), by first | omega | (dsimp only; omega)⟩
    · have hyes : fw j = nI t9 := of_decide_eq_true (by assumption)
      have hlt : (wl fw (nI t9) j).length < 7 := by
        have h1 := wl_mono (f := fw) (x := nI t9) (m := j + 1) nj (by omega)
        rw [wl_y hyes, List.length_append] at h1
        have h2 : [j].length = 1 := rfl
        omega
      refine lv_aload_n hx hb dX5_listJobs_29 rfl (lv_at hl 0 rfl) ?_
      refine va_get (D := D) (ci := 5) (v := .ref (gd 18)) (C := RX5) (T := TX5) (N := 26) hx hb hts iX5 hown hZ.1 hP 0 m0 rfl 21 (by decide) (hts (.fieldLink RX5 62 "TapeRoboticsModel" "list" "[I") (by decide +kernel)) (fun _ h9 => h9) rfl dX5_listJobs_30 ?_
      refine lv_aload_n hx hb dX5_listJobs_33 rfl (lv_at hl 0 rfl) ?_
      refine va_get (D := D) (ci := 5) (v := .int (nI ((wl fw (nI t9) j).length))) (C := RX5) (T := TX5) (N := 26) hx hb hts iX5 hown hZ.1 hP 0 m0 rfl 20 (by decide) (hts (.fieldLink RX5 164 "TapeRoboticsModel" "many" "I") (by decide +kernel)) (fun _ h9 => h9) rfl dX5_listJobs_34 ?_
      refine lv_iload_n hx hb dX5_listJobs_37 rfl (lv_at hl 2 rfl) ?_
      refine va_iast hx hb hZ.1 hP hD hS 18 0 m18 rfl (vp_in_nI (show (wl fw (nI t9) j).length < 7 by omega) (by omega)) dX5_listJobs_38 (fun H locs hP hD hS => ?_)
      rw [nI_clamp (show (wl fw (nI t9) j).length < 2 ^ 31 by omega)] at hP hD
      have hP : va_P D vwCl (w9.set 18 (gd 18, zInts cA 7 (va_up (colF fls (wl fw (nI t9) j)) ((wl fw (nI t9) j).length) (nI (j))))) H := hP
      have hD : va_D A (w9.set 18 (gd 18, zInts cA 7 (va_up (colF fls (wl fw (nI t9) j)) ((wl fw (nI t9) j).length) (nI (j))))) := hD
      refine lv_aload_n hx hb dX5_listJobs_39 rfl (lv_at hl 0 rfl) ?_
      refine lv_dup hx hb dX5_listJobs_40 rfl ?_
      refine va_get (D := D) (ci := 5) (v := .int (nI ((wl fw (nI t9) j).length))) (C := RX5) (T := TX5) (N := 26) hx hb hts iX5 hown hZ.1 hP 0 (zset_n m0 (by decide)) rfl 20 (by decide) (hts (.fieldLink RX5 164 "TapeRoboticsModel" "many" "I") (by decide +kernel)) (fun _ h9 => h9) rfl dX5_listJobs_41 ?_
      refine lv_iconst (v := nI (1)) hx hb dX5_listJobs_44 (by decide) ?_
      refine zo_add hx hb dX5_listJobs_45 ?_
      refine va_put (D := D) (ci := 5) (v := .int (nI (((wl fw (nI t9) j).length) + 1))) (ty := .int) (C := RX5) (T := TX5) (N := 26) hx hb hts iX5 tyX5 tyX5_ok nmX5 hown hZ.1 hP hD hS 0 (zset_n m0 (by decide)) rfl 20 (by decide) (hts (.fieldLink RX5 164 "TapeRoboticsModel" "many" "I") (by decide +kernel)) (fun _ h9 => h9) rfl (by decide +kernel) rfl rfl (Nat.le_of_ble_eq_true rfl) dX5_listJobs_46 (fun H locs hP hD hS => ?_)
      have hP : va_P D vwCl ((w9.set 18 (gd 18, zInts cA 7 (va_up (colF fls (wl fw (nI t9) j)) ((wl fw (nI t9) j).length) (nI (j))))).set 0 (gd 0, zMod gd n nd nj (((wl fw (nI t9) j).length) + 1) th)) H := hP
      have hD : va_D A ((w9.set 18 (gd 18, zInts cA 7 (va_up (colF fls (wl fw (nI t9) j)) ((wl fw (nI t9) j).length) (nI (j))))).set 0 (gd 0, zMod gd n nd nj (((wl fw (nI t9) j).length) + 1) th)) := hD
      refine lv_iinc (v := nI (j + 1)) (lv' := [(2, .int (nI (j + 1))), (0, .ref (gd 0)), (1, .int (nI (j9)))]) hx hb dX5_listJobs_49 hl (k := 2) rfl (zinc 1 _) (by decide) rfl (fun ls hl => ?_)
      refine lv_goto (tgt := 7) hx hb dX5_listJobs_52 (by decide) ?_
      exact ih7 (j + 1, ((w9.set 18 (gd 18, zInts cA 7 (va_up (colF fls (wl fw (nI t9) j)) ((wl fw (nI t9) j).length) (nI (j))))).set 0 (gd 0, zMod gd n nd nj (((wl fw (nI t9) j).length) + 1) th))) H locs ls (by first | omega | (dsimp only; omega)) ⟨lv_sub hl [1, 2, 0] rfl, hP, hD, hS, (mKeep_set (mKeep_set hkp9 (by decide)) (by decide)), (by
          have e1 : va_up (colF fls (wl fw (nI t9) j)) (wl fw (nI t9) j).length (nI j) = colF fls (wl fw (nI t9) (j + 1)) := by rw [wl_y hyes]; exact colF_y fls _ j
          have e2 : (wl fw (nI t9) j).length + 1 = (wl fw (nI t9) (j + 1)).length := by rw [wl_y hyes, List.length_append]; rfl
          show mL cA ((w9.set 18 (gd 18, zInts cA 7 (va_up (colF fls (wl fw (nI t9) j)) ((wl fw (nI t9) j).length) (nI (j))))).set 0 (gd 0, zMod gd n nd nj (((wl fw (nI t9) j).length) + 1) th)) gd n tr le sl mo la fc sf bf nd mk ck ct hd pf nj jt jf dl fin (wl fw (nI t9) (j + 1)).length (colF fls (wl fw (nI t9) (j + 1))) fod fle fro th
          rw [← e1, ← e2]
          exact (mL_0 (mL_18 hm0 ((va_up (colF fls (wl fw (nI t9) j)) ((wl fw (nI t9) j).length) (nI (j))))) n nd nj (((wl fw (nI t9) j).length) + 1) th)), by first | omega | (dsimp only; omega)⟩

theorem ins_getD : ∀ (q : Nat) (l : List Nat) (j p : Nat), q ≤ l.length → (l.insertIdx q j).getD p 0 = if p < q then l.getD p 0 else if p = q then j else l.getD (p - 1) 0
  | 0, l, j, p, _ => by
    rw [if_neg (Nat.not_lt_zero p)]
    cases p with
    | zero => rfl
    | succ p => rfl
  | q + 1, [], j, p, h => absurd h (Nat.not_succ_le_zero q)
  | q + 1, x :: l, j, p, h => by
    cases p with
    | zero => rw [if_pos (Nat.succ_pos q)]; rfl
    | succ p =>
      have ih := ins_getD q l j p (Nat.le_of_succ_le_succ h)
      show (l.insertIdx q j).getD p 0 = _
      rw [ih]
      by_cases h1 : p < q
      · rw [if_pos h1, if_pos (show p + 1 < q + 1 by omega)]; rfl
      · rw [if_neg h1, if_neg (show ¬ p + 1 < q + 1 by omega)]
        by_cases h2 : p = q
        · rw [if_pos h2, if_pos (show p + 1 = q + 1 by omega)]
        · rw [if_neg h2, if_neg (show ¬ p + 1 = q + 1 by omega)]
          cases p with
          | zero => omega
          | succ p => rfl
set_option maxHeartbeats 4000000 in
set_option maxRecDepth 100000 in
theorem c_X5_timeWith (l : Launch) (D : va_G) (cA : Nat → ClassId) (ws : va_W) {gd : Nat → Nat} {n : Nat} {tr : Nat → Nat} {le : Nat → Nat} {sl : Nat → Nat} {mo : Nat → Option Nat} {la : Nat → Bool} {fc : Nat → Nat} {sf : Nat → Int32} {bf : Nat → Int32} {nd : Nat} {mk : Nat → Nat} {ck : Nat → Int32} {ct : Nat → Nat} {hd : Nat → Option Nat} {pf : Nat → Int32} {nj : Nat} {jt : Nat → Int32} {jf : Nat → Nat} {dl : Nat → Nat} {fin : Nat → Bool} {my : Nat} {fls : Nat → Int32} {fod : Nat → Int32} {fle : Nat → Int32} {fro : Nat → Int32} {th : Nat} (hm : mL cA ws gd n tr le sl mo la fc sf bf nd mk ck ct hd pf nj jt jf dl fin my fls fod fle fro th) (bo : Nat → Nat → Nat) (t9 : Nat) (L9 : List Nat) (hJ : mJ tr le bo jf sf bf jt fls t9 L9) (ht9 : t9 < 8) (j9 P9 : Nat) (hj9 : j9 < 3) (hht : hd j9 = some t9) (hmk : mk j9 ≤ 1) (hpf : pf j9 = nI P9) (hP9 : P9 ≤ tr t9 * le t9) (htr : 1 ≤ tr t9 ∧ tr t9 ≤ 8) (hle : 4 ≤ le t9 ∧ le t9 ≤ 200) (l9 : List Nat) (c9 : Nat) (hlen : l9.length = c9) (hc9 : l9.length < 7) (hro : ∀ p, p < l9.length → fro p = nI (l9.getD p 0)) (hlm : ∀ x, x ∈ l9 → x < L9.length) (q9 a9 : Nat) (hq9 : q9 < L9.length) (ha9 : a9 ≤ l9.length) : Met l yX5_timeWith wsX5_timeWith ({ frames := 4, cells := 0, slots := 0, locals := 98 }) (va_Pc [.ref (gd 0), .int (nI (j9)), .int (nI (c9)), .int (nI (q9)), .int (nI (a9))] (zS D cA ws)) (vp_Si (fun r => r = nI (pt (LG mk tr le bo jf j9 t9 P9 L9) 7 (l9.insertIdx a9 q9)))) 0 0 zF := by
  refine zOpen (cc := cX5_timeWith) (maxL := 9) (ret := (some .int)) (own := RX5) (by decide) rfl rfl (Nat.le_of_ble_eq_true rfl) ?_
  intro p e s m below meth c ls hx hb hr hml hts hown hlocks hnm ⟨hZ, hP⟩ hl
  have iX5 : ∀ w ∈ wsX50, w ∈ wsX5_timeWith := by decide +kernel
  have hl : lv_has ls 9 [(0, .ref (gd 0)), (1, .int (nI (j9))), (2, .int (nI (c9))), (3, .int (nI (q9))), (4, .int (nI (a9)))] := hl
  have hm0 := hm
  obtain ⟨m0, m1, m2, m3, m4, m5, m6, m7, m8, m9, m10, m11, m12, m13, m14, m15, m16, m17, m18, m19, m20, m21⟩ := hm
  have hML : (l9.insertIdx a9 q9).length = l9.length + 1 := List.length_insertIdx_of_le_length ha9 q9
  have hMm : ∀ x, x ∈ (l9.insertIdx a9 q9) → x < L9.length := fun x hx => (insertIdx_mem a9 l9 q9 x hx).elim (fun h => hlm x h) (fun h => by rw [h]; exact hq9)
  subst hlen
  refine lv_iconst (v := nI (0)) hx hb dX5_timeWith_0 (by decide) ?_
  refine lv_istore (lv' := [(5, .int (nI (0))), (0, .ref (gd 0)), (1, .int (nI (j9))), (2, .int (nI (l9.length))), (3, .int (nI (q9))), (4, .int (nI (a9)))]) hx hb dX5_timeWith_1 hl (by decide) rfl (fun ls hl => ?_)
  refine lv_bipush (v := nI (7)) hx hb dX5_timeWith_3 (by decide) ?_
  refine lv_istore (lv' := [(6, .int (nI (7))), (5, .int (nI (0))), (0, .ref (gd 0)), (1, .int (nI (j9))), (2, .int (nI (l9.length))), (3, .int (nI (q9))), (4, .int (nI (a9)))]) hx hb dX5_timeWith_5 hl (by decide) rfl (fun ls hl => ?_)
  refine lv_iconst (v := nI (0)) hx hb dX5_timeWith_7 (by decide) ?_
  refine lv_istore (lv' := [(7, .int (nI (0))), (6, .int (nI (7))), (5, .int (nI (0))), (0, .ref (gd 0)), (1, .int (nI (j9))), (2, .int (nI (l9.length))), (3, .int (nI (q9))), (4, .int (nI (a9)))]) hx hb dX5_timeWith_8 hl (by decide) rfl (fun ls hl => ?_)
  refine z_loop (α := Nat × Nat × Nat) (fun v => l9.length + 1 - v.2.2) (fun v ls => lv_has ls 9 [(0, .ref (gd 0)), (1, .int (nI (j9))), (2, .int (nI (l9.length))), (3, .int (nI (q9))), (4, .int (nI (a9))), (5, .int (nI (v.1))), (6, .int (nI (v.2.1))), (7, .int (nI (v.2.2)))] ∧ v.1 + pt (LG mk tr le bo jf j9 t9 P9 L9) v.2.1 ((l9.insertIdx a9 q9).drop v.2.2) = pt (LG mk tr le bo jf j9 t9 P9 L9) 7 (l9.insertIdx a9 q9) ∧ v.2.2 ≤ l9.length + 1 ∧ (v.2.1 < L9.length ∨ v.2.1 = 7)) (fun _ => []) (0, 7, 0) ⟨lv_sub hl [3, 4, 5, 6, 7, 2, 1, 0] rfl, by rw [List.drop_zero]; exact Nat.zero_add _, Nat.zero_le _, Or.inr rfl⟩ ?_
  intro v ih10 ls hv
  obtain ⟨x, y, k⟩ := v
  obtain ⟨hl, hI⟩ := hv
  have hl : lv_has ls 9 [(0, .ref (gd 0)), (1, .int (nI (j9))), (2, .int (nI (l9.length))), (3, .int (nI (q9))), (4, .int (nI (a9))), (5, .int (nI (x))), (6, .int (nI (y))), (7, .int (nI (k)))] := hl
  have hI : x + pt (LG mk tr le bo jf j9 t9 P9 L9) y ((l9.insertIdx a9 q9).drop k) = pt (LG mk tr le bo jf j9 t9 P9 L9) 7 (l9.insertIdx a9 q9) ∧ k ≤ l9.length + 1 ∧ (y < L9.length ∨ y = 7) := hI
  obtain ⟨hx1, hk, hy⟩ := hI
  refine lv_iload hx hb dX5_timeWith_10 (lv_at hl 7 rfl) ?_
  refine lv_iload_n hx hb dX5_timeWith_12 rfl (lv_at hl 2 rfl) ?_
  refine zc_gt (tgt := 79) hx hb (by omega) (by omega) dX5_timeWith_13 (by decide) (fun c_1 => ?_) (fun c_1 => ?_)
  · refine lv_iload hx hb dX5_timeWith_79 (lv_at hl 5 rfl) ?_
    exact zr_i hx hb hr hlocks (by rw [← hx1, show k = (l9.insertIdx a9 q9).length by omega, List.drop_length]; rfl) dX5_timeWith_81
  · refine z_join (α := Nat) (pc' := 53) (fun v ls => lv_has ls 9 [(0, .ref (gd 0)), (1, .int (nI (j9))), (2, .int (nI (l9.length))), (3, .int (nI (q9))), (4, .int (nI (a9))), (5, .int (nI (x))), (6, .int (nI (y))), (7, .int (nI (k)))] ∧ v = (l9.insertIdx a9 q9).getD k 0) (fun v => [.int (nI (v))]) ?_ (fun J53 => ?_)
    · intro v ls hv
      obtain ⟨hl, hI⟩ := hv
      have hl : lv_has ls 9 [(0, .ref (gd 0)), (1, .int (nI (j9))), (2, .int (nI (l9.length))), (3, .int (nI (q9))), (4, .int (nI (a9))), (5, .int (nI (x))), (6, .int (nI (y))), (7, .int (nI (k)))] := hl
      have hI : v = (l9.insertIdx a9 q9).getD k 0 := hI
      have hvq : v = (l9.insertIdx a9 q9).getD k 0 := hI
      have hvL : v < L9.length := by rw [hvq]; exact hMm _ (getD_mem (by omega))
      refine lv_istore (lv' := [(8, .int (nI (v))), (0, .ref (gd 0)), (1, .int (nI (j9))), (2, .int (nI (l9.length))), (3, .int (nI (q9))), (4, .int (nI (a9))), (5, .int (nI (x))), (6, .int (nI (y))), (7, .int (nI (k)))]) hx hb dX5_timeWith_53 hl (by decide) rfl (fun ls hl => ?_)
      refine lv_iload hx hb dX5_timeWith_55 (lv_at hl 6 rfl) ?_
      refine lv_aload_n hx hb dX5_timeWith_57 rfl (lv_at hl 1 rfl) ?_
      refine lv_iload_n hx hb dX5_timeWith_58 rfl (lv_at hl 2 rfl) ?_
      refine lv_iload hx hb dX5_timeWith_59 (lv_at hl 7 rfl) ?_
      refine lv_iload hx hb dX5_timeWith_61 (lv_at hl 0 rfl) ?_
      refine zk_V_i (n := 3) (As := [.int (nI (j9)), .int (nI (y)), .int (nI (v))]) (rest := [.int (nI (x))]) hx hb hml hts hown hZ hP (c_X5_timeOf l D cA _ hm0 bo t9 L9 hJ ht9 j9 P9 hj9 hht hmk hpf hP9 htr hle y v (by first | assumption | omega) (by first | assumption | omega)) gX5_timeWith_X5_timeOf rfl rfl ⟨rfl, rfl⟩ ⟨by decide +kernel, Nat.le_of_ble_eq_true rfl, Nat.le_of_ble_eq_true rfl⟩ m0 rfl hl.1 rfl (Nat.le_of_ble_eq_true rfl) ⟨Nat.le_of_ble_eq_true rfl, Nat.le_of_ble_eq_true rfl⟩ rfl dX5_timeWith_63 (fun r_2 hr_3 => ?_)
      obtain rfl := show r_2 = _ from hr_3
      refine zo_add hx hb dX5_timeWith_66 ?_
      refine lv_istore (lv' := [(5, .int (nI (x + ((LG mk tr le bo jf j9 t9 P9 L9) y v)))), (8, .int (nI (v))), (0, .ref (gd 0)), (1, .int (nI (j9))), (2, .int (nI (l9.length))), (3, .int (nI (q9))), (4, .int (nI (a9))), (6, .int (nI (y))), (7, .int (nI (k)))]) hx hb dX5_timeWith_67 hl (by decide) rfl (fun ls hl => ?_)
      refine lv_iload hx hb dX5_timeWith_69 (lv_at hl 1 rfl) ?_
      refine lv_istore (lv' := [(6, .int (nI (v))), (5, .int (nI (x + ((LG mk tr le bo jf j9 t9 P9 L9) y v)))), (8, .int (nI (v))), (0, .ref (gd 0)), (1, .int (nI (j9))), (2, .int (nI (l9.length))), (3, .int (nI (q9))), (4, .int (nI (a9))), (7, .int (nI (k)))]) hx hb dX5_timeWith_71 hl (by decide) rfl (fun ls hl => ?_)
      refine lv_iinc (v := nI (k + 1)) (lv' := [(7, .int (nI (k + 1))), (6, .int (nI (v))), (5, .int (nI (x + ((LG mk tr le bo jf j9 t9 P9 L9) y v)))), (8, .int (nI (v))), (0, .ref (gd 0)), (1, .int (nI (j9))), (2, .int (nI (l9.length))), (3, .int (nI (q9))), (4, .int (nI (a9)))]) hx hb dX5_timeWith_73 hl (k := 8) rfl (zinc 1 _) (by decide) rfl (fun ls hl => ?_)
      refine lv_goto (tgt := 10) hx hb dX5_timeWith_76 (by decide) ?_
      exact ih10 (x + ((LG mk tr le bo jf j9 t9 P9 L9) y v), v, k + 1) ls (by first | omega | (dsimp only; omega)) ⟨lv_sub hl [4, 5, 6, 7, 8, 2, 1, 0] rfl, by rw [drop_getD (show k < (l9.insertIdx a9 q9).length by first | omega | (dsimp only; omega)), ← hvq] at hx1; simp only [pt] at hx1; dsimp only; omega, by first | omega | (dsimp only; omega), Or.inl hvL⟩
    · skip
      refine lv_iload hx hb dX5_timeWith_16 (lv_at hl 7 rfl) ?_
      refine lv_iload hx hb dX5_timeWith_18 (lv_at hl 4 rfl) ?_
      refine zc_ge (tgt := 33) hx hb (by omega) (by omega) dX5_timeWith_20 (by decide) (fun c_4 => ?_) (fun c_4 => ?_)
      · refine lv_iload hx hb dX5_timeWith_33 (lv_at hl 7 rfl) ?_
        refine lv_iload hx hb dX5_timeWith_35 (lv_at hl 4 rfl) ?_
        refine zc_ne (tgt := 44) hx hb (by omega) (by omega) dX5_timeWith_37 (by decide) (fun c_5 => ?_) (fun c_5 => ?_)
        · refine lv_aload_n hx hb dX5_timeWith_44 rfl (lv_at hl 0 rfl) ?_
          refine va_get (D := D) (ci := 5) (v := .ref (gd 21)) (C := RX5) (T := TX5) (N := 26) hx hb hts iX5 hown hZ.1 hP 0 m0 rfl 24 (by decide) (hts (.fieldLink RX5 71 "TapeRoboticsModel" "row" "[I") (by decide +kernel)) (fun _ h9 => h9) rfl dX5_timeWith_45 ?_
          refine lv_iload hx hb dX5_timeWith_48 (lv_at hl 7 rfl) ?_
          refine lv_iconst (v := nI (1)) hx hb dX5_timeWith_50 (by decide) ?_
          refine zo_sub hx hb (by omega) dX5_timeWith_51 ?_
          refine va_iald hx hb hZ.1 hP 21 0 m21 rfl (vp_in_nI (show k - 1 < 8 by omega) (by omega)) dX5_timeWith_52 ?_
          rw [nI_clamp (show k - 1 < 2 ^ 31 by omega)]
          refine zx_val (y := nI (l9.getD (k - 1) 0)) (hro (k - 1) (by omega)) ?_
          exact J53 (l9.getD (k - 1) 0) ls ⟨lv_sub hl [0, 1, 2, 3, 4, 5, 6, 7] rfl, by rw [ins_getD _ _ _ _ (by omega), if_neg (by omega), if_neg (by omega)]⟩
        · refine lv_iload_n hx hb dX5_timeWith_40 rfl (lv_at hl 3 rfl) ?_
          refine lv_goto (tgt := 53) hx hb dX5_timeWith_41 (by decide) ?_
          exact J53 (q9) ls ⟨lv_sub hl [0, 1, 2, 3, 4, 5, 6, 7] rfl, by rw [ins_getD _ _ _ _ (by omega), if_neg (by omega), if_pos (by omega)]⟩
      · refine lv_aload_n hx hb dX5_timeWith_23 rfl (lv_at hl 0 rfl) ?_
        refine va_get (D := D) (ci := 5) (v := .ref (gd 21)) (C := RX5) (T := TX5) (N := 26) hx hb hts iX5 hown hZ.1 hP 0 m0 rfl 24 (by decide) (hts (.fieldLink RX5 71 "TapeRoboticsModel" "row" "[I") (by decide +kernel)) (fun _ h9 => h9) rfl dX5_timeWith_24 ?_
        refine lv_iload hx hb dX5_timeWith_27 (lv_at hl 7 rfl) ?_
        refine va_iald hx hb hZ.1 hP 21 0 m21 rfl (vp_in_nI (show k < 8 by omega) (by omega)) dX5_timeWith_29 ?_
        rw [nI_clamp (show k < 2 ^ 31 by omega)]
        refine zx_val (y := nI (l9.getD k 0)) (hro k (by omega)) ?_
        refine lv_goto (tgt := 53) hx hb dX5_timeWith_30 (by decide) ?_
        exact J53 (l9.getD k 0) ls ⟨lv_sub hl [0, 1, 2, 3, 4, 5, 6, 7] rfl, by rw [ins_getD _ _ _ _ (by omega), if_pos (by omega)]⟩

