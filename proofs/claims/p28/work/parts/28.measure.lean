set_option maxHeartbeats 4000000 in
set_option maxRecDepth 100000 in
theorem c_X2_measure (l : Launch) (D : va_G) (cA : Nat → ClassId) (sz : Nat) (ws : va_W) (k0 h0 oc an al ar ab ao : Nat) (hk : ws[k0]? = some (h0, zOrd oc an al ar ab ao)) (kd hd dnu pa sp : Nat) (mt : Option Nat) (P : Nat) (tm : Int32) (ct : Nat) (hkd : ws[kd]? = some (hd, zDrive dnu pa sp mt (nI P) tm ct)) (kt ht tn tr le sl fc bo : Nat) (dn : Option Nat) (hl0 : Bool) (hkt : ws[kt]? = some (ht, zTape tn tr le sl dn hl0 fc bo)) (kb nb : Nat) (bn : Nat → Nat) (hkb : ws[kb]? = some (bo, zInts cA nb (fun k => nI (bn k)))) (hnb : nb < 2 ^ 31) (kj hj nc dnn wA fA dA : Nat) (hkj : ws[kj]? = some (hj, zJobs nc dnn wA fA dA)) (kw : Nat) (fw : Nat → Int32) (hkw : ws[kw]? = some (wA, zInts cA 60 fw)) (kf : Nat) (ff : Nat → Nat) (hkf : ws[kf]? = some (fA, zInts cA 60 (fun k => nI (ff k)))) (kn : Nat) (fn : Nat → Int32) (hkn : ws[kn]? = some (an, zInts cA 7 fn)) (kl : Nat) (fl : Nat → Int32) (hkl : ws[kl]? = some (al, zInts cA 56 fl)) (nnl : kn ≠ kl) (nwn : kn ≠ kw) (nwl : kl ≠ kw) (nfn : kn ≠ kf) (nfl : kl ≠ kf) (nbn : kn ≠ kb) (nbl : kl ≠ kb) (L : List Nat) (hL : L = wl fw (nI tn) nc) (hL7 : L.length ≤ 7) (hnc : nc ≤ 60) (ht1 : 1 ≤ tr) (hl9 : 1 ≤ le) (hlm : le < 2 ^ 30) (htm : tr < 2 ^ 30) (hP9 : P < 2 ^ 31) (htn : tn < 2 ^ 31) (hjf : ∀ x, x ∈ L → ff x + 1 < nb ∧ bn (ff x) ≤ bn (ff x + 1) ∧ bn (ff x) < 2 ^ 31 ∧ bn (ff x + 1) < 2 ^ 31)  : Met l yX2_measure wsX2_measure ({ frames := 4, cells := 0, slots := 0, locals := 94 }) (va_Pc [.ref h0, .ref hd, .ref ht, .ref hj] (zM D cA (ws) sz)) (va_Qv (fun u : Nat → Int32 => ∀ a b, (a < L.length ∨ a = 7) → b < L.length → u (a * 7 + b) = nI (lgs pa sp tr le bn ff P L a b)) (fun u => zB D (va_A (ws) sz) (((ws.set kn (an, zInts cA 7 (colF fn L))).set k0 (h0, zOrd L.length an al ar ab ao)).set kl (al, zInts cA 56 u))) (va_A (ws) sz)) 0 0 (va_A (ws) sz) := by
  refine zOpen (cc := cX2_measure) (maxL := 8) (ret := none) (own := RX2) (by decide) rfl rfl (Nat.le_of_ble_eq_true rfl) ?_
  intro p e s m below meth c ls hx hb hr hml hts hown hlocks hnm ⟨hZ, hP, hD0, hsz⟩ hl
  subst hsz
  have hD := hD0.self (sz := s.heap.size)
  generalize hAe : va_A (ws) s.heap.size = A at hD ⊢
  have hA : ∀ q : Nat, s.heap.size ≤ q → A q := fun q h => by rw [← hAe]; exact Or.inr h
  have hS : va_S A s.heap s.heap [] := va_S.rf
  have iX3 : ∀ w ∈ wsX30, w ∈ wsX2_measure := by decide +kernel
  have iX2 : ∀ w ∈ wsX20, w ∈ wsX2_measure := by decide +kernel
  have iX0 : ∀ w ∈ wsX00, w ∈ wsX2_measure := by decide +kernel
  have hl : lv_has ls 8 [(0, .ref h0), (1, .ref hd), (2, .ref ht), (3, .ref hj)] := hl
  refine lv_aload_n hx hb dX2_measure_0 rfl (lv_at hl 0 rfl) ?_
  refine lv_aload_n hx hb dX2_measure_1 rfl (lv_at hl 3 rfl) ?_
  refine lv_aload_n hx hb dX2_measure_2 rfl (lv_at hl 2 rfl) ?_
  refine va_getN (D := D) (ci := 3) (v := .int (nI (tn))) (C := RX3) (T := TX3) (N := 8) hx hb hts iX3 hown hZ.1 hP kt hkt rfl 0 (by decide) (va_Nw.use rfl (hZ.2 (.fieldLinkNest RX2 31 RX3 "number" "I" "TapeRobotics") (List.mem_of_getElem? (i := 45) rfl))) (fun _ h9 => h9) rfl dX2_measure_3 ?_
  refine lv_aload_n hx hb dX2_measure_6 rfl (lv_at hl 0 rfl) ?_
  refine va_get (D := D) (ci := 2) (v := .ref an) (C := RX2) (T := TX2) (N := 6) hx hb hts iX2 hown hZ.1 hP k0 hk rfl 1 (by decide) (hts (.fieldLink RX2 15 "TapeRobotics$Orders" "numbers" "[I") (by decide +kernel)) (fun _ h9 => h9) rfl dX2_measure_7 ?_
  refine zw_VN_i (n := 2) (mc := 0) (ms := 0) (As := [.int (nI (tn)), .ref an]) (rest := [.ref h0]) (w1 := fun _ : Unit => ws.set kn (an, zInts cA 7 (colF fn (wl fw (nI tn) nc)))) hx hb hml hts hown hZ hP hD hS hA (c_X1_collectAt l D cA _ _ kj hj nc dnn wA fA dA hkj kw fw hkw tn kn an 7 fn hkn hnc (by rw [← hL]; exact hL7) (by omega) nwn) ggX2_measure_X1_collectAt (List.mem_of_getElem? (i := 27) rfl) (by decide +kernel) rfl ⟨rfl, rfl⟩ ⟨by decide +kernel, Nat.le_of_ble_eq_true rfl, Nat.le_of_ble_eq_true rfl⟩ hkj rfl hl.1 rfl (Nat.le_of_ble_eq_true rfl) ⟨Nat.le_of_ble_eq_true rfl, Nat.le_of_ble_eq_true rfl⟩ rfl dX2_measure_10 (fun r_1 u_3 H locs hr_2 hP hD hS hz_3 => ?_)
  obtain rfl := show r_1 = _ from hr_2
  have hP : va_P D vwCl (ws.set kn (an, zInts cA 7 (colF fn (wl fw (nI tn) nc)))) H := hP
  have hD : va_D A (ws.set kn (an, zInts cA 7 (colF fn (wl fw (nI tn) nc)))) := hD
  rw [← hL] at hP hD
  refine zx_val (y := nI L.length) (by rw [hL]) ?_
  have hP : va_P D vwCl (ws.set kn (an, zInts cA 7 (colF fn L))) H := hP
  have hD : va_D A (ws.set kn (an, zInts cA 7 (colF fn L))) := hD
  refine va_put (D := D) (ci := 2) (v := .int (nI (L.length))) (ty := .int) (C := RX2) (T := TX2) (N := 6) hx hb hts iX2 tyX2 tyX2_ok nmX2 hown hZ.1 hP hD hS k0 (zset_n hk (zapo' hkn hk)) rfl 0 (by decide) (hts (.fieldLink RX2 9 "TapeRobotics$Orders" "count" "I") (by decide +kernel)) (fun _ h9 => h9) rfl (by decide +kernel) rfl rfl (Nat.le_of_ble_eq_true rfl) dX2_measure_13 (fun H locs hP hD hS => ?_)
  have hP : va_P D vwCl ((ws.set kn (an, zInts cA 7 (colF fn L))).set k0 (h0, zOrd L.length an al ar ab ao)) H := hP
  have hD : va_D A ((ws.set kn (an, zInts cA 7 (colF fn L))).set k0 (h0, zOrd L.length an al ar ab ao)) := hD
  refine lv_iconst (v := nI (0)) hx hb dX2_measure_16 (by decide) ?_
  refine lv_istore (lv' := [(4, .int (nI (0))), (0, .ref h0), (1, .ref hd), (2, .ref ht), (3, .ref hj)]) hx hb dX2_measure_17 hl (by decide) rfl (fun ls hl => ?_)
  have hP : va_P D vwCl (((ws.set kn (an, zInts cA 7 (colF fn L))).set k0 (h0, zOrd L.length an al ar ab ao)).set kl (al, zInts cA 56 fl)) H := by rw [zset_self (zset_n (zset_n hkl nnl) (zapo hk hkl))]; exact hP
  have hD : va_D A (((ws.set kn (an, zInts cA 7 (colF fn L))).set k0 (h0, zOrd L.length an al ar ab ao)).set kl (al, zInts cA 56 fl)) := by rw [zset_self (zset_n (zset_n hkl nnl) (zapo hk hkl))]; exact hD
  refine z_loopW (α := Nat × (Nat → Int32)) (fun v => L.length - v.1) (fun v H locs ls => lv_has ls 8 [(0, .ref h0), (1, .ref hd), (2, .ref ht), (3, .ref hj), (4, .int (nI (v.1)))] ∧ va_P D vwCl (((ws.set kn (an, zInts cA 7 (colF fn L))).set k0 (h0, zOrd L.length an al ar ab ao)).set kl (al, zInts cA 56 v.2)) H ∧ va_D A (((ws.set kn (an, zInts cA 7 (colF fn L))).set k0 (h0, zOrd L.length an al ar ab ao)).set kl (al, zInts cA 56 v.2)) ∧ va_S A s.heap H locs ∧ (∀ a b, (a < L.length ∨ a = 7) → b < v.1 → v.2 (a * 7 + b) = nI (lgs pa sp tr le bn ff P L a b)) ∧ v.1 ≤ L.length) (fun _ => []) (0, fl) ⟨lv_sub hl [1, 2, 3, 4, 0] rfl, hP, hD, hS, (fun a b h1 h2 => absurd h2 (Nat.not_lt_zero b)), Nat.zero_le _⟩ ?_
  intro v ih19 H locs ls hv
  obtain ⟨to, u⟩ := v
  obtain ⟨hl, hP, hD, hS, hI⟩ := hv
  have hP : va_P D vwCl (((ws.set kn (an, zInts cA 7 (colF fn L))).set k0 (h0, zOrd L.length an al ar ab ao)).set kl (al, zInts cA 56 u)) H := hP
  have hD : va_D A (((ws.set kn (an, zInts cA 7 (colF fn L))).set k0 (h0, zOrd L.length an al ar ab ao)).set kl (al, zInts cA 56 u)) := hD
  have hl : lv_has ls 8 [(0, .ref h0), (1, .ref hd), (2, .ref ht), (3, .ref hj), (4, .int (nI (to)))] := hl
  have hI : (∀ a b, (a < L.length ∨ a = 7) → b < to → u (a * 7 + b) = nI (lgs pa sp tr le bn ff P L a b)) ∧ to ≤ L.length := hI
  obtain ⟨hu, hto⟩ := hI
  refine lv_iload hx hb dX2_measure_19 (lv_at hl 4 rfl) ?_
  refine lv_aload_n hx hb dX2_measure_21 rfl (lv_at hl 0 rfl) ?_
  refine va_get (D := D) (ci := 2) (v := .int (nI (L.length))) (C := RX2) (T := TX2) (N := 6) hx hb hts iX2 hown hZ.1 hP k0 (zset_n (zset_s (zset_n hk (zapo' hkn hk))) (zapo' hkl hk)) rfl 0 (by decide) (hts (.fieldLink RX2 9 "TapeRobotics$Orders" "count" "I") (by decide +kernel)) (fun _ h9 => h9) rfl dX2_measure_22 ?_
  refine zc_ge (tgt := 133) hx hb (by omega) (by omega) dX2_measure_25 (by decide) (fun c_4 => ?_) (fun c_4 => ?_)
  · exact zr_qv (S := (Nat → Int32)) (w1 := fun u => ((ws.set kn (an, zInts cA 7 (colF fn L))).set k0 (h0, zOrd L.length an al ar ab ao)).set kl (al, zInts cA 56 u)) u hx hb hr hlocks (fun a b h1 h2 => hu a b h1 (by omega)) hP hD hS (rfl) dX2_measure_133
  · have hmt : L.getD to 0 ∈ L := getD_mem (by omega)
    have hqt : L.getD to 0 < 60 := by
      have h9 := (wl_mem (f := fw) (x := nI tn) (n := nc) (by rw [← hL]; exact hmt)).1; omega
    obtain ⟨hf1t, hf2t, hf3t, hf4t⟩ := hjf _ hmt
    refine lv_aload_n hx hb dX2_measure_28 rfl (lv_at hl 3 rfl) ?_
    refine lv_aload_n hx hb dX2_measure_29 rfl (lv_at hl 0 rfl) ?_
    refine va_get (D := D) (ci := 2) (v := .ref an) (C := RX2) (T := TX2) (N := 6) hx hb hts iX2 hown hZ.1 hP k0 (zset_n (zset_s (zset_n hk (zapo' hkn hk))) (zapo' hkl hk)) rfl 1 (by decide) (hts (.fieldLink RX2 15 "TapeRobotics$Orders" "numbers" "[I") (by decide +kernel)) (fun _ h9 => h9) rfl dX2_measure_30 ?_
    refine lv_iload hx hb dX2_measure_33 (lv_at hl 4 rfl) ?_
    refine zk_SN_i (n := 2) (As := [.ref an, .int (nI (to))]) (rest := [.ref hj]) hx hb hml hts hown hZ hP (c_X4_at l D cA _ kn an 7 (colF fn L) (zset_n (zset_n (zset_s hkn) (zapo hk hkn)) nnl.symm) to (by omega) (by omega)) ggX2_measure_X4_at (List.mem_of_getElem? (i := 28) rfl) (by decide +kernel) rfl ⟨rfl, rfl⟩ ⟨by decide +kernel, Nat.le_of_ble_eq_true rfl, Nat.le_of_ble_eq_true rfl⟩ hl.1 rfl (Nat.le_of_ble_eq_true rfl) ⟨Nat.zero_le _, Nat.zero_le _⟩ rfl dX2_measure_35 (fun r_5 hr_6 => ?_)
    obtain rfl := show r_5 = _ from hr_6
    refine zx_val (y := nI (L.getD to 0)) (colF_in (by omega)) ?_
    refine zk_VN_i (n := 1) (As := [.int (nI (L.getD to 0))]) (rest := []) hx hb hml hts hown hZ hP (c_X1_fileOf l D cA _ kj hj nc dnn wA fA dA (zset_n (zset_n (zset_n hkj (zapo' hkn hkj)) (zapc hk hkj (by decide))) (zapo' hkl hkj)) kf ff (zset_n (zset_n (zset_n hkf nfn) (zapo hk hkf)) nfl) (L.getD to 0) (by omega)) ggX2_measure_X1_fileOf (List.mem_of_getElem? (i := 29) rfl) (by decide +kernel) rfl ⟨rfl, rfl⟩ ⟨by decide +kernel, Nat.le_of_ble_eq_true rfl, Nat.le_of_ble_eq_true rfl⟩ (zset_n (zset_n (zset_n hkj (zapo' hkn hkj)) (zapc hk hkj (by decide))) (zapo' hkl hkj)) rfl hl.1 rfl (Nat.le_of_ble_eq_true rfl) ⟨Nat.zero_le _, Nat.zero_le _⟩ rfl dX2_measure_38 (fun r_7 hr_8 => ?_)
    obtain rfl := show r_7 = _ from hr_8
    refine lv_istore (lv' := [(5, .int (nI (ff (L.getD to 0)))), (0, .ref h0), (1, .ref hd), (2, .ref ht), (3, .ref hj), (4, .int (nI (to)))]) hx hb dX2_measure_41 hl (by decide) rfl (fun ls hl => ?_)
    refine lv_aload_n hx hb dX2_measure_43 rfl (lv_at hl 1 rfl) ?_
    refine va_get (D := D) (ci := 2) (v := .ref al) (C := RX2) (T := TX2) (N := 6) hx hb hts iX2 hown hZ.1 hP k0 (zset_n (zset_s (zset_n hk (zapo' hkn hk))) (zapo' hkl hk)) rfl 2 (by decide) (hts (.fieldLink RX2 19 "TapeRobotics$Orders" "legs" "[I") (by decide +kernel)) (fun _ h9 => h9) rfl dX2_measure_44 ?_
    refine lv_bipush (v := nI (49)) hx hb dX2_measure_47 (by decide) ?_
    refine lv_iload hx hb dX2_measure_49 (lv_at hl 5 rfl) ?_
    refine zo_add hx hb dX2_measure_51 ?_
    refine lv_aload_n hx hb dX2_measure_52 rfl (lv_at hl 2 rfl) ?_
    refine lv_aload_n hx hb dX2_measure_53 rfl (lv_at hl 3 rfl) ?_
    refine lv_aload_n hx hb dX2_measure_54 rfl (lv_at hl 2 rfl) ?_
    refine va_getN (D := D) (ci := 0) (v := .int (nI (P))) (C := RX0) (T := TX0) (N := 7) hx hb hts iX0 hown hZ.1 hP kd (zset_n (zset_n (zset_n hkd (zapo' hkn hkd)) (zapc hk hkd (by decide))) (zapo' hkl hkd)) rfl 4 (by decide) (va_Nw.use rfl (hZ.2 (.fieldLinkNest RX2 50 RX0 "place" "I" "TapeRobotics") (List.mem_of_getElem? (i := 53) rfl))) (fun _ h9 => h9) rfl dX2_measure_55 ?_
    refine lv_iload hx hb dX2_measure_58 (lv_at hl 0 rfl) ?_
    refine zk_VN_i (n := 3) (As := [.ref ht, .int (nI (P)), .int (nI (ff (L.getD to 0)))]) (rest := [.int (nI (49 + to)), .ref al]) hx hb hml hts hown hZ hP (c_X0_fileTime l D cA _ kd hd dnu pa sp mt (nI (P)) tm ct (zset_n (zset_n (zset_n hkd (zapo' hkn hkd)) (zapc hk hkd (by decide))) (zapo' hkl hkd)) kt ht tn tr le sl fc bo dn hl0 (zset_n (zset_n (zset_n hkt (zapo' hkn hkt)) (zapc hk hkt (by decide))) (zapo' hkl hkt)) kb nb bn (zset_n (zset_n (zset_n hkb nbn) (zapo hk hkb)) nbl) (by omega) P (ff (L.getD to 0)) (by omega) (by omega) (by omega) (by omega) (by omega) (by omega) (by omega) (by omega)) ggX2_measure_X0_fileTime (List.mem_of_getElem? (i := 30) rfl) (by decide +kernel) rfl ⟨rfl, rfl⟩ ⟨by decide +kernel, Nat.le_of_ble_eq_true rfl, Nat.le_of_ble_eq_true rfl⟩ (zset_n (zset_n (zset_n hkd (zapo' hkn hkd)) (zapc hk hkd (by decide))) (zapo' hkl hkd)) rfl hl.1 rfl (Nat.le_of_ble_eq_true rfl) ⟨Nat.zero_le _, Nat.zero_le _⟩ rfl dX2_measure_60 (fun r_9 hr_10 => ?_)
    obtain rfl := show r_9 = _ from hr_10
    refine zx_val (y := nI (lgs pa sp tr le bn ff P L 7 to)) (congrArg nI lgs_7.symm) ?_
    refine zw_SN_v (n := 3) (mc := 0) (ms := 0) (As := [.ref al, .int (nI (49 + to)), .int (nI (lgs pa sp tr le bn ff P L 7 to))]) (rest := []) (w1 := fun _ : Unit => (((ws.set kn (an, zInts cA 7 (colF fn L))).set k0 (h0, zOrd L.length an al ar ab ao)).set kl (al, zInts cA 56 u)).set kl (al, zInts cA 56 (upd u (49 + to) (nI (lgs pa sp tr le bn ff P L 7 to))))) hx hb hml hts hown hZ hP hD hS hA (c_X4_put l D cA _ _ kl al 56 u (zset_s (zset_n (zset_n hkl nnl) (zapo hk hkl))) (49 + to) (by omega) (by omega) (nI (lgs pa sp tr le bn ff P L 7 to))) ggX2_measure_X4_put (List.mem_of_getElem? (i := 31) rfl) (by decide +kernel) rfl ⟨rfl, rfl⟩ ⟨by decide +kernel, Nat.le_of_ble_eq_true rfl, Nat.le_of_ble_eq_true rfl⟩ hl.1 rfl (Nat.le_of_ble_eq_true rfl) ⟨Nat.le_of_ble_eq_true rfl, Nat.le_of_ble_eq_true rfl⟩ rfl dX2_measure_63 (fun u_13 H locs hr_12 hP hD hS hz_13 => ?_)
    have hP : va_P D vwCl ((((ws.set kn (an, zInts cA 7 (colF fn L))).set k0 (h0, zOrd L.length an al ar ab ao)).set kl (al, zInts cA 56 u)).set kl (al, zInts cA 56 (upd u (49 + to) (nI (lgs pa sp tr le bn ff P L 7 to))))) H := hP
    have hD : va_D A ((((ws.set kn (an, zInts cA 7 (colF fn L))).set k0 (h0, zOrd L.length an al ar ab ao)).set kl (al, zInts cA 56 u)).set kl (al, zInts cA 56 (upd u (49 + to) (nI (lgs pa sp tr le bn ff P L 7 to))))) := hD
    rw [zset2] at hP hD
    refine lv_iconst (v := nI (0)) hx hb dX2_measure_66 (by decide) ?_
    refine lv_istore (lv' := [(6, .int (nI (0))), (5, .int (nI (ff (L.getD to 0)))), (0, .ref h0), (1, .ref hd), (2, .ref ht), (3, .ref hj), (4, .int (nI (to)))]) hx hb dX2_measure_67 hl (by decide) rfl (fun ls hl => ?_)
    refine z_loopW (α := Nat × (Nat → Int32)) (fun v => L.length - v.1) (fun v H locs ls => lv_has ls 8 [(0, .ref h0), (1, .ref hd), (2, .ref ht), (3, .ref hj), (4, .int (nI (to))), (5, .int (nI (ff (L.getD to 0)))), (6, .int (nI (v.1)))] ∧ va_P D vwCl (((ws.set kn (an, zInts cA 7 (colF fn L))).set k0 (h0, zOrd L.length an al ar ab ao)).set kl (al, zInts cA 56 v.2)) H ∧ va_D A (((ws.set kn (an, zInts cA 7 (colF fn L))).set k0 (h0, zOrd L.length an al ar ab ao)).set kl (al, zInts cA 56 v.2)) ∧ va_S A s.heap H locs ∧ (∀ a b, (a < L.length ∨ a = 7) → b < to → v.2 (a * 7 + b) = nI (lgs pa sp tr le bn ff P L a b)) ∧ v.2 (7 * 7 + to) = nI (lgs pa sp tr le bn ff P L 7 to) ∧ (∀ a, a < v.1 → v.2 (a * 7 + to) = nI (lgs pa sp tr le bn ff P L a to)) ∧ v.1 ≤ L.length) (fun _ => []) (0, (upd u (49 + to) (nI (lgs pa sp tr le bn ff P L 7 to)))) ⟨lv_sub hl [2, 3, 4, 5, 6, 1, 0] rfl, hP, hD, hS, (fun a b h1 h2 => by show upd u (49 + to) _ (a * 7 + b) = _; rw [pk_un (by omega)]; exact hu a b h1 h2), pk_us, (fun a h => absurd h (Nat.not_lt_zero a)), Nat.zero_le _⟩ ?_
    intro v ih69 H locs ls hv
    obtain ⟨fr, u⟩ := v
    obtain ⟨hl, hP, hD, hS, hI⟩ := hv
    have hP : va_P D vwCl (((ws.set kn (an, zInts cA 7 (colF fn L))).set k0 (h0, zOrd L.length an al ar ab ao)).set kl (al, zInts cA 56 u)) H := hP
    have hD : va_D A (((ws.set kn (an, zInts cA 7 (colF fn L))).set k0 (h0, zOrd L.length an al ar ab ao)).set kl (al, zInts cA 56 u)) := hD
    have hl : lv_has ls 8 [(0, .ref h0), (1, .ref hd), (2, .ref ht), (3, .ref hj), (4, .int (nI (to))), (5, .int (nI (ff (L.getD to 0)))), (6, .int (nI (fr)))] := hl
    have hI : (∀ a b, (a < L.length ∨ a = 7) → b < to → u (a * 7 + b) = nI (lgs pa sp tr le bn ff P L a b)) ∧ u (7 * 7 + to) = nI (lgs pa sp tr le bn ff P L 7 to) ∧ (∀ a, a < fr → u (a * 7 + to) = nI (lgs pa sp tr le bn ff P L a to)) ∧ fr ≤ L.length := hI
    obtain ⟨hu1, hu2, hu3, hfr⟩ := hI
    refine lv_iload hx hb dX2_measure_69 (lv_at hl 6 rfl) ?_
    refine lv_aload_n hx hb dX2_measure_71 rfl (lv_at hl 0 rfl) ?_
    refine va_get (D := D) (ci := 2) (v := .int (nI (L.length))) (C := RX2) (T := TX2) (N := 6) hx hb hts iX2 hown hZ.1 hP k0 (zset_n (zset_s (zset_n hk (zapo' hkn hk))) (zapo' hkl hk)) rfl 0 (by decide) (hts (.fieldLink RX2 9 "TapeRobotics$Orders" "count" "I") (by decide +kernel)) (fun _ h9 => h9) rfl dX2_measure_72 ?_
    refine zc_ge (tgt := 127) hx hb (by omega) (by omega) dX2_measure_75 (by decide) (fun c_14 => ?_) (fun c_14 => ?_)
    · refine lv_iinc (v := nI (to + 1)) (lv' := [(4, .int (nI (to + 1))), (0, .ref h0), (1, .ref hd), (2, .ref ht), (3, .ref hj), (5, .int (nI (ff (L.getD to 0)))), (6, .int (nI (fr)))]) hx hb dX2_measure_127 hl (k := 4) rfl (zinc 1 _) (by decide) rfl (fun ls hl => ?_)
      refine lv_goto (tgt := 19) hx hb dX2_measure_130 (by decide) ?_
      exact ih19 (to + 1, u) H locs ls (by first | omega | (dsimp only; omega)) ⟨lv_sub hl [1, 2, 3, 4, 0] rfl, hP, hD, hS, (fun a b h1 h2 => by
            by_cases e9 : b = to
            · rw [e9]
              rcases h1 with h1 | h1
              · exact hu3 a (by omega)
              · rw [h1]; exact hu2
            · have h2 : b < to + 1 := h2
              exact hu1 a b h1 (by omega)), by dsimp only; omega⟩
    · have hmf : L.getD fr 0 ∈ L := getD_mem (by omega)
      have hqf : L.getD fr 0 < 60 := by
        have h9 := (wl_mem (f := fw) (x := nI tn) (n := nc) (by rw [← hL]; exact hmf)).1; omega
      obtain ⟨hf1f, hf2f, hf3f, hf4f⟩ := hjf _ hmf
      refine lv_aload_n hx hb dX2_measure_78 rfl (lv_at hl 2 rfl) ?_
      refine lv_aload_n hx hb dX2_measure_79 rfl (lv_at hl 3 rfl) ?_
      refine lv_aload_n hx hb dX2_measure_80 rfl (lv_at hl 0 rfl) ?_
      refine va_get (D := D) (ci := 2) (v := .ref an) (C := RX2) (T := TX2) (N := 6) hx hb hts iX2 hown hZ.1 hP k0 (zset_n (zset_s (zset_n hk (zapo' hkn hk))) (zapo' hkl hk)) rfl 1 (by decide) (hts (.fieldLink RX2 15 "TapeRobotics$Orders" "numbers" "[I") (by decide +kernel)) (fun _ h9 => h9) rfl dX2_measure_81 ?_
      refine lv_iload hx hb dX2_measure_84 (lv_at hl 6 rfl) ?_
      refine zk_SN_i (n := 2) (As := [.ref an, .int (nI (fr))]) (rest := [.ref hj, .ref ht]) hx hb hml hts hown hZ hP (c_X4_at l D cA _ kn an 7 (colF fn L) (zset_n (zset_n (zset_s hkn) (zapo hk hkn)) nnl.symm) fr (by omega) (by omega)) ggX2_measure_X4_at (List.mem_of_getElem? (i := 28) rfl) (by decide +kernel) rfl ⟨rfl, rfl⟩ ⟨by decide +kernel, Nat.le_of_ble_eq_true rfl, Nat.le_of_ble_eq_true rfl⟩ hl.1 rfl (Nat.le_of_ble_eq_true rfl) ⟨Nat.zero_le _, Nat.zero_le _⟩ rfl dX2_measure_86 (fun r_15 hr_16 => ?_)
      obtain rfl := show r_15 = _ from hr_16
      refine zx_val (y := nI (L.getD fr 0)) (colF_in (by omega)) ?_
      refine zk_VN_i (n := 1) (As := [.int (nI (L.getD fr 0))]) (rest := [.ref ht]) hx hb hml hts hown hZ hP (c_X1_fileOf l D cA _ kj hj nc dnn wA fA dA (zset_n (zset_n (zset_n hkj (zapo' hkn hkj)) (zapc hk hkj (by decide))) (zapo' hkl hkj)) kf ff (zset_n (zset_n (zset_n hkf nfn) (zapo hk hkf)) nfl) (L.getD fr 0) (by omega)) ggX2_measure_X1_fileOf (List.mem_of_getElem? (i := 29) rfl) (by decide +kernel) rfl ⟨rfl, rfl⟩ ⟨by decide +kernel, Nat.le_of_ble_eq_true rfl, Nat.le_of_ble_eq_true rfl⟩ (zset_n (zset_n (zset_n hkj (zapo' hkn hkj)) (zapc hk hkj (by decide))) (zapo' hkl hkj)) rfl hl.1 rfl (Nat.le_of_ble_eq_true rfl) ⟨Nat.zero_le _, Nat.zero_le _⟩ rfl dX2_measure_89 (fun r_17 hr_18 => ?_)
      obtain rfl := show r_17 = _ from hr_18
      refine zk_VN_i (n := 1) (As := [.int (nI (ff (L.getD fr 0)))]) (rest := []) hx hb hml hts hown hZ hP (c_X3_endOf l D cA _ kt ht tn tr le sl fc bo dn hl0 (zset_n (zset_n (zset_n hkt (zapo' hkn hkt)) (zapc hk hkt (by decide))) (zapo' hkl hkt)) kb nb (fun k => nI (bn k)) (zset_n (zset_n (zset_n hkb nbn) (zapo hk hkb)) nbl) (by omega) (ff (L.getD fr 0)) (by omega)) ggX2_measure_X3_endOf (List.mem_of_getElem? (i := 32) rfl) (by decide +kernel) rfl ⟨rfl, rfl⟩ ⟨by decide +kernel, Nat.le_of_ble_eq_true rfl, Nat.le_of_ble_eq_true rfl⟩ (zset_n (zset_n (zset_n hkt (zapo' hkn hkt)) (zapc hk hkt (by decide))) (zapo' hkl hkt)) rfl hl.1 rfl (Nat.le_of_ble_eq_true rfl) ⟨Nat.zero_le _, Nat.zero_le _⟩ rfl dX2_measure_92 (fun r_19 hr_20 => ?_)
      obtain rfl := show r_19 = _ from hr_20
      refine lv_istore (lv' := [(7, .int (nI (bn (ff (L.getD fr 0) + 1)))), (0, .ref h0), (1, .ref hd), (2, .ref ht), (3, .ref hj), (4, .int (nI (to))), (5, .int (nI (ff (L.getD to 0)))), (6, .int (nI (fr)))]) hx hb dX2_measure_95 hl (by decide) rfl (fun ls hl => ?_)
      refine lv_aload_n hx hb dX2_measure_97 rfl (lv_at hl 1 rfl) ?_
      refine va_get (D := D) (ci := 2) (v := .ref al) (C := RX2) (T := TX2) (N := 6) hx hb hts iX2 hown hZ.1 hP k0 (zset_n (zset_s (zset_n hk (zapo' hkn hk))) (zapo' hkl hk)) rfl 2 (by decide) (hts (.fieldLink RX2 19 "TapeRobotics$Orders" "legs" "[I") (by decide +kernel)) (fun _ h9 => h9) rfl dX2_measure_98 ?_
      refine lv_iload hx hb dX2_measure_101 (lv_at hl 7 rfl) ?_
      refine lv_bipush (v := nI (7)) hx hb dX2_measure_103 (by decide) ?_
      refine zo_mul hx hb dX2_measure_105 ?_
      refine lv_iload hx hb dX2_measure_106 (lv_at hl 5 rfl) ?_
      refine zo_add hx hb dX2_measure_108 ?_
      refine lv_aload_n hx hb dX2_measure_109 rfl (lv_at hl 2 rfl) ?_
      refine lv_aload_n hx hb dX2_measure_110 rfl (lv_at hl 3 rfl) ?_
      refine lv_iload hx hb dX2_measure_111 (lv_at hl 0 rfl) ?_
      refine lv_iload hx hb dX2_measure_113 (lv_at hl 6 rfl) ?_
      refine zk_VN_i (n := 3) (As := [.ref ht, .int (nI (bn (ff (L.getD fr 0) + 1))), .int (nI (ff (L.getD to 0)))]) (rest := [.int (nI ((fr * 7) + to)), .ref al]) hx hb hml hts hown hZ hP (c_X0_fileTime l D cA _ kd hd dnu pa sp mt (nI (P)) tm ct (zset_n (zset_n (zset_n hkd (zapo' hkn hkd)) (zapc hk hkd (by decide))) (zapo' hkl hkd)) kt ht tn tr le sl fc bo dn hl0 (zset_n (zset_n (zset_n hkt (zapo' hkn hkt)) (zapc hk hkt (by decide))) (zapo' hkl hkt)) kb nb bn (zset_n (zset_n (zset_n hkb nbn) (zapo hk hkb)) nbl) (by omega) (bn (ff (L.getD fr 0) + 1)) (ff (L.getD to 0)) (by omega) (by omega) (by omega) (by omega) (by omega) (by omega) (by omega) (by omega)) ggX2_measure_X0_fileTime (List.mem_of_getElem? (i := 30) rfl) (by decide +kernel) rfl ⟨rfl, rfl⟩ ⟨by decide +kernel, Nat.le_of_ble_eq_true rfl, Nat.le_of_ble_eq_true rfl⟩ (zset_n (zset_n (zset_n hkd (zapo' hkn hkd)) (zapc hk hkd (by decide))) (zapo' hkl hkd)) rfl hl.1 rfl (Nat.le_of_ble_eq_true rfl) ⟨Nat.zero_le _, Nat.zero_le _⟩ rfl dX2_measure_115 (fun r_21 hr_22 => ?_)
      obtain rfl := show r_21 = _ from hr_22
      refine zx_val (y := nI (lgs pa sp tr le bn ff P L fr to)) (congrArg nI (lgs_n (by omega)).symm) ?_
      refine zw_SN_v (n := 3) (mc := 0) (ms := 0) (As := [.ref al, .int (nI ((fr * 7) + to)), .int (nI (lgs pa sp tr le bn ff P L fr to))]) (rest := []) (w1 := fun _ : Unit => (((ws.set kn (an, zInts cA 7 (colF fn L))).set k0 (h0, zOrd L.length an al ar ab ao)).set kl (al, zInts cA 56 u)).set kl (al, zInts cA 56 (upd u ((fr * 7) + to) (nI (lgs pa sp tr le bn ff P L fr to))))) hx hb hml hts hown hZ hP hD hS hA (c_X4_put l D cA _ _ kl al 56 u (zset_s (zset_n (zset_n hkl nnl) (zapo hk hkl))) ((fr * 7) + to) (by omega) (by omega) (nI (lgs pa sp tr le bn ff P L fr to))) ggX2_measure_X4_put (List.mem_of_getElem? (i := 31) rfl) (by decide +kernel) rfl ⟨rfl, rfl⟩ ⟨by decide +kernel, Nat.le_of_ble_eq_true rfl, Nat.le_of_ble_eq_true rfl⟩ hl.1 rfl (Nat.le_of_ble_eq_true rfl) ⟨Nat.le_of_ble_eq_true rfl, Nat.le_of_ble_eq_true rfl⟩ rfl dX2_measure_118 (fun u_25 H locs hr_24 hP hD hS hz_25 => ?_)
      have hP : va_P D vwCl ((((ws.set kn (an, zInts cA 7 (colF fn L))).set k0 (h0, zOrd L.length an al ar ab ao)).set kl (al, zInts cA 56 u)).set kl (al, zInts cA 56 (upd u ((fr * 7) + to) (nI (lgs pa sp tr le bn ff P L fr to))))) H := hP
      have hD : va_D A ((((ws.set kn (an, zInts cA 7 (colF fn L))).set k0 (h0, zOrd L.length an al ar ab ao)).set kl (al, zInts cA 56 u)).set kl (al, zInts cA 56 (upd u ((fr * 7) + to) (nI (lgs pa sp tr le bn ff P L fr to))))) := hD
      rw [zset2] at hP hD
      refine lv_iinc (v := nI (fr + 1)) (lv' := [(6, .int (nI (fr + 1))), (7, .int (nI (bn (ff (L.getD fr 0) + 1)))), (0, .ref h0), (1, .ref hd), (2, .ref ht), (3, .ref hj), (4, .int (nI (to))), (5, .int (nI (ff (L.getD to 0))))]) hx hb dX2_measure_121 hl (k := 7) rfl (zinc 1 _) (by decide) rfl (fun ls hl => ?_)
      refine lv_goto (tgt := 69) hx hb dX2_measure_124 (by decide) ?_
      exact ih69 (fr + 1, (upd u (fr * 7 + to) (nI (lgs pa sp tr le bn ff P L fr to)))) H locs ls (by first | omega | (dsimp only; omega)) ⟨lv_sub hl [2, 3, 4, 5, 6, 7, 0] rfl, hP, hD, hS, (fun a b h1 h2 => by show upd u (fr * 7 + to) _ (a * 7 + b) = _; rw [pk_un (by omega)]; exact hu1 a b h1 h2), (by show upd u (fr * 7 + to) _ (7 * 7 + to) = _; rw [pk_un (by omega)]; exact hu2), (fun a h1 => by
            show upd u (fr * 7 + to) _ (a * 7 + to) = _
            by_cases e9 : a = fr
            · rw [e9]; exact pk_us
            · rw [pk_un (by omega)]; exact hu3 a (by omega)), by dsimp only; omega⟩
