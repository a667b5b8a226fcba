set_option maxHeartbeats 4000000 in
set_option maxRecDepth 100000 in
theorem c_X5_arrange (l : Launch) (D : va_G) (cA : Nat → ClassId) (sz : Nat) (ws : va_W) {gd : Nat → Nat} {n : Nat} {tr : Nat → Nat} {le : Nat → Nat} {sl : Nat → Nat} {mo : Nat → Option Nat} {la : Nat → Bool} {fc : Nat → Nat} {sf : Nat → Int32} {bf : Nat → Int32} {nd : Nat} {mk : Nat → Nat} {ck : Nat → Int32} {ct : Nat → Nat} {hd : Nat → Option Nat} {pf : Nat → Int32} {nj : Nat} {jt : Nat → Int32} {jf : Nat → Nat} {dl : Nat → Nat} {fin : Nat → Bool} {my : Nat} {fls : Nat → Int32} {fod : Nat → Int32} {fle : Nat → Int32} {fro : Nat → Int32} {th : Nat} {bo : Nat → Nat → Nat} {pq : Nat → Int32} {fw : Nat → Int32} {dn : Nat} (hm : mL cA ws gd n tr le sl mo la fc sf bf nd mk ck ct hd pf nj jt jf dl fin my fls fod fle fro th) (hI : zI n tr le sl mo fc bo nd mk ct hd pq nj fw jf dl) (hM : mI n la fc bo nd ck ct hd pq pf nj fw jt fin sf bf dn) (j9 t9 P9 : Nat) (hj9 : j9 < nd) (hht : hd j9 = some t9) (hpq : pq j9 = nI P9) (hP9 : P9 ≤ tr t9 * le t9) : Met l yX5_arrange wsX5_arrange ({ frames := 4, cells := 0, slots := 0, locals := 98 }) (va_Pc [.ref (gd 0), .int (nI (j9))] (zM D cA (ws) sz)) (va_Qi (fun (r : Int32) (u : va_W × (Nat → Int32)) => r = nI (BT (LG mk tr le bo jf j9 t9 P9 (wl fw (nI t9) nj)) (wl fw (nI t9) nj).length (np 0) 7) ∧ mKeep ws u.1 ∧ mL cA u.1 gd n tr le sl mo la fc sf bf nd mk ck ct hd pf nj jt jf dl fin (wl fw (nI t9) nj).length (colF fls (wl fw (nI t9) nj)) (colF fod (BO (LG mk tr le bo jf j9 t9 P9 (wl fw (nI t9) nj)) (wl fw (nI t9) nj).length (np 0) 7)) u.2 fro th) (fun u => zB D (va_A (ws) sz) (u.1)) (va_A (ws) sz)) 0 0 (va_A (ws) sz) := by
  refine zOpen (cc := cX5_arrange) (maxL := 7) (ret := (some .int)) (own := RX5) (by decide) rfl rfl (Nat.le_of_ble_eq_true rfl) ?_
  intro p e s m below meth c ls hx hb hr hml hts hown hlocks hnm ⟨hZ, hP, hD0, hsz⟩ hl
  subst hsz
  have hD := hD0.self (sz := s.heap.size)
  generalize hAe : va_A (ws) s.heap.size = A at hD ⊢
  have hA : ∀ q : Nat, s.heap.size ≤ q → A q := fun q h => by rw [← hAe]; exact Or.inr h
  have hS : va_S A s.heap s.heap [] := va_S.rf
  have iX5 : ∀ w ∈ wsX50, w ∈ wsX5_arrange := by decide +kernel
  have hl : lv_has ls 7 [(0, .ref (gd 0)), (1, .int (nI (j9)))] := hl
  have hm0 := hm
  have hI0 := hI
  have hM0 := hM
  obtain ⟨hn8, hd3, hj60, hIT, hID, hIJ, hIdl, hIw⟩ := hI
  obtain ⟨hM1, hM2, hM3, hM4, hM5, hM6, hM7⟩ := hM
  obtain ⟨m0, m1, m2, m3, m4, m5, m6, m7, m8, m9, m10, m11, m12, m13, m14, m15, m16, m17, m18, m19, m20, m21⟩ := hm
  obtain ⟨hmk, hct, -, hps⟩ := hID j9 hj9
  obtain ⟨htn, hmoj, -⟩ := hps t9 hht
  have hpf : pf j9 = nI P9 := (hM4 j9 t9 hj9 hht).trans hpq
  obtain ⟨htr1, htr8, hle4, hle200, -⟩ := hIT t9 htn
  have htr : 1 ≤ tr t9 ∧ tr t9 ≤ 8 := ⟨htr1, htr8⟩
  have hle : 4 ≤ le t9 ∧ le t9 ≤ 200 := ⟨hle4, hle200⟩
  have hj3 : j9 < 3 := by omega
  have ht8 : t9 < 8 := by omega
  have hfw : ∀ k, k < nj → fw k = if fin k then -1 else jt k := fun k hk => (hM5 k hk).1
  have hw7 := hIw t9 htn
  have hJ := mJ_of hI0 hM0 htn fls
  have hLGb : ∀ a b, (LG mk tr le bo jf j9 t9 P9 (wl fw (nI t9) nj)) a b ≤ 100000 := fun a b => LG_of hI0 htn j9 P9 a b
  have hBT : ∀ p a, BT (LG mk tr le bo jf j9 t9 P9 (wl fw (nI t9) nj)) (wl fw (nI t9) nj).length p a ≤ 700000 := fun p a => Nat.le_trans (BT_le (fun a b _ => hLGb a b) p a) (by omega)
  have hM7p := pow7 hw7
  have hM0p : 0 < 2 ^ (wl fw (nI t9) nj).length := Nat.pow_pos (by omega)
  refine lv_aload_n hx hb dX5_arrange_0 rfl (lv_at hl 0 rfl) ?_
  refine lv_iload_n hx hb dX5_arrange_1 rfl (lv_at hl 1 rfl) ?_
  refine zw_V_v (n := 1) (mc := 0) (ms := 0) (As := [.int (nI (j9))]) (rest := []) (w1 := fun u : va_W => u) hx hb hml hts hown hZ hP hD hS hA (c_X5_listJobs l D cA _ _ hm0 fw hfw j9 t9 hj3 hht hj60 ht8 hw7) gX5_arrange_X5_listJobs rfl rfl ⟨rfl, rfl⟩ ⟨by decide +kernel, Nat.le_of_ble_eq_true rfl, Nat.le_of_ble_eq_true rfl⟩ m0 rfl hl.1 rfl (Nat.le_of_ble_eq_true rfl) ⟨Nat.le_of_ble_eq_true rfl, Nat.le_of_ble_eq_true rfl⟩ rfl dX5_arrange_2 (fun u_3 H locs hr_2 hP hD hS hz_3 => ?_)
  have hP : va_P D vwCl (u_3) H := hP
  have hD : va_D A (u_3) := hD
  obtain ⟨hkp_3, hm_3⟩ := hr_2
  obtain ⟨m0_3, m1_3, m2_3, m3_3, m4_3, m5_3, m6_3, m7_3, m8_3, m9_3, m10_3, m11_3, m12_3, m13_3, m14_3, m15_3, m16_3, m17_3, m18_3, m19_3, m20_3, m21_3⟩ := id hm_3
  have hP : va_P D vwCl (u_3) H := hP
  have hD : va_D A (u_3) := hD
  refine lv_iconst (v := nI (0)) hx hb dX5_arrange_5 (by decide) ?_
  refine lv_istore_n (lv' := [(2, .int (nI (0))), (0, .ref (gd 0)), (1, .int (nI (j9)))]) hx hb dX5_arrange_6 rfl hl (by decide) rfl (fun ls hl => ?_)
  refine z_loopW (α := Nat × (Nat → Int32) × va_W) (fun v => 2 ^ (wl fw (nI t9) nj).length - v.1) (fun v H locs ls => lv_has ls 7 [(0, .ref (gd 0)), (1, .int (nI (j9))), (2, .int (nI (v.1)))] ∧ va_P D vwCl (v.2.2) H ∧ va_D A (v.2.2) ∧ va_S A s.heap H locs ∧ mKeep ws v.2.2 ∧ mL cA v.2.2 gd n tr le sl mo la fc sf bf nd mk ck ct hd pf nj jt jf dl fin (wl fw (nI t9) nj).length (colF fls (wl fw (nI t9) nj)) fod v.2.1 fro th ∧ (∀ r, r < v.1 → ∀ a, (a < (wl fw (nI t9) nj).length ∨ a = 7) → v.2.1 (8 * r + a) = nI (BT (LG mk tr le bo jf j9 t9 P9 (wl fw (nI t9) nj)) (wl fw (nI t9) nj).length (sb r) a)) ∧ v.1 ≤ 2 ^ (wl fw (nI t9) nj).length) (fun _ => []) (0, fle, u_3) ⟨lv_sub hl [1, 2, 0] rfl, hP, hD, hS, (mKeep_tr mKeep_rf hkp_3), hm_3, (fun r h => absurd h (Nat.not_lt_zero r)), Nat.zero_le _⟩ ?_
  intro v ih7 H locs ls hv
  obtain ⟨se, R, w9⟩ := v
  obtain ⟨hl, hP, hD, hS, hI⟩ := hv
  have hP : va_P D vwCl (w9) H := hP
  have hD : va_D A (w9) := hD
  have hl : lv_has ls 7 [(0, .ref (gd 0)), (1, .int (nI (j9))), (2, .int (nI (se)))] := hl
  have hI : mKeep ws w9 ∧ mL cA w9 gd n tr le sl mo la fc sf bf nd mk ck ct hd pf nj jt jf dl fin (wl fw (nI t9) nj).length (colF fls (wl fw (nI t9) nj)) fod R fro th ∧ (∀ r, r < se → ∀ a, (a < (wl fw (nI t9) nj).length ∨ a = 7) → R (8 * r + a) = nI (BT (LG mk tr le bo jf j9 t9 P9 (wl fw (nI t9) nj)) (wl fw (nI t9) nj).length (sb r) a)) ∧ se ≤ 2 ^ (wl fw (nI t9) nj).length := hI
  obtain ⟨hkp9, hm0, hI⟩ := hI
  obtain ⟨m0, m1, m2, m3, m4, m5, m6, m7, m8, m9, m10, m11, m12, m13, m14, m15, m16, m17, m18, m19, m20, m21⟩ := id hm0
  obtain ⟨hR, hs⟩ := hI
  have hs7 : se ≤ 128 := by omega
  refine lv_iload_n hx hb dX5_arrange_7 rfl (lv_at hl 2 rfl) ?_
  refine lv_iconst (v := nI (1)) hx hb dX5_arrange_8 (by decide) ?_
  refine lv_aload_n hx hb dX5_arrange_9 rfl (lv_at hl 0 rfl) ?_
  refine va_get (D := D) (ci := 5) (v := .int (nI ((wl fw (nI t9) nj).length))) (C := RX5) (T := TX5) (N := 26) hx hb hts iX5 hown hZ.1 hP 0 m0 rfl 20 (by decide) (hts (.fieldLink RX5 164 "TapeRoboticsModel" "many" "I") (by decide +kernel)) (fun _ h9 => h9) rfl dX5_arrange_10 ?_
  refine lv_ishl hx hb dX5_arrange_13 ?_
  refine zx_val (y := nI (2 ^ (wl fw (nI t9) nj).length)) (zshl _ (by omega)) ?_
  refine zc_ge (tgt := 148) hx hb (by omega) (by omega) dX5_arrange_14 (by decide) (fun c_4 => ?_) (fun c_4 => ?_)
  · have hR0 : ∀ r, r < 2 ^ (wl fw (nI t9) nj).length → ∀ a, (a < (wl fw (nI t9) nj).length ∨ a = 7) → R (8 * r + a) = nI (BT (LG mk tr le bo jf j9 t9 P9 (wl fw (nI t9) nj)) (wl fw (nI t9) nj).length (sb r) a) := fun r h1 a h2 => hR r (by omega) a h2
    clear hR hs hs7
    refine lv_iconst (v := nI (1)) hx hb dX5_arrange_148 (by decide) ?_
    refine lv_aload_n hx hb dX5_arrange_149 rfl (lv_at hl 0 rfl) ?_
    refine va_get (D := D) (ci := 5) (v := .int (nI ((wl fw (nI t9) nj).length))) (C := RX5) (T := TX5) (N := 26) hx hb hts iX5 hown hZ.1 hP 0 m0 rfl 20 (by decide) (hts (.fieldLink RX5 164 "TapeRoboticsModel" "many" "I") (by decide +kernel)) (fun _ h9 => h9) rfl dX5_arrange_150 ?_
    refine lv_ishl hx hb dX5_arrange_153 ?_
    refine zx_val (y := nI (2 ^ (wl fw (nI t9) nj).length)) (zshl _ (by omega)) ?_
    refine lv_iconst (v := nI (1)) hx hb dX5_arrange_154 (by decide) ?_
    refine zo_sub hx hb (by omega) dX5_arrange_155 ?_
    refine lv_istore_n (lv' := [(2, .int (nI ((2 ^ (wl fw (nI t9) nj).length) - 1))), (0, .ref (gd 0)), (1, .int (nI (j9)))]) hx hb dX5_arrange_156 rfl hl (by decide) rfl (fun ls hl => ?_)
    refine lv_bipush (v := nI (7)) hx hb dX5_arrange_157 (by decide) ?_
    refine lv_istore_n (lv' := [(3, .int (nI (7))), (2, .int (nI ((2 ^ (wl fw (nI t9) nj).length) - 1))), (0, .ref (gd 0)), (1, .int (nI (j9)))]) hx hb dX5_arrange_159 rfl hl (by decide) rfl (fun ls hl => ?_)
    refine lv_iconst (v := nI (0)) hx hb dX5_arrange_160 (by decide) ?_
    refine lv_istore (lv' := [(4, .int (nI (0))), (3, .int (nI (7))), (2, .int (nI ((2 ^ (wl fw (nI t9) nj).length) - 1))), (0, .ref (gd 0)), (1, .int (nI (j9)))]) hx hb dX5_arrange_161 hl (by decide) rfl (fun ls hl => ?_)
    refine z_loopW (α := Nat × Nat × Nat × List Nat × va_W) (fun v => (wl fw (nI t9) nj).length - v.1) (fun v H locs ls => lv_has ls 7 [(0, .ref (gd 0)), (1, .int (nI (j9))), (4, .int (nI (v.1))), (2, .int (nI (v.2.1))), (3, .int (nI (v.2.2.1)))] ∧ va_P D vwCl (v.2.2.2.2) H ∧ va_D A (v.2.2.2.2) ∧ va_S A s.heap H locs ∧ mKeep ws v.2.2.2.2 ∧ mL cA v.2.2.2.2 gd n tr le sl mo la fc sf bf nd mk ck ct hd pf nj jt jf dl fin (wl fw (nI t9) nj).length (colF fls (wl fw (nI t9) nj)) (colF fod v.2.2.2.1) R fro th ∧ BO (LG mk tr le bo jf j9 t9 P9 (wl fw (nI t9) nj)) (wl fw (nI t9) nj).length (np 0) 7 = v.2.2.2.1 ++ BO (LG mk tr le bo jf j9 t9 P9 (wl fw (nI t9) nj)) (wl fw (nI t9) nj).length (sb v.2.1) v.2.2.1 ∧ v.2.2.2.1.length = v.1 ∧ (v.2.2.1 < (wl fw (nI t9) nj).length ∨ v.2.2.1 = 7) ∧ v.2.1 < 2 ^ (wl fw (nI t9) nj).length ∧ v.1 ≤ (wl fw (nI t9) nj).length) (fun _ => []) (0, (2 ^ (wl fw (nI t9) nj).length) - 1, 7, [], w9) ⟨lv_sub hl [3, 4, 0, 2, 1] rfl, hP, hD, hS, hkp9, (by rw [colF_0]; exact hm0), (by rw [← BO_full]; rfl), rfl, Or.inr rfl, (by dsimp only; omega), Nat.zero_le _⟩ ?_
    intro v ih163 H locs ls hv
    obtain ⟨i, se, a, pre, w9⟩ := v
    obtain ⟨hl, hP, hD, hS, hI⟩ := hv
    have hP : va_P D vwCl (w9) H := hP
    have hD : va_D A (w9) := hD
    have hl : lv_has ls 7 [(0, .ref (gd 0)), (1, .int (nI (j9))), (4, .int (nI (i))), (2, .int (nI (se))), (3, .int (nI (a)))] := hl
    have hI : mKeep ws w9 ∧ mL cA w9 gd n tr le sl mo la fc sf bf nd mk ck ct hd pf nj jt jf dl fin (wl fw (nI t9) nj).length (colF fls (wl fw (nI t9) nj)) (colF fod pre) R fro th ∧ BO (LG mk tr le bo jf j9 t9 P9 (wl fw (nI t9) nj)) (wl fw (nI t9) nj).length (np 0) 7 = pre ++ BO (LG mk tr le bo jf j9 t9 P9 (wl fw (nI t9) nj)) (wl fw (nI t9) nj).length (sb se) a ∧ pre.length = i ∧ (a < (wl fw (nI t9) nj).length ∨ a = 7) ∧ se < 2 ^ (wl fw (nI t9) nj).length ∧ i ≤ (wl fw (nI t9) nj).length := hI
    obtain ⟨hkp9, hm0, hI⟩ := hI
    obtain ⟨m0, m1, m2, m3, m4, m5, m6, m7, m8, m9, m10, m11, m12, m13, m14, m15, m16, m17, m18, m19, m20, m21⟩ := id hm0
    obtain ⟨hbo, hpl, hla, hslt, hi⟩ := hI
    have hs7 : se ≤ 128 := by omega
    have hcn : i + cnt (sb se) (wl fw (nI t9) nj).length = (wl fw (nI t9) nj).length := by
      have h1 := congrArg List.length hbo
      rw [List.length_append, BO_length, BO_length, np_0, cnt_all] at h1; omega
    refine lv_iload hx hb dX5_arrange_163 (lv_at hl 2 rfl) ?_
    refine lv_aload_n hx hb dX5_arrange_165 rfl (lv_at hl 0 rfl) ?_
    refine va_get (D := D) (ci := 5) (v := .int (nI ((wl fw (nI t9) nj).length))) (C := RX5) (T := TX5) (N := 26) hx hb hts iX5 hown hZ.1 hP 0 m0 rfl 20 (by decide) (hts (.fieldLink RX5 164 "TapeRoboticsModel" "many" "I") (by decide +kernel)) (fun _ h9 => h9) rfl dX5_arrange_166 ?_
    refine zc_ge (tgt := 255) hx hb (by omega) (by omega) dX5_arrange_169 (by decide) (fun c_5 => ?_) (fun c_5 => ?_)
    · refine lv_aload_n hx hb dX5_arrange_255 rfl (lv_at hl 0 rfl) ?_
      refine va_get (D := D) (ci := 5) (v := .ref (gd 20)) (C := RX5) (T := TX5) (N := 26) hx hb hts iX5 hown hZ.1 hP 0 m0 rfl 23 (by decide) (hts (.fieldLink RX5 68 "TapeRoboticsModel" "least" "[I") (by decide +kernel)) (fun _ h9 => h9) rfl dX5_arrange_256 ?_
      refine lv_bipush (v := nI (8)) hx hb dX5_arrange_259 (by decide) ?_
      refine lv_iconst (v := nI (1)) hx hb dX5_arrange_261 (by decide) ?_
      refine lv_aload_n hx hb dX5_arrange_262 rfl (lv_at hl 0 rfl) ?_
      refine va_get (D := D) (ci := 5) (v := .int (nI ((wl fw (nI t9) nj).length))) (C := RX5) (T := TX5) (N := 26) hx hb hts iX5 hown hZ.1 hP 0 m0 rfl 20 (by decide) (hts (.fieldLink RX5 164 "TapeRoboticsModel" "many" "I") (by decide +kernel)) (fun _ h9 => h9) rfl dX5_arrange_263 ?_
      refine lv_ishl hx hb dX5_arrange_266 ?_
      refine zx_val (y := nI (2 ^ (wl fw (nI t9) nj).length)) (zshl _ (by omega)) ?_
      refine lv_iconst (v := nI (1)) hx hb dX5_arrange_267 (by decide) ?_
      refine zo_sub hx hb (by omega) dX5_arrange_268 ?_
      refine zo_mul hx hb dX5_arrange_269 ?_
      refine lv_bipush (v := nI (7)) hx hb dX5_arrange_270 (by decide) ?_
      refine zo_add hx hb dX5_arrange_272 ?_
      refine va_iald hx hb hZ.1 hP 20 0 m20 rfl (vp_in_nI (show (8 * ((2 ^ (wl fw (nI t9) nj).length) - 1)) + 7 < 1024 by omega) (by omega)) dX5_arrange_273 ?_
      rw [nI_clamp (show (8 * ((2 ^ (wl fw (nI t9) nj).length) - 1)) + 7 < 2 ^ 31 by omega)]
      refine zx_val (y := nI (BT (LG mk tr le bo jf j9 t9 P9 (wl fw (nI t9) nj)) (wl fw (nI t9) nj).length (np 0) 7)) (by rw [hR0 (2 ^ (wl fw (nI t9) nj).length - 1) (by omega) 7 (Or.inr rfl), BT_full]) ?_
      exact zr_qi (S := va_W × (Nat → Int32)) (w1 := fun u => u.1) (w9, R) hx hb hr hlocks (⟨rfl, hkp9, (by have h9 := hm0; rw [show pre = BO (LG mk tr le bo jf j9 t9 P9 (wl fw (nI t9) nj)) (wl fw (nI t9) nj).length (np 0) 7 by rw [hbo, show BO (LG mk tr le bo jf j9 t9 P9 (wl fw (nI t9) nj)) (wl fw (nI t9) nj).length (sb se) a = [] from List.length_eq_zero_iff.mp (by rw [BO_length]; omega), List.append_nil]] at h9; exact h9)⟩) hP hD hS (rfl) dX5_arrange_274
    · obtain ⟨b9, hba⟩ : ∃ b, aminP (fun b => (LG mk tr le bo jf j9 t9 P9 (wl fw (nI t9) nj)) a b + BT (LG mk tr le bo jf j9 t9 P9 (wl fw (nI t9) nj)) (wl fw (nI t9) nj).length (rem (sb se) b) b) (sb se) (wl fw (nI t9) nj).length = some b := by
        rcases h9 : aminP (fun b => (LG mk tr le bo jf j9 t9 P9 (wl fw (nI t9) nj)) a b + BT (LG mk tr le bo jf j9 t9 P9 (wl fw (nI t9) nj)) (wl fw (nI t9) nj).length (rem (sb se) b) b) (sb se) (wl fw (nI t9) nj).length with _ | b
        · have := cnt_pos h9; omega
        · exact ⟨b, rfl⟩
      obtain ⟨hbm, hbb⟩ := aminP_mem _ b9 hba
      obtain ⟨-, hb2⟩ := aminP_least _ b9 hba
      have hBTe := (BT_some hba).1
      refine lv_iconst (v := nI (0)) hx hb dX5_arrange_172 (by decide) ?_
      refine lv_istore (lv' := [(5, .int (nI (0))), (0, .ref (gd 0)), (1, .int (nI (j9))), (4, .int (nI (i))), (2, .int (nI (se))), (3, .int (nI (a)))]) hx hb dX5_arrange_173 hl (by decide) rfl (fun ls hl => ?_)
      refine z_loop (α := Nat) (fun v => (wl fw (nI t9) nj).length - v) (fun v ls => lv_has ls 7 [(0, .ref (gd 0)), (1, .int (nI (j9))), (2, .int (nI (se))), (3, .int (nI (a))), (4, .int (nI (i))), (5, .int (nI (v)))] ∧ v ≤ b9) (fun _ => []) (0) ⟨lv_sub hl [1, 2, 4, 5, 3, 0] rfl, Nat.zero_le _⟩ ?_
      intro v ih175 ls hv
      obtain ⟨k, rfl⟩ : ∃ z, z = v := ⟨_, rfl⟩
      obtain ⟨hl, hI⟩ := hv
      have hl : lv_has ls 7 [(0, .ref (gd 0)), (1, .int (nI (j9))), (2, .int (nI (se))), (3, .int (nI (a))), (4, .int (nI (i))), (5, .int (nI (k)))] := hl
      have hI : k ≤ b9 := hI
      have hk : k ≤ b9 := hI
      have hdk : se / 2 ^ k ≤ se := Nat.div_le_self _ _
      refine lv_iload_n hx hb dX5_arrange_175 rfl (lv_at hl 2 rfl) ?_
      refine lv_iload hx hb dX5_arrange_176 (lv_at hl 5 rfl) ?_
      refine lv_ishr hx hb dX5_arrange_178 ?_
      refine zx_val (y := nI (se / 2 ^ k)) (zshr (by omega) (by omega)) ?_
      refine lv_iconst (v := nI (1)) hx hb dX5_arrange_179 (by decide) ?_
      refine lv_iand hx hb dX5_arrange_180 ?_
      refine zx_val (y := nI (se / 2 ^ k % 2)) (z_and1 (by omega)) ?_
      refine zf_eq (tgt := 224) hx hb (by omega) dX5_arrange_181 (by decide) (fun c_6 => ?_) (fun c_6 => ?_)
      · refine lv_iinc (v := nI (k + 1)) (lv' := [(5, .int (nI (k + 1))), (0, .ref (gd 0)), (1, .int (nI (j9))), (2, .int (nI (se))), (3, .int (nI (a))), (4, .int (nI (i)))]) hx hb dX5_arrange_224 hl (k := 5) rfl (zinc 1 _) (by decide) rfl (fun ls hl => ?_)
        refine lv_goto (tgt := 175) hx hb dX5_arrange_227 (by decide) ?_
        exact ih175 (k + 1) ls (by first | omega | (dsimp only; omega)) ⟨lv_sub hl [1, 2, 3, 4, 5, 0] rfl, by have h9 : k ≠ b9 := (fun q => by have h8 := hbb; rw [← q, sb_bit] at h8; have h7 := of_decide_eq_true h8; omega); omega⟩
      · have hbit : sb se k = true := by rw [sb_bit]; exact decide_eq_true (by omega)
        have hxlt := sb_lt hbit
        have hRk := hR0 (se ^^^ 2 ^ k) (by omega) k (Or.inl (by omega))
        rw [sb_xor hbit] at hRk
        have hRa := hR0 se hslt a hla
        have hb1 := hLGb a k
        have hb3 := hBT (rem (sb se) k) k
        have hb4 := hBT (sb se) a
        refine lv_aload_n hx hb dX5_arrange_184 rfl (lv_at hl 0 rfl) ?_
        refine lv_iload_n hx hb dX5_arrange_185 rfl (lv_at hl 1 rfl) ?_
        refine lv_iload_n hx hb dX5_arrange_186 rfl (lv_at hl 3 rfl) ?_
        refine lv_iload hx hb dX5_arrange_187 (lv_at hl 5 rfl) ?_
        refine zk_V_i (n := 3) (As := [.int (nI (j9)), .int (nI (a)), .int (nI (k))]) (rest := []) hx hb hml hts hown hZ hP (c_X5_timeOf l D cA _ hm0 bo t9 (wl fw (nI t9) nj) hJ ht8 j9 P9 hj3 hht hmk hpf hP9 htr hle a k (by first | assumption | omega) (by first | assumption | omega)) gX5_arrange_X5_timeOf rfl rfl ⟨rfl, rfl⟩ ⟨by decide +kernel, Nat.le_of_ble_eq_true rfl, Nat.le_of_ble_eq_true rfl⟩ m0 rfl hl.1 rfl (Nat.le_of_ble_eq_true rfl) ⟨Nat.le_of_ble_eq_true rfl, Nat.le_of_ble_eq_true rfl⟩ rfl dX5_arrange_189 (fun r_7 hr_8 => ?_)
        obtain rfl := show r_7 = _ from hr_8
        refine lv_aload_n hx hb dX5_arrange_192 rfl (lv_at hl 0 rfl) ?_
        refine va_get (D := D) (ci := 5) (v := .ref (gd 20)) (C := RX5) (T := TX5) (N := 26) hx hb hts iX5 hown hZ.1 hP 0 m0 rfl 23 (by decide) (hts (.fieldLink RX5 68 "TapeRoboticsModel" "least" "[I") (by decide +kernel)) (fun _ h9 => h9) rfl dX5_arrange_193 ?_
        refine lv_bipush (v := nI (8)) hx hb dX5_arrange_196 (by decide) ?_
        refine lv_iload_n hx hb dX5_arrange_198 rfl (lv_at hl 2 rfl) ?_
        refine lv_iconst (v := nI (1)) hx hb dX5_arrange_199 (by decide) ?_
        refine lv_iload hx hb dX5_arrange_200 (lv_at hl 5 rfl) ?_
        refine lv_ishl hx hb dX5_arrange_202 ?_
        refine zx_val (y := nI (2 ^ k)) (zshl k (by omega)) ?_
        refine lv_ixor hx hb dX5_arrange_203 ?_
        refine zx_val (y := nI (se ^^^ 2 ^ k)) (zxor _ _) ?_
        refine zo_mul hx hb dX5_arrange_204 ?_
        refine lv_iload hx hb dX5_arrange_205 (lv_at hl 5 rfl) ?_
        refine zo_add hx hb dX5_arrange_207 ?_
        refine va_iald hx hb hZ.1 hP 20 0 m20 rfl (vp_in_nI (show (8 * (se ^^^ 2 ^ k)) + k < 1024 by omega) (by omega)) dX5_arrange_208 ?_
        rw [nI_clamp (show (8 * (se ^^^ 2 ^ k)) + k < 2 ^ 31 by omega)]
        refine zx_val (y := nI (BT (LG mk tr le bo jf j9 t9 P9 (wl fw (nI t9) nj)) (wl fw (nI t9) nj).length (rem (sb se) k) k)) (hRk) ?_
        refine zo_add hx hb dX5_arrange_209 ?_
        refine lv_aload_n hx hb dX5_arrange_210 rfl (lv_at hl 0 rfl) ?_
        refine va_get (D := D) (ci := 5) (v := .ref (gd 20)) (C := RX5) (T := TX5) (N := 26) hx hb hts iX5 hown hZ.1 hP 0 m0 rfl 23 (by decide) (hts (.fieldLink RX5 68 "TapeRoboticsModel" "least" "[I") (by decide +kernel)) (fun _ h9 => h9) rfl dX5_arrange_211 ?_
        refine lv_bipush (v := nI (8)) hx hb dX5_arrange_214 (by decide) ?_
        refine lv_iload_n hx hb dX5_arrange_216 rfl (lv_at hl 2 rfl) ?_
        refine zo_mul hx hb dX5_arrange_217 ?_
        refine lv_iload_n hx hb dX5_arrange_218 rfl (lv_at hl 3 rfl) ?_
        refine zo_add hx hb dX5_arrange_219 ?_
        refine va_iald hx hb hZ.1 hP 20 0 m20 rfl (vp_in_nI (show (8 * se) + a < 1024 by omega) (by omega)) dX5_arrange_220 ?_
        rw [nI_clamp (show (8 * se) + a < 2 ^ 31 by omega)]
        refine zx_val (y := nI (BT (LG mk tr le bo jf j9 t9 P9 (wl fw (nI t9) nj)) (wl fw (nI t9) nj).length (sb se) a)) (hRa) ?_
        refine zc_eq (tgt := 230) hx hb (by omega) (by omega) dX5_arrange_221 (by decide) (fun c_9 => ?_) (fun c_9 => ?_)
        · have hkb : k = b9 := by
            rcases Nat.lt_or_ge k b9 with h9 | h9
            · have h8 := hb2 k h9 hbit
              first | omega | (dsimp only at h8; omega)
            · omega
          have hba2 : aminP (fun b => (LG mk tr le bo jf j9 t9 P9 (wl fw (nI t9) nj)) a b + BT (LG mk tr le bo jf j9 t9 P9 (wl fw (nI t9) nj)) (wl fw (nI t9) nj).length (rem (sb se) b) b) (sb se) (wl fw (nI t9) nj).length = some k := by rw [hkb]; exact hba
          have hkm : k < (wl fw (nI t9) nj).length := by omega
          refine lv_aload_n hx hb dX5_arrange_230 rfl (lv_at hl 0 rfl) ?_
          refine va_get (D := D) (ci := 5) (v := .ref (gd 19)) (C := RX5) (T := TX5) (N := 26) hx hb hts iX5 hown hZ.1 hP 0 m0 rfl 22 (by decide) (hts (.fieldLink RX5 65 "TapeRoboticsModel" "order" "[I") (by decide +kernel)) (fun _ h9 => h9) rfl dX5_arrange_231 ?_
          refine lv_iload hx hb dX5_arrange_234 (lv_at hl 4 rfl) ?_
          refine lv_iload hx hb dX5_arrange_236 (lv_at hl 5 rfl) ?_
          refine va_iast hx hb hZ.1 hP hD hS 19 0 m19 rfl (vp_in_nI (show i < 7 by omega) (by omega)) dX5_arrange_238 (fun H locs hP hD hS => ?_)
          rw [nI_clamp (show i < 2 ^ 31 by omega)] at hP hD
          have hP : va_P D vwCl (w9.set 19 (gd 19, zInts cA 7 (va_up (colF fod pre) i (nI (k))))) H := hP
          have hD : va_D A (w9.set 19 (gd 19, zInts cA 7 (va_up (colF fod pre) i (nI (k))))) := hD
          refine lv_iload_n hx hb dX5_arrange_239 rfl (lv_at hl 2 rfl) ?_
          refine lv_iconst (v := nI (1)) hx hb dX5_arrange_240 (by decide) ?_
          refine lv_iload hx hb dX5_arrange_241 (lv_at hl 5 rfl) ?_
          refine lv_ishl hx hb dX5_arrange_243 ?_
          refine zx_val (y := nI (2 ^ k)) (zshl k (by omega)) ?_
          refine lv_ixor hx hb dX5_arrange_244 ?_
          refine zx_val (y := nI (se ^^^ 2 ^ k)) (zxor _ _) ?_
          refine lv_istore_n (lv' := [(2, .int (nI (se ^^^ 2 ^ k))), (0, .ref (gd 0)), (1, .int (nI (j9))), (3, .int (nI (a))), (4, .int (nI (i))), (5, .int (nI (k)))]) hx hb dX5_arrange_245 rfl hl (by decide) rfl (fun ls hl => ?_)
          refine lv_iload hx hb dX5_arrange_246 (lv_at hl 5 rfl) ?_
          refine lv_istore_n (lv' := [(3, .int (nI (k))), (2, .int (nI (se ^^^ 2 ^ k))), (0, .ref (gd 0)), (1, .int (nI (j9))), (4, .int (nI (i))), (5, .int (nI (k)))]) hx hb dX5_arrange_248 rfl hl (by decide) rfl (fun ls hl => ?_)
          refine lv_iinc (v := nI (i + 1)) (lv' := [(4, .int (nI (i + 1))), (3, .int (nI (k))), (2, .int (nI (se ^^^ 2 ^ k))), (0, .ref (gd 0)), (1, .int (nI (j9))), (5, .int (nI (k)))]) hx hb dX5_arrange_249 hl (k := 4) rfl (zinc 1 _) (by decide) rfl (fun ls hl => ?_)
          refine lv_goto (tgt := 163) hx hb dX5_arrange_252 (by decide) ?_
          exact ih163 (i + 1, se ^^^ 2 ^ k, k, (pre ++ [k]), (w9.set 19 (gd 19, zInts cA 7 (va_up (colF fod pre) i (nI (k)))))) H locs ls (by first | omega | (dsimp only; omega)) ⟨lv_sub hl [3, 4, 0, 2, 1] rfl, hP, hD, hS, (mKeep_set hkp9 (by decide)), (by
              have e1 : va_up (colF fod pre) i (nI k) = colF fod (pre ++ [k]) := colF_y' hpl k
              show mL cA (w9.set 19 (gd 19, zInts cA 7 (va_up (colF fod pre) i (nI (k))))) gd n tr le sl mo la fc sf bf nd mk ck ct hd pf nj jt jf dl fin (wl fw (nI t9) nj).length (colF fls (wl fw (nI t9) nj)) (colF fod (pre ++ [k])) R fro th
              rw [← e1]
              exact (mL_19 hm0 ((va_up (colF fod pre) i (nI (k)))))), (by show _ = (pre ++ [k]) ++ BO (LG mk tr le bo jf j9 t9 P9 (wl fw (nI t9) nj)) (wl fw (nI t9) nj).length (sb (se ^^^ 2 ^ k)) k; rw [hbo, (BT_some hba2).2, sb_xor hbit, List.append_assoc]; rfl), (by show (pre ++ [k]).length = _; rw [List.length_append]; simp; omega), Or.inl hkm, (by dsimp only; omega), by first | omega | (dsimp only; omega)⟩
        · refine lv_iinc (v := nI (k + 1)) (lv' := [(5, .int (nI (k + 1))), (0, .ref (gd 0)), (1, .int (nI (j9))), (2, .int (nI (se))), (3, .int (nI (a))), (4, .int (nI (i)))]) hx hb dX5_arrange_224 hl (k := 5) rfl (zinc 1 _) (by decide) rfl (fun ls hl => ?_)
          refine lv_goto (tgt := 175) hx hb dX5_arrange_227 (by decide) ?_
          exact ih175 (k + 1) ls (by first | omega | (dsimp only; omega)) ⟨lv_sub hl [1, 2, 3, 4, 5, 0] rfl, by have h9 : k ≠ b9 := (fun q => by have h8 := hBTe; rw [← q] at h8; omega); omega⟩
  · refine lv_iconst (v := nI (0)) hx hb dX5_arrange_17 (by decide) ?_
    refine lv_istore_n (lv' := [(3, .int (nI (0))), (0, .ref (gd 0)), (1, .int (nI (j9))), (2, .int (nI (se)))]) hx hb dX5_arrange_18 rfl hl (by decide) rfl (fun ls hl => ?_)
    have hslt : se < 2 ^ (wl fw (nI t9) nj).length := by omega
    refine z_loopW (α := Nat × (Nat → Int32) × va_W) (fun v => 8 - v.1) (fun v H locs ls => lv_has ls 7 [(0, .ref (gd 0)), (1, .int (nI (j9))), (2, .int (nI (se))), (3, .int (nI (v.1)))] ∧ va_P D vwCl (v.2.2) H ∧ va_D A (v.2.2) ∧ va_S A s.heap H locs ∧ mKeep ws v.2.2 ∧ mL cA v.2.2 gd n tr le sl mo la fc sf bf nd mk ck ct hd pf nj jt jf dl fin (wl fw (nI t9) nj).length (colF fls (wl fw (nI t9) nj)) fod v.2.1 fro th ∧ (∀ r, r < se → ∀ a, (a < (wl fw (nI t9) nj).length ∨ a = 7) → v.2.1 (8 * r + a) = nI (BT (LG mk tr le bo jf j9 t9 P9 (wl fw (nI t9) nj)) (wl fw (nI t9) nj).length (sb r) a)) ∧ (∀ a, a < v.1 → (a < (wl fw (nI t9) nj).length ∨ a = 7) → v.2.1 (8 * se + a) = nI (BT (LG mk tr le bo jf j9 t9 P9 (wl fw (nI t9) nj)) (wl fw (nI t9) nj).length (sb se) a)) ∧ v.1 ≤ 8) (fun _ => []) (0, R, w9) ⟨lv_sub hl [1, 2, 3, 0] rfl, hP, hD, hS, hkp9, hm0, hR, (fun a h => absurd h (Nat.not_lt_zero a)), Nat.zero_le _⟩ ?_
    intro v ih19 H locs ls hv
    obtain ⟨c, R, w9⟩ := v
    obtain ⟨hl, hP, hD, hS, hI⟩ := hv
    have hP : va_P D vwCl (w9) H := hP
    have hD : va_D A (w9) := hD
    have hl : lv_has ls 7 [(0, .ref (gd 0)), (1, .int (nI (j9))), (2, .int (nI (se))), (3, .int (nI (c)))] := hl
    have hI : mKeep ws w9 ∧ mL cA w9 gd n tr le sl mo la fc sf bf nd mk ck ct hd pf nj jt jf dl fin (wl fw (nI t9) nj).length (colF fls (wl fw (nI t9) nj)) fod R fro th ∧ (∀ r, r < se → ∀ a, (a < (wl fw (nI t9) nj).length ∨ a = 7) → R (8 * r + a) = nI (BT (LG mk tr le bo jf j9 t9 P9 (wl fw (nI t9) nj)) (wl fw (nI t9) nj).length (sb r) a)) ∧ (∀ a, a < c → (a < (wl fw (nI t9) nj).length ∨ a = 7) → R (8 * se + a) = nI (BT (LG mk tr le bo jf j9 t9 P9 (wl fw (nI t9) nj)) (wl fw (nI t9) nj).length (sb se) a)) ∧ c ≤ 8 := hI
    obtain ⟨hkp9, hm0, hI⟩ := hI
    obtain ⟨m0, m1, m2, m3, m4, m5, m6, m7, m8, m9, m10, m11, m12, m13, m14, m15, m16, m17, m18, m19, m20, m21⟩ := id hm0
    obtain ⟨hR, hRa, hc8⟩ := hI
    refine lv_iload_n hx hb dX5_arrange_19 rfl (lv_at hl 3 rfl) ?_
    refine lv_bipush (v := nI (8)) hx hb dX5_arrange_20 (by decide) ?_
    refine zc_ge (tgt := 142) hx hb (by omega) (by omega) dX5_arrange_22 (by decide) (fun c_10 => ?_) (fun c_10 => ?_)
    · refine lv_iinc (v := nI (se + 1)) (lv' := [(2, .int (nI (se + 1))), (0, .ref (gd 0)), (1, .int (nI (j9))), (3, .int (nI (c)))]) hx hb dX5_arrange_142 hl (k := 2) rfl (zinc 1 _) (by decide) rfl (fun ls hl => ?_)
      refine lv_goto (tgt := 7) hx hb dX5_arrange_145 (by decide) ?_
      exact ih7 (se + 1, R, w9) H locs ls (by first | omega | (dsimp only; omega)) ⟨lv_sub hl [1, 2, 0] rfl, hP, hD, hS, hkp9, hm0, (fun r h1 a h2 => by
              by_cases e9 : r = se
              · rw [e9]; exact hRa a (by first | omega | (dsimp only; omega)) h2
              · have h1 : r < se + 1 := h1
                exact hR r (by first | omega | (dsimp only; omega)) a h2), by first | omega | (dsimp only; omega)⟩
    · refine z_join (α := Nat) (pc' := 35) (fun v ls => lv_has ls 7 [(0, .ref (gd 0)), (1, .int (nI (j9))), (2, .int (nI (se))), (3, .int (nI (c)))] ∧ v = (if se = 0 then 0 else 10000000)) (fun v => [.int (nI (v))]) ?_ (fun J35 => ?_)
      · intro v ls hv
        obtain ⟨hl, hI⟩ := hv
        have hl : lv_has ls 7 [(0, .ref (gd 0)), (1, .int (nI (j9))), (2, .int (nI (se))), (3, .int (nI (c)))] := hl
        have hI : v = (if se = 0 then 0 else 10000000) := hI
        have hvq : v = (if se = 0 then 0 else 10000000) := hI
        have hvb : v ≤ 10000000 := by rw [hvq]; split <;> omega
        refine lv_istore (lv' := [(4, .int (nI (v))), (0, .ref (gd 0)), (1, .int (nI (j9))), (2, .int (nI (se))), (3, .int (nI (c)))]) hx hb dX5_arrange_35 hl (by decide) rfl (fun ls hl => ?_)
        rcases Decidable.em (c < (wl fw (nI t9) nj).length ∨ c = 7) with hv | hv
        · refine lv_iconst (v := nI (0)) hx hb dX5_arrange_37 (by decide) ?_
          refine lv_istore (lv' := [(5, .int (nI (0))), (4, .int (nI (v))), (0, .ref (gd 0)), (1, .int (nI (j9))), (2, .int (nI (se))), (3, .int (nI (c)))]) hx hb dX5_arrange_38 hl (by decide) rfl (fun ls hl => ?_)
          refine z_loop (α := Nat × Nat) (fun v => (wl fw (nI t9) nj).length - v.1) (fun v ls => lv_has ls 7 [(0, .ref (gd 0)), (1, .int (nI (j9))), (2, .int (nI (se))), (3, .int (nI (c))), (5, .int (nI (v.1))), (4, .int (nI (v.2)))] ∧ v.2 = af (fun b => (LG mk tr le bo jf j9 t9 P9 (wl fw (nI t9) nj)) c b + BT (LG mk tr le bo jf j9 t9 P9 (wl fw (nI t9) nj)) (wl fw (nI t9) nj).length (rem (sb se) b) b) (sb se) (if se = 0 then 0 else 10000000) v.1 ∧ v.1 ≤ (wl fw (nI t9) nj).length ∧ v.2 ≤ 10000000) (fun _ => []) (0, v) ⟨lv_sub hl [2, 3, 4, 5, 0, 1] rfl, hvq, Nat.zero_le _, hvb⟩ ?_
          intro v ih40 ls hv
          obtain ⟨k, x⟩ := v
          obtain ⟨hl, hI⟩ := hv
          have hl : lv_has ls 7 [(0, .ref (gd 0)), (1, .int (nI (j9))), (2, .int (nI (se))), (3, .int (nI (c))), (5, .int (nI (k))), (4, .int (nI (x)))] := hl
          have hI : x = af (fun b => (LG mk tr le bo jf j9 t9 P9 (wl fw (nI t9) nj)) c b + BT (LG mk tr le bo jf j9 t9 P9 (wl fw (nI t9) nj)) (wl fw (nI t9) nj).length (rem (sb se) b) b) (sb se) (if se = 0 then 0 else 10000000) k ∧ k ≤ (wl fw (nI t9) nj).length ∧ x ≤ 10000000 := hI
          obtain ⟨hx1, hk, hx2⟩ := hI
          have hdk : se / 2 ^ k ≤ se := Nat.div_le_self _ _
          refine lv_iload hx hb dX5_arrange_40 (lv_at hl 4 rfl) ?_
          refine lv_aload_n hx hb dX5_arrange_42 rfl (lv_at hl 0 rfl) ?_
          refine va_get (D := D) (ci := 5) (v := .int (nI ((wl fw (nI t9) nj).length))) (C := RX5) (T := TX5) (N := 26) hx hb hts iX5 hown hZ.1 hP 0 m0 rfl 20 (by decide) (hts (.fieldLink RX5 164 "TapeRoboticsModel" "many" "I") (by decide +kernel)) (fun _ h9 => h9) rfl dX5_arrange_43 ?_
          refine zc_ge (tgt := 123) hx hb (by omega) (by omega) dX5_arrange_46 (by decide) (fun c_11 => ?_) (fun c_11 => ?_)
          · refine lv_aload_n hx hb dX5_arrange_123 rfl (lv_at hl 0 rfl) ?_
            refine va_get (D := D) (ci := 5) (v := .ref (gd 20)) (C := RX5) (T := TX5) (N := 26) hx hb hts iX5 hown hZ.1 hP 0 m0 rfl 23 (by decide) (hts (.fieldLink RX5 68 "TapeRoboticsModel" "least" "[I") (by decide +kernel)) (fun _ h9 => h9) rfl dX5_arrange_124 ?_
            refine lv_bipush (v := nI (8)) hx hb dX5_arrange_127 (by decide) ?_
            refine lv_iload_n hx hb dX5_arrange_129 rfl (lv_at hl 2 rfl) ?_
            refine zo_mul hx hb dX5_arrange_130 ?_
            refine lv_iload_n hx hb dX5_arrange_131 rfl (lv_at hl 3 rfl) ?_
            refine zo_add hx hb dX5_arrange_132 ?_
            refine lv_iload hx hb dX5_arrange_133 (lv_at hl 5 rfl) ?_
            refine va_iast hx hb hZ.1 hP hD hS 20 0 m20 rfl (vp_in_nI (show (8 * se) + c < 1024 by omega) (by omega)) dX5_arrange_135 (fun H locs hP hD hS => ?_)
            rw [nI_clamp (show (8 * se) + c < 2 ^ 31 by omega)] at hP hD
            have hP : va_P D vwCl (w9.set 20 (gd 20, zInts cA 1024 (va_up R ((8 * se) + c) (nI (x))))) H := hP
            have hD : va_D A (w9.set 20 (gd 20, zInts cA 1024 (va_up R ((8 * se) + c) (nI (x))))) := hD
            refine lv_iinc (v := nI (c + 1)) (lv' := [(3, .int (nI (c + 1))), (0, .ref (gd 0)), (1, .int (nI (j9))), (2, .int (nI (se))), (5, .int (nI (k))), (4, .int (nI (x)))]) hx hb dX5_arrange_136 hl (k := 3) rfl (zinc 1 _) (by decide) rfl (fun ls hl => ?_)
            refine lv_goto (tgt := 19) hx hb dX5_arrange_139 (by decide) ?_
            exact ih19 (c + 1, (va_up R ((8 * se) + c) (nI (x))), (w9.set 20 (gd 20, zInts cA 1024 (va_up R ((8 * se) + c) (nI (x)))))) H locs ls (by first | omega | (dsimp only; omega)) ⟨lv_sub hl [1, 2, 3, 0] rfl, hP, hD, hS, (mKeep_set hkp9 (by decide)), (mL_20 hm0 ((va_up R ((8 * se) + c) (nI (x))))), (fun r h1 a h2 => by
                    show va_up R (8 * se + c) _ (8 * r + a) = _
                    rw [va_up_ne _ _ (by first | omega | (dsimp only; omega))]; exact hR r h1 a h2), (fun a ha h2 => by
                    show va_up R (8 * se + c) _ (8 * se + a) = _
                    by_cases e9 : a = c
                    · rw [e9, va_up_self, show x = BT (LG mk tr le bo jf j9 t9 P9 (wl fw (nI t9) nj)) (wl fw (nI t9) nj).length (sb se) c by rw [hx1, show k = (wl fw (nI t9) nj).length by omega]; exact af_BT hslt]
                    · have ha : a < c + 1 := ha
                      rw [va_up_ne _ _ (by first | omega | (dsimp only; omega))]; exact hRa a (by first | omega | (dsimp only; omega)) h2), by first | omega | (dsimp only; omega)⟩
          · refine lv_iload_n hx hb dX5_arrange_49 rfl (lv_at hl 3 rfl) ?_
            refine lv_aload_n hx hb dX5_arrange_50 rfl (lv_at hl 0 rfl) ?_
            refine va_get (D := D) (ci := 5) (v := .int (nI ((wl fw (nI t9) nj).length))) (C := RX5) (T := TX5) (N := 26) hx hb hts iX5 hown hZ.1 hP 0 m0 rfl 20 (by decide) (hts (.fieldLink RX5 164 "TapeRoboticsModel" "many" "I") (by decide +kernel)) (fun _ h9 => h9) rfl dX5_arrange_51 ?_
            refine zc_lt (tgt := 63) hx hb (by omega) (by omega) dX5_arrange_54 (by decide) (fun c_12 => ?_) (fun c_12 => ?_)
            · refine lv_iload_n hx hb dX5_arrange_63 rfl (lv_at hl 2 rfl) ?_
              refine lv_iload hx hb dX5_arrange_64 (lv_at hl 4 rfl) ?_
              refine lv_ishr hx hb dX5_arrange_66 ?_
              refine zx_val (y := nI (se / 2 ^ k)) (zshr (by omega) (by omega)) ?_
              refine lv_iconst (v := nI (1)) hx hb dX5_arrange_67 (by decide) ?_
              refine lv_iand hx hb dX5_arrange_68 ?_
              refine zx_val (y := nI (se / 2 ^ k % 2)) (z_and1 (by omega)) ?_
              refine lv_iconst (v := nI (1)) hx hb dX5_arrange_69 (by decide) ?_
              refine zc_ne (tgt := 117) hx hb (by omega) (by omega) dX5_arrange_70 (by decide) (fun c_13 => ?_) (fun c_13 => ?_)
              · refine lv_iinc (v := nI (k + 1)) (lv' := [(5, .int (nI (k + 1))), (0, .ref (gd 0)), (1, .int (nI (j9))), (2, .int (nI (se))), (3, .int (nI (c))), (4, .int (nI (x)))]) hx hb dX5_arrange_117 hl (k := 4) rfl (zinc 1 _) (by decide) rfl (fun ls hl => ?_)
                refine lv_goto (tgt := 40) hx hb dX5_arrange_120 (by decide) ?_
                exact ih40 (k + 1, x) ls (by first | omega | (dsimp only; omega)) ⟨lv_sub hl [1, 2, 3, 4, 0, 5] rfl, by show _ = _; rw [af_n (by rw [sb_bit]; exact decide_eq_false (by first | omega | (dsimp only; omega)))]; exact hx1, by first | omega | (dsimp only; omega), hx2⟩
              · have hbit : sb se k = true := by rw [sb_bit]; exact decide_eq_true (by assumption)
                have hxlt := sb_lt hbit
                have hRk := hR (se ^^^ 2 ^ k) hxlt k (Or.inl (by omega))
                rw [sb_xor hbit] at hRk
                have hb1 := hLGb c k
                have hb2 := hBT (rem (sb se) k) k
                have ht7 : (fun b => (LG mk tr le bo jf j9 t9 P9 (wl fw (nI t9) nj)) c b + BT (LG mk tr le bo jf j9 t9 P9 (wl fw (nI t9) nj)) (wl fw (nI t9) nj).length (rem (sb se) b) b) k < (if se = 0 then 0 else 10000000) := by
                  rw [if_neg (fun q => by rw [q] at hxlt; omega)]; dsimp only; omega
                refine lv_aload_n hx hb dX5_arrange_73 rfl (lv_at hl 0 rfl) ?_
                refine lv_iload_n hx hb dX5_arrange_74 rfl (lv_at hl 1 rfl) ?_
                refine lv_iload_n hx hb dX5_arrange_75 rfl (lv_at hl 3 rfl) ?_
                refine lv_iload hx hb dX5_arrange_76 (lv_at hl 4 rfl) ?_
                refine zk_V_i (n := 3) (As := [.int (nI (j9)), .int (nI (c)), .int (nI (k))]) (rest := []) hx hb hml hts hown hZ hP (c_X5_timeOf l D cA _ hm0 bo t9 (wl fw (nI t9) nj) hJ ht8 j9 P9 hj3 hht hmk hpf hP9 htr hle c k (by first | assumption | omega) (by first | assumption | omega)) gX5_arrange_X5_timeOf rfl rfl ⟨rfl, rfl⟩ ⟨by decide +kernel, Nat.le_of_ble_eq_true rfl, Nat.le_of_ble_eq_true rfl⟩ m0 rfl hl.1 rfl (Nat.le_of_ble_eq_true rfl) ⟨Nat.le_of_ble_eq_true rfl, Nat.le_of_ble_eq_true rfl⟩ rfl dX5_arrange_78 (fun r_14 hr_15 => ?_)
                obtain rfl := show r_14 = _ from hr_15
                refine lv_aload_n hx hb dX5_arrange_81 rfl (lv_at hl 0 rfl) ?_
                refine va_get (D := D) (ci := 5) (v := .ref (gd 20)) (C := RX5) (T := TX5) (N := 26) hx hb hts iX5 hown hZ.1 hP 0 m0 rfl 23 (by decide) (hts (.fieldLink RX5 68 "TapeRoboticsModel" "least" "[I") (by decide +kernel)) (fun _ h9 => h9) rfl dX5_arrange_82 ?_
                refine lv_bipush (v := nI (8)) hx hb dX5_arrange_85 (by decide) ?_
                refine lv_iload_n hx hb dX5_arrange_87 rfl (lv_at hl 2 rfl) ?_
                refine lv_iconst (v := nI (1)) hx hb dX5_arrange_88 (by decide) ?_
                refine lv_iload hx hb dX5_arrange_89 (lv_at hl 4 rfl) ?_
                refine lv_ishl hx hb dX5_arrange_91 ?_
                refine zx_val (y := nI (2 ^ k)) (zshl k (by omega)) ?_
                refine lv_ixor hx hb dX5_arrange_92 ?_
                refine zx_val (y := nI (se ^^^ 2 ^ k)) (zxor _ _) ?_
                refine zo_mul hx hb dX5_arrange_93 ?_
                refine lv_iload hx hb dX5_arrange_94 (lv_at hl 4 rfl) ?_
                refine zo_add hx hb dX5_arrange_96 ?_
                refine va_iald hx hb hZ.1 hP 20 0 m20 rfl (vp_in_nI (show (8 * (se ^^^ 2 ^ k)) + k < 1024 by omega) (by omega)) dX5_arrange_97 ?_
                rw [nI_clamp (show (8 * (se ^^^ 2 ^ k)) + k < 2 ^ 31 by omega)]
                refine zx_val (y := nI (BT (LG mk tr le bo jf j9 t9 P9 (wl fw (nI t9) nj)) (wl fw (nI t9) nj).length (rem (sb se) k) k)) (hRk) ?_
                refine zo_add hx hb dX5_arrange_98 ?_
                refine lv_istore (lv' := [(6, .int (nI (((LG mk tr le bo jf j9 t9 P9 (wl fw (nI t9) nj)) c k) + (BT (LG mk tr le bo jf j9 t9 P9 (wl fw (nI t9) nj)) (wl fw (nI t9) nj).length (rem (sb se) k) k)))), (0, .ref (gd 0)), (1, .int (nI (j9))), (2, .int (nI (se))), (3, .int (nI (c))), (5, .int (nI (k))), (4, .int (nI (x)))]) hx hb dX5_arrange_99 hl (by decide) rfl (fun ls hl => ?_)
                refine lv_iload hx hb dX5_arrange_101 (lv_at hl 0 rfl) ?_
                refine lv_iload hx hb dX5_arrange_103 (lv_at hl 6 rfl) ?_
                refine zc_ge (tgt := 113) hx hb (by omega) (by omega) dX5_arrange_105 (by decide) (fun c_16 => ?_) (fun c_16 => ?_)
                · refine lv_iload hx hb dX5_arrange_113 (lv_at hl 6 rfl) ?_
                  refine lv_istore (lv' := [(4, .int (nI (x))), (6, .int (nI (((LG mk tr le bo jf j9 t9 P9 (wl fw (nI t9) nj)) c k) + (BT (LG mk tr le bo jf j9 t9 P9 (wl fw (nI t9) nj)) (wl fw (nI t9) nj).length (rem (sb se) k) k)))), (0, .ref (gd 0)), (1, .int (nI (j9))), (2, .int (nI (se))), (3, .int (nI (c))), (5, .int (nI (k)))]) hx hb dX5_arrange_115 hl (by decide) rfl (fun ls hl => ?_)
                  refine lv_iinc (v := nI (k + 1)) (lv' := [(5, .int (nI (k + 1))), (4, .int (nI (x))), (6, .int (nI (((LG mk tr le bo jf j9 t9 P9 (wl fw (nI t9) nj)) c k) + (BT (LG mk tr le bo jf j9 t9 P9 (wl fw (nI t9) nj)) (wl fw (nI t9) nj).length (rem (sb se) k) k)))), (0, .ref (gd 0)), (1, .int (nI (j9))), (2, .int (nI (se))), (3, .int (nI (c)))]) hx hb dX5_arrange_117 hl (k := 6) rfl (zinc 1 _) (by decide) rfl (fun ls hl => ?_)
                  refine lv_goto (tgt := 40) hx hb dX5_arrange_120 (by decide) ?_
                  exact ih40 (k + 1, x) ls (by first | omega | (dsimp only; omega)) ⟨lv_sub hl [3, 4, 5, 6, 0, 1] rfl, af_ge hbit ht7 hx1 (by first | omega | (dsimp only; omega)), by first | omega | (dsimp only; omega), hx2⟩
                · refine lv_iload hx hb dX5_arrange_108 (lv_at hl 0 rfl) ?_
                  refine lv_goto (tgt := 115) hx hb dX5_arrange_110 (by decide) ?_
                  refine lv_istore (lv' := [(4, .int (nI (((LG mk tr le bo jf j9 t9 P9 (wl fw (nI t9) nj)) c k) + (BT (LG mk tr le bo jf j9 t9 P9 (wl fw (nI t9) nj)) (wl fw (nI t9) nj).length (rem (sb se) k) k)))), (6, .int (nI (((LG mk tr le bo jf j9 t9 P9 (wl fw (nI t9) nj)) c k) + (BT (LG mk tr le bo jf j9 t9 P9 (wl fw (nI t9) nj)) (wl fw (nI t9) nj).length (rem (sb se) k) k)))), (0, .ref (gd 0)), (1, .int (nI (j9))), (2, .int (nI (se))), (3, .int (nI (c))), (5, .int (nI (k)))]) hx hb dX5_arrange_115 hl (by decide) rfl (fun ls hl => ?_)
                  refine lv_iinc (v := nI (k + 1)) (lv' := [(5, .int (nI (k + 1))), (4, .int (nI (((LG mk tr le bo jf j9 t9 P9 (wl fw (nI t9) nj)) c k) + (BT (LG mk tr le bo jf j9 t9 P9 (wl fw (nI t9) nj)) (wl fw (nI t9) nj).length (rem (sb se) k) k)))), (6, .int (nI (((LG mk tr le bo jf j9 t9 P9 (wl fw (nI t9) nj)) c k) + (BT (LG mk tr le bo jf j9 t9 P9 (wl fw (nI t9) nj)) (wl fw (nI t9) nj).length (rem (sb se) k) k)))), (0, .ref (gd 0)), (1, .int (nI (j9))), (2, .int (nI (se))), (3, .int (nI (c)))]) hx hb dX5_arrange_117 hl (k := 6) rfl (zinc 1 _) (by decide) rfl (fun ls hl => ?_)
                  refine lv_goto (tgt := 40) hx hb dX5_arrange_120 (by decide) ?_
                  exact ih40 (k + 1, ((LG mk tr le bo jf j9 t9 P9 (wl fw (nI t9) nj)) c k) + (BT (LG mk tr le bo jf j9 t9 P9 (wl fw (nI t9) nj)) (wl fw (nI t9) nj).length (rem (sb se) k) k)) ls (by first | omega | (dsimp only; omega)) ⟨lv_sub hl [3, 4, 5, 6, 0, 1] rfl, af_lt hbit ht7 hx1 (by first | omega | (dsimp only; omega)), by first | omega | (dsimp only; omega), (by first | omega | (dsimp only; omega))⟩
            · refine lv_iload_n hx hb dX5_arrange_57 rfl (lv_at hl 3 rfl) ?_
              refine lv_bipush (v := nI (7)) hx hb dX5_arrange_58 (by decide) ?_
              refine zc_ne (tgt := 123) hx hb (by omega) (by omega) dX5_arrange_60 (by decide) (fun c_17 => False.elim (by omega)) (fun c_17 => ?_)
              refine lv_iload_n hx hb dX5_arrange_63 rfl (lv_at hl 2 rfl) ?_
              refine lv_iload hx hb dX5_arrange_64 (lv_at hl 4 rfl) ?_
              refine lv_ishr hx hb dX5_arrange_66 ?_
              refine zx_val (y := nI (se / 2 ^ k)) (zshr (by omega) (by omega)) ?_
              refine lv_iconst (v := nI (1)) hx hb dX5_arrange_67 (by decide) ?_
              refine lv_iand hx hb dX5_arrange_68 ?_
              refine zx_val (y := nI (se / 2 ^ k % 2)) (z_and1 (by omega)) ?_
              refine lv_iconst (v := nI (1)) hx hb dX5_arrange_69 (by decide) ?_
              refine zc_ne (tgt := 117) hx hb (by omega) (by omega) dX5_arrange_70 (by decide) (fun c_18 => ?_) (fun c_18 => ?_)
              · refine lv_iinc (v := nI (k + 1)) (lv' := [(5, .int (nI (k + 1))), (0, .ref (gd 0)), (1, .int (nI (j9))), (2, .int (nI (se))), (3, .int (nI (c))), (4, .int (nI (x)))]) hx hb dX5_arrange_117 hl (k := 4) rfl (zinc 1 _) (by decide) rfl (fun ls hl => ?_)
                refine lv_goto (tgt := 40) hx hb dX5_arrange_120 (by decide) ?_
                exact ih40 (k + 1, x) ls (by first | omega | (dsimp only; omega)) ⟨lv_sub hl [1, 2, 3, 4, 0, 5] rfl, by show _ = _; rw [af_n (by rw [sb_bit]; exact decide_eq_false (by first | omega | (dsimp only; omega)))]; exact hx1, by first | omega | (dsimp only; omega), hx2⟩
              · have hbit : sb se k = true := by rw [sb_bit]; exact decide_eq_true (by assumption)
                have hxlt := sb_lt hbit
                have hRk := hR (se ^^^ 2 ^ k) hxlt k (Or.inl (by omega))
                rw [sb_xor hbit] at hRk
                have hb1 := hLGb c k
                have hb2 := hBT (rem (sb se) k) k
                have ht7 : (fun b => (LG mk tr le bo jf j9 t9 P9 (wl fw (nI t9) nj)) c b + BT (LG mk tr le bo jf j9 t9 P9 (wl fw (nI t9) nj)) (wl fw (nI t9) nj).length (rem (sb se) b) b) k < (if se = 0 then 0 else 10000000) := by
                  rw [if_neg (fun q => by rw [q] at hxlt; omega)]; dsimp only; omega
                refine lv_aload_n hx hb dX5_arrange_73 rfl (lv_at hl 0 rfl) ?_
                refine lv_iload_n hx hb dX5_arrange_74 rfl (lv_at hl 1 rfl) ?_
                refine lv_iload_n hx hb dX5_arrange_75 rfl (lv_at hl 3 rfl) ?_
                refine lv_iload hx hb dX5_arrange_76 (lv_at hl 4 rfl) ?_
                refine zk_V_i (n := 3) (As := [.int (nI (j9)), .int (nI (c)), .int (nI (k))]) (rest := []) hx hb hml hts hown hZ hP (c_X5_timeOf l D cA _ hm0 bo t9 (wl fw (nI t9) nj) hJ ht8 j9 P9 hj3 hht hmk hpf hP9 htr hle c k (by first | assumption | omega) (by first | assumption | omega)) gX5_arrange_X5_timeOf rfl rfl ⟨rfl, rfl⟩ ⟨by decide +kernel, Nat.le_of_ble_eq_true rfl, Nat.le_of_ble_eq_true rfl⟩ m0 rfl hl.1 rfl (Nat.le_of_ble_eq_true rfl) ⟨Nat.le_of_ble_eq_true rfl, Nat.le_of_ble_eq_true rfl⟩ rfl dX5_arrange_78 (fun r_19 hr_20 => ?_)
                obtain rfl := show r_19 = _ from hr_20
                refine lv_aload_n hx hb dX5_arrange_81 rfl (lv_at hl 0 rfl) ?_
                refine va_get (D := D) (ci := 5) (v := .ref (gd 20)) (C := RX5) (T := TX5) (N := 26) hx hb hts iX5 hown hZ.1 hP 0 m0 rfl 23 (by decide) (hts (.fieldLink RX5 68 "TapeRoboticsModel" "least" "[I") (by decide +kernel)) (fun _ h9 => h9) rfl dX5_arrange_82 ?_
                refine lv_bipush (v := nI (8)) hx hb dX5_arrange_85 (by decide) ?_
                refine lv_iload_n hx hb dX5_arrange_87 rfl (lv_at hl 2 rfl) ?_
                refine lv_iconst (v := nI (1)) hx hb dX5_arrange_88 (by decide) ?_
                refine lv_iload hx hb dX5_arrange_89 (lv_at hl 4 rfl) ?_
                refine lv_ishl hx hb dX5_arrange_91 ?_
                refine zx_val (y := nI (2 ^ k)) (zshl k (by omega)) ?_
                refine lv_ixor hx hb dX5_arrange_92 ?_
                refine zx_val (y := nI (se ^^^ 2 ^ k)) (zxor _ _) ?_
                refine zo_mul hx hb dX5_arrange_93 ?_
                refine lv_iload hx hb dX5_arrange_94 (lv_at hl 4 rfl) ?_
                refine zo_add hx hb dX5_arrange_96 ?_
                refine va_iald hx hb hZ.1 hP 20 0 m20 rfl (vp_in_nI (show (8 * (se ^^^ 2 ^ k)) + k < 1024 by omega) (by omega)) dX5_arrange_97 ?_
                rw [nI_clamp (show (8 * (se ^^^ 2 ^ k)) + k < 2 ^ 31 by omega)]
                refine zx_val (y := nI (BT (LG mk tr le bo jf j9 t9 P9 (wl fw (nI t9) nj)) (wl fw (nI t9) nj).length (rem (sb se) k) k)) (hRk) ?_
                refine zo_add hx hb dX5_arrange_98 ?_
                refine lv_istore (lv' := [(6, .int (nI (((LG mk tr le bo jf j9 t9 P9 (wl fw (nI t9) nj)) c k) + (BT (LG mk tr le bo jf j9 t9 P9 (wl fw (nI t9) nj)) (wl fw (nI t9) nj).length (rem (sb se) k) k)))), (0, .ref (gd 0)), (1, .int (nI (j9))), (2, .int (nI (se))), (3, .int (nI (c))), (5, .int (nI (k))), (4, .int (nI (x)))]) hx hb dX5_arrange_99 hl (by decide) rfl (fun ls hl => ?_)
                refine lv_iload hx hb dX5_arrange_101 (lv_at hl 0 rfl) ?_
                refine lv_iload hx hb dX5_arrange_103 (lv_at hl 6 rfl) ?_
                refine zc_ge (tgt := 113) hx hb (by omega) (by omega) dX5_arrange_105 (by decide) (fun c_21 => ?_) (fun c_21 => ?_)
                · refine lv_iload hx hb dX5_arrange_113 (lv_at hl 6 rfl) ?_
                  refine lv_istore (lv' := [(4, .int (nI (x))), (6, .int (nI (((LG mk tr le bo jf j9 t9 P9 (wl fw (nI t9) nj)) c k) + (BT (LG mk tr le bo jf j9 t9 P9 (wl fw (nI t9) nj)) (wl fw (nI t9) nj).length (rem (sb se) k) k)))), (0, .ref (gd 0)), (1, .int (nI (j9))), (2, .int (nI (se))), (3, .int (nI (c))), (5, .int (nI (k)))]) hx hb dX5_arrange_115 hl (by decide) rfl (fun ls hl => ?_)
                  refine lv_iinc (v := nI (k + 1)) (lv' := [(5, .int (nI (k + 1))), (4, .int (nI (x))), (6, .int (nI (((LG mk tr le bo jf j9 t9 P9 (wl fw (nI t9) nj)) c k) + (BT (LG mk tr le bo jf j9 t9 P9 (wl fw (nI t9) nj)) (wl fw (nI t9) nj).length (rem (sb se) k) k)))), (0, .ref (gd 0)), (1, .int (nI (j9))), (2, .int (nI (se))), (3, .int (nI (c)))]) hx hb dX5_arrange_117 hl (k := 6) rfl (zinc 1 _) (by decide) rfl (fun ls hl => ?_)
                  refine lv_goto (tgt := 40) hx hb dX5_arrange_120 (by decide) ?_
                  exact ih40 (k + 1, x) ls (by first | omega | (dsimp only; omega)) ⟨lv_sub hl [3, 4, 5, 6, 0, 1] rfl, af_ge hbit ht7 hx1 (by first | omega | (dsimp only; omega)), by first | omega | (dsimp only; omega), hx2⟩
                · refine lv_iload hx hb dX5_arrange_108 (lv_at hl 0 rfl) ?_
                  refine lv_goto (tgt := 115) hx hb dX5_arrange_110 (by decide) ?_
                  refine lv_istore (lv' := [(4, .int (nI (((LG mk tr le bo jf j9 t9 P9 (wl fw (nI t9) nj)) c k) + (BT (LG mk tr le bo jf j9 t9 P9 (wl fw (nI t9) nj)) (wl fw (nI t9) nj).length (rem (sb se) k) k)))), (6, .int (nI (((LG mk tr le bo jf j9 t9 P9 (wl fw (nI t9) nj)) c k) + (BT (LG mk tr le bo jf j9 t9 P9 (wl fw (nI t9) nj)) (wl fw (nI t9) nj).length (rem (sb se) k) k)))), (0, .ref (gd 0)), (1, .int (nI (j9))), (2, .int (nI (se))), (3, .int (nI (c))), (5, .int (nI (k)))]) hx hb dX5_arrange_115 hl (by decide) rfl (fun ls hl => ?_)
                  refine lv_iinc (v := nI (k + 1)) (lv' := [(5, .int (nI (k + 1))), (4, .int (nI (((LG mk tr le bo jf j9 t9 P9 (wl fw (nI t9) nj)) c k) + (BT (LG mk tr le bo jf j9 t9 P9 (wl fw (nI t9) nj)) (wl fw (nI t9) nj).length (rem (sb se) k) k)))), (6, .int (nI (((LG mk tr le bo jf j9 t9 P9 (wl fw (nI t9) nj)) c k) + (BT (LG mk tr le bo jf j9 t9 P9 (wl fw (nI t9) nj)) (wl fw (nI t9) nj).length (rem (sb se) k) k)))), (0, .ref (gd 0)), (1, .int (nI (j9))), (2, .int (nI (se))), (3, .int (nI (c)))]) hx hb dX5_arrange_117 hl (k := 6) rfl (zinc 1 _) (by decide) rfl (fun ls hl => ?_)
                  refine lv_goto (tgt := 40) hx hb dX5_arrange_120 (by decide) ?_
                  exact ih40 (k + 1, ((LG mk tr le bo jf j9 t9 P9 (wl fw (nI t9) nj)) c k) + (BT (LG mk tr le bo jf j9 t9 P9 (wl fw (nI t9) nj)) (wl fw (nI t9) nj).length (rem (sb se) k) k)) ls (by first | omega | (dsimp only; omega)) ⟨lv_sub hl [3, 4, 5, 6, 0, 1] rfl, af_lt hbit ht7 hx1 (by first | omega | (dsimp only; omega)), by first | omega | (dsimp only; omega), (by first | omega | (dsimp only; omega))⟩
        · refine lv_iconst (v := nI (0)) hx hb dX5_arrange_37 (by decide) ?_
          refine lv_istore (lv' := [(5, .int (nI (0))), (4, .int (nI (v))), (0, .ref (gd 0)), (1, .int (nI (j9))), (2, .int (nI (se))), (3, .int (nI (c)))]) hx hb dX5_arrange_38 hl (by decide) rfl (fun ls hl => ?_)
          refine lv_iload hx hb dX5_arrange_40 (lv_at hl 0 rfl) ?_
          refine lv_aload_n hx hb dX5_arrange_42 rfl (lv_at hl 2 rfl) ?_
          refine va_get (D := D) (ci := 5) (v := .int (nI ((wl fw (nI t9) nj).length))) (C := RX5) (T := TX5) (N := 26) hx hb hts iX5 hown hZ.1 hP 0 m0 rfl 20 (by decide) (hts (.fieldLink RX5 164 "TapeRoboticsModel" "many" "I") (by decide +kernel)) (fun _ h9 => h9) rfl dX5_arrange_43 ?_
          refine zc_ge (tgt := 123) hx hb (by omega) (by omega) dX5_arrange_46 (by decide) (fun c_22 => ?_) (fun c_22 => ?_)
          · refine lv_aload_n hx hb dX5_arrange_123 rfl (lv_at hl 2 rfl) ?_
            refine va_get (D := D) (ci := 5) (v := .ref (gd 20)) (C := RX5) (T := TX5) (N := 26) hx hb hts iX5 hown hZ.1 hP 0 m0 rfl 23 (by decide) (hts (.fieldLink RX5 68 "TapeRoboticsModel" "least" "[I") (by decide +kernel)) (fun _ h9 => h9) rfl dX5_arrange_124 ?_
            refine lv_bipush (v := nI (8)) hx hb dX5_arrange_127 (by decide) ?_
            refine lv_iload_n hx hb dX5_arrange_129 rfl (lv_at hl 4 rfl) ?_
            refine zo_mul hx hb dX5_arrange_130 ?_
            refine lv_iload_n hx hb dX5_arrange_131 rfl (lv_at hl 5 rfl) ?_
            refine zo_add hx hb dX5_arrange_132 ?_
            refine lv_iload hx hb dX5_arrange_133 (lv_at hl 1 rfl) ?_
            refine va_iast hx hb hZ.1 hP hD hS 20 0 m20 rfl (vp_in_nI (show (8 * se) + c < 1024 by omega) (by omega)) dX5_arrange_135 (fun H locs hP hD hS => ?_)
            rw [nI_clamp (show (8 * se) + c < 2 ^ 31 by omega)] at hP hD
            have hP : va_P D vwCl (w9.set 20 (gd 20, zInts cA 1024 (va_up R ((8 * se) + c) (nI (v))))) H := hP
            have hD : va_D A (w9.set 20 (gd 20, zInts cA 1024 (va_up R ((8 * se) + c) (nI (v))))) := hD
            refine lv_iinc (v := nI (c + 1)) (lv' := [(3, .int (nI (c + 1))), (5, .int (nI (0))), (4, .int (nI (v))), (0, .ref (gd 0)), (1, .int (nI (j9))), (2, .int (nI (se)))]) hx hb dX5_arrange_136 hl (k := 5) rfl (zinc 1 _) (by decide) rfl (fun ls hl => ?_)
            refine lv_goto (tgt := 19) hx hb dX5_arrange_139 (by decide) ?_
            exact ih19 (c + 1, (va_up R ((8 * se) + c) (nI (v))), (w9.set 20 (gd 20, zInts cA 1024 (va_up R ((8 * se) + c) (nI (v)))))) H locs ls (by first | omega | (dsimp only; omega)) ⟨lv_sub hl [3, 4, 5, 0] rfl, hP, hD, hS, (mKeep_set hkp9 (by decide)), (mL_20 hm0 ((va_up R ((8 * se) + c) (nI (v))))), (fun r h1 a h2 => by
                    show va_up R (8 * se + c) _ (8 * r + a) = _
                    rw [va_up_ne _ _ (by first | omega | (dsimp only; omega))]; exact hR r h1 a h2), (fun a ha h2 => by
                    show va_up R (8 * se + c) _ (8 * se + a) = _
                    by_cases e9 : a = c
                    · exact absurd (e9 ▸ h2) hv
                    · have ha : a < c + 1 := ha
                      rw [va_up_ne _ _ (by first | omega | (dsimp only; omega))]; exact hRa a (by first | omega | (dsimp only; omega)) h2), by first | omega | (dsimp only; omega)⟩
          · refine lv_iload_n hx hb dX5_arrange_49 rfl (lv_at hl 5 rfl) ?_
            refine lv_aload_n hx hb dX5_arrange_50 rfl (lv_at hl 2 rfl) ?_
            refine va_get (D := D) (ci := 5) (v := .int (nI ((wl fw (nI t9) nj).length))) (C := RX5) (T := TX5) (N := 26) hx hb hts iX5 hown hZ.1 hP 0 m0 rfl 20 (by decide) (hts (.fieldLink RX5 164 "TapeRoboticsModel" "many" "I") (by decide +kernel)) (fun _ h9 => h9) rfl dX5_arrange_51 ?_
            refine zc_lt (tgt := 63) hx hb (by omega) (by omega) dX5_arrange_54 (by decide) (fun c_23 => absurd (Or.inl c_23) hv) (fun c_23 => ?_)
            refine lv_iload_n hx hb dX5_arrange_57 rfl (lv_at hl 5 rfl) ?_
            refine lv_bipush (v := nI (7)) hx hb dX5_arrange_58 (by decide) ?_
            refine zc_ne (tgt := 123) hx hb (by omega) (by omega) dX5_arrange_60 (by decide) (fun c_24 => ?_) (fun c_24 => absurd (Or.inr c_24) hv)
            refine lv_aload_n hx hb dX5_arrange_123 rfl (lv_at hl 2 rfl) ?_
            refine va_get (D := D) (ci := 5) (v := .ref (gd 20)) (C := RX5) (T := TX5) (N := 26) hx hb hts iX5 hown hZ.1 hP 0 m0 rfl 23 (by decide) (hts (.fieldLink RX5 68 "TapeRoboticsModel" "least" "[I") (by decide +kernel)) (fun _ h9 => h9) rfl dX5_arrange_124 ?_
            refine lv_bipush (v := nI (8)) hx hb dX5_arrange_127 (by decide) ?_
            refine lv_iload_n hx hb dX5_arrange_129 rfl (lv_at hl 4 rfl) ?_
            refine zo_mul hx hb dX5_arrange_130 ?_
            refine lv_iload_n hx hb dX5_arrange_131 rfl (lv_at hl 5 rfl) ?_
            refine zo_add hx hb dX5_arrange_132 ?_
            refine lv_iload hx hb dX5_arrange_133 (lv_at hl 1 rfl) ?_
            refine va_iast hx hb hZ.1 hP hD hS 20 0 m20 rfl (vp_in_nI (show (8 * se) + c < 1024 by omega) (by omega)) dX5_arrange_135 (fun H locs hP hD hS => ?_)
            rw [nI_clamp (show (8 * se) + c < 2 ^ 31 by omega)] at hP hD
            have hP : va_P D vwCl (w9.set 20 (gd 20, zInts cA 1024 (va_up R ((8 * se) + c) (nI (v))))) H := hP
            have hD : va_D A (w9.set 20 (gd 20, zInts cA 1024 (va_up R ((8 * se) + c) (nI (v))))) := hD
            refine lv_iinc (v := nI (c + 1)) (lv' := [(3, .int (nI (c + 1))), (5, .int (nI (0))), (4, .int (nI (v))), (0, .ref (gd 0)), (1, .int (nI (j9))), (2, .int (nI (se)))]) hx hb dX5_arrange_136 hl (k := 5) rfl (zinc 1 _) (by decide) rfl (fun ls hl => ?_)
            refine lv_goto (tgt := 19) hx hb dX5_arrange_139 (by decide) ?_
            exact ih19 (c + 1, (va_up R ((8 * se) + c) (nI (v))), (w9.set 20 (gd 20, zInts cA 1024 (va_up R ((8 * se) + c) (nI (v)))))) H locs ls (by first | omega | (dsimp only; omega)) ⟨lv_sub hl [3, 4, 5, 0] rfl, hP, hD, hS, (mKeep_set hkp9 (by decide)), (mL_20 hm0 ((va_up R ((8 * se) + c) (nI (v))))), (fun r h1 a h2 => by
                    show va_up R (8 * se + c) _ (8 * r + a) = _
                    rw [va_up_ne _ _ (by first | omega | (dsimp only; omega))]; exact hR r h1 a h2), (fun a ha h2 => by
                    show va_up R (8 * se + c) _ (8 * se + a) = _
                    by_cases e9 : a = c
                    · exact absurd (e9 ▸ h2) hv
                    · have ha : a < c + 1 := ha
                      rw [va_up_ne _ _ (by first | omega | (dsimp only; omega))]; exact hRa a (by first | omega | (dsimp only; omega)) h2), by first | omega | (dsimp only; omega)⟩
      · skip
        refine lv_iload_n hx hb dX5_arrange_25 rfl (lv_at hl 2 rfl) ?_
        refine zf_ne (tgt := 33) hx hb (by omega) dX5_arrange_26 (by decide) (fun c_25 => ?_) (fun c_25 => ?_)
        · refine lv_ldc (v := nI 10000000) hx hb hown (hts (.constant RX5 171 10000000) (by decide +kernel)) dX5_arrange_33 ?_
          exact J35 (10000000) ls ⟨lv_sub hl [0, 1, 2, 3] rfl, by first | (rw [if_pos (by omega)]; done) | rw [if_neg (by omega)]⟩
        · refine lv_iconst (v := nI (0)) hx hb dX5_arrange_29 (by decide) ?_
          refine lv_goto (tgt := 35) hx hb dX5_arrange_30 (by decide) ?_
          exact J35 (0) ls ⟨lv_sub hl [0, 1, 2, 3] rfl, by first | (rw [if_pos (by omega)]; done) | rw [if_neg (by omega)]⟩

