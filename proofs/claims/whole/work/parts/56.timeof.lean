/-- the listed jobs' rows in the model -/
def mJ (tr le : Nat → Nat) (bo : Nat → Nat → Nat) (jf : Nat → Nat) (sf bf jt fls : Nat → Int32) (t : Nat) (L : List Nat) : Prop := L.length ≤ 7 ∧ (∀ p, p < L.length → fls p = nI (L.getD p 0)) ∧ ∀ x, x ∈ L → x < 60 ∧ jt x = nI t ∧ jf x < 10 ∧ sf (10 * t + jf x) = nI (bo t (jf x)) ∧ bf (10 * t + jf x) = nI (bo t (jf x + 1) - bo t (jf x)) ∧ bo t (jf x) ≤ bo t (jf x + 1) ∧ bo t (jf x + 1) ≤ tr t * le t
set_option maxHeartbeats 4000000 in
set_option maxRecDepth 100000 in
theorem c_X5_startOf (l : Launch) (D : va_G) (cA : Nat → ClassId) (ws : va_W) {gd : Nat → Nat} {n : Nat} {tr : Nat → Nat} {le : Nat → Nat} {sl : Nat → Nat} {mo : Nat → Option Nat} {la : Nat → Bool} {fc : Nat → Nat} {sf : Nat → Int32} {bf : Nat → Int32} {nd : Nat} {mk : Nat → Nat} {ck : Nat → Int32} {ct : Nat → Nat} {hd : Nat → Option Nat} {pf : Nat → Int32} {nj : Nat} {jt : Nat → Int32} {jf : Nat → Nat} {dl : Nat → Nat} {fin : Nat → Bool} {my : Nat} {fls : Nat → Int32} {fod : Nat → Int32} {fle : Nat → Int32} {fro : Nat → Int32} {th : Nat} (hm : mL cA ws gd n tr le sl mo la fc sf bf nd mk ck ct hd pf nj jt jf dl fin my fls fod fle fro th) (bo : Nat → Nat → Nat) (t9 : Nat) (L9 : List Nat) (hJ : mJ tr le bo jf sf bf jt fls t9 L9) (ht9 : t9 < 8) (p9 : Nat) (hp9 : p9 < L9.length) : Met l yX5_startOf wsX5_startOf ({ frames := 0, cells := 0, slots := 0, locals := 0 }) (va_Pc [.ref (gd 0), .int (nI (p9))] (zS D cA ws)) (vp_Si (fun r => r = nI (bo t9 (jf (L9.getD p9 0))))) 0 0 zF := by
  refine zOpen (cc := cX5_startOf) (maxL := 2) (ret := (some .int)) (own := RX5) (by decide) rfl rfl (Nat.le_of_ble_eq_true rfl) ?_
  intro p e s m below meth c ls hx hb hr hml hts hown hlocks hnm ⟨hZ, hP⟩ hl
  have iX5 : ∀ w ∈ wsX50, w ∈ wsX5_startOf := by decide +kernel
  have hl : lv_has ls 2 [(0, .ref (gd 0)), (1, .int (nI (p9)))] := hl
  have hm0 := hm
  obtain ⟨m0, m1, m2, m3, m4, m5, m6, m7, m8, m9, m10, m11, m12, m13, m14, m15, m16, m17, m18, m19, m20, m21⟩ := hm
  obtain ⟨x9, hx9⟩ : ∃ x, x = L9.getD p9 0 := ⟨_, rfl⟩
  obtain ⟨hL7, hfl, hLx⟩ := id hJ
  obtain ⟨g1, g2, g3, g4, g5, g6, g7⟩ := hLx x9 (by rw [hx9]; exact getD_mem hp9)
  have hfp := hfl p9 hp9
  rw [← hx9] at hfp ⊢
  refine lv_aload_n hx hb dX5_startOf_0 rfl (lv_at hl 0 rfl) ?_
  refine va_get (D := D) (ci := 5) (v := .ref (gd 7)) (C := RX5) (T := TX5) (N := 26) hx hb hts iX5 hown hZ.1 hP 0 m0 rfl 7 (by decide) (hts (.fieldLink RX5 29 "TapeRoboticsModel" "start" "[I") (by decide +kernel)) (fun _ h9 => h9) rfl dX5_startOf_1 ?_
  refine lv_bipush (v := nI (10)) hx hb dX5_startOf_4 (by decide) ?_
  refine lv_aload_n hx hb dX5_startOf_6 rfl (lv_at hl 0 rfl) ?_
  refine va_get (D := D) (ci := 5) (v := .ref (gd 14)) (C := RX5) (T := TX5) (N := 26) hx hb hts iX5 hown hZ.1 hP 0 m0 rfl 16 (by decide) (hts (.fieldLink RX5 50 "TapeRoboticsModel" "jobTape" "[I") (by decide +kernel)) (fun _ h9 => h9) rfl dX5_startOf_7 ?_
  refine lv_aload_n hx hb dX5_startOf_10 rfl (lv_at hl 0 rfl) ?_
  refine va_get (D := D) (ci := 5) (v := .ref (gd 18)) (C := RX5) (T := TX5) (N := 26) hx hb hts iX5 hown hZ.1 hP 0 m0 rfl 21 (by decide) (hts (.fieldLink RX5 62 "TapeRoboticsModel" "list" "[I") (by decide +kernel)) (fun _ h9 => h9) rfl dX5_startOf_11 ?_
  refine lv_iload_n hx hb dX5_startOf_14 rfl (lv_at hl 1 rfl) ?_
  refine va_iald hx hb hZ.1 hP 18 0 m18 rfl (vp_in_nI (show p9 < 7 by omega) (by omega)) dX5_startOf_15 ?_
  rw [nI_clamp (show p9 < 2 ^ 31 by omega)]
  refine zx_val (y := nI (x9)) (hfp) ?_
  refine va_iald hx hb hZ.1 hP 14 0 m14 rfl (vp_in_nI (show x9 < 60 by omega) (by omega)) dX5_startOf_16 ?_
  rw [nI_clamp (show x9 < 2 ^ 31 by omega)]
  refine zx_val (y := nI (t9)) (g2) ?_
  refine zo_mul hx hb dX5_startOf_17 ?_
  refine lv_aload_n hx hb dX5_startOf_18 rfl (lv_at hl 0 rfl) ?_
  refine va_get (D := D) (ci := 5) (v := .ref (gd 15)) (C := RX5) (T := TX5) (N := 26) hx hb hts iX5 hown hZ.1 hP 0 m0 rfl 17 (by decide) (hts (.fieldLink RX5 53 "TapeRoboticsModel" "jobFile" "[I") (by decide +kernel)) (fun _ h9 => h9) rfl dX5_startOf_19 ?_
  refine lv_aload_n hx hb dX5_startOf_22 rfl (lv_at hl 0 rfl) ?_
  refine va_get (D := D) (ci := 5) (v := .ref (gd 18)) (C := RX5) (T := TX5) (N := 26) hx hb hts iX5 hown hZ.1 hP 0 m0 rfl 21 (by decide) (hts (.fieldLink RX5 62 "TapeRoboticsModel" "list" "[I") (by decide +kernel)) (fun _ h9 => h9) rfl dX5_startOf_23 ?_
  refine lv_iload_n hx hb dX5_startOf_26 rfl (lv_at hl 1 rfl) ?_
  refine va_iald hx hb hZ.1 hP 18 0 m18 rfl (vp_in_nI (show p9 < 7 by omega) (by omega)) dX5_startOf_27 ?_
  rw [nI_clamp (show p9 < 2 ^ 31 by omega)]
  refine zx_val (y := nI (x9)) (hfp) ?_
  refine va_iald hx hb hZ.1 hP 15 0 m15 rfl (vp_in_nI (show x9 < 60 by omega) (by omega)) dX5_startOf_28 ?_
  rw [nI_clamp (show x9 < 2 ^ 31 by omega)]
  refine zo_add hx hb dX5_startOf_29 ?_
  refine va_iald hx hb hZ.1 hP 7 0 m7 rfl (vp_in_nI (show (10 * t9) + (jf x9) < 80 by omega) (by omega)) dX5_startOf_30 ?_
  rw [nI_clamp (show (10 * t9) + (jf x9) < 2 ^ 31 by omega)]
  refine zx_val (y := nI (bo t9 (jf x9))) (g4) ?_
  exact zr_i hx hb hr hlocks (rfl) dX5_startOf_31

set_option maxHeartbeats 4000000 in
set_option maxRecDepth 100000 in
theorem c_X5_blocksOf (l : Launch) (D : va_G) (cA : Nat → ClassId) (ws : va_W) {gd : Nat → Nat} {n : Nat} {tr : Nat → Nat} {le : Nat → Nat} {sl : Nat → Nat} {mo : Nat → Option Nat} {la : Nat → Bool} {fc : Nat → Nat} {sf : Nat → Int32} {bf : Nat → Int32} {nd : Nat} {mk : Nat → Nat} {ck : Nat → Int32} {ct : Nat → Nat} {hd : Nat → Option Nat} {pf : Nat → Int32} {nj : Nat} {jt : Nat → Int32} {jf : Nat → Nat} {dl : Nat → Nat} {fin : Nat → Bool} {my : Nat} {fls : Nat → Int32} {fod : Nat → Int32} {fle : Nat → Int32} {fro : Nat → Int32} {th : Nat} (hm : mL cA ws gd n tr le sl mo la fc sf bf nd mk ck ct hd pf nj jt jf dl fin my fls fod fle fro th) (bo : Nat → Nat → Nat) (t9 : Nat) (L9 : List Nat) (hJ : mJ tr le bo jf sf bf jt fls t9 L9) (ht9 : t9 < 8) (p9 : Nat) (hp9 : p9 < L9.length) : Met l yX5_blocksOf wsX5_blocksOf ({ frames := 0, cells := 0, slots := 0, locals := 0 }) (va_Pc [.ref (gd 0), .int (nI (p9))] (zS D cA ws)) (vp_Si (fun r => r = nI (bo t9 (jf (L9.getD p9 0) + 1) - bo t9 (jf (L9.getD p9 0))))) 0 0 zF := by
  refine zOpen (cc := cX5_blocksOf) (maxL := 2) (ret := (some .int)) (own := RX5) (by decide) rfl rfl (Nat.le_of_ble_eq_true rfl) ?_
  intro p e s m below meth c ls hx hb hr hml hts hown hlocks hnm ⟨hZ, hP⟩ hl
  have iX5 : ∀ w ∈ wsX50, w ∈ wsX5_blocksOf := by decide +kernel
  have hl : lv_has ls 2 [(0, .ref (gd 0)), (1, .int (nI (p9)))] := hl
  have hm0 := hm
  obtain ⟨m0, m1, m2, m3, m4, m5, m6, m7, m8, m9, m10, m11, m12, m13, m14, m15, m16, m17, m18, m19, m20, m21⟩ := hm
  obtain ⟨x9, hx9⟩ : ∃ x, x = L9.getD p9 0 := ⟨_, rfl⟩
  obtain ⟨hL7, hfl, hLx⟩ := id hJ
  obtain ⟨g1, g2, g3, g4, g5, g6, g7⟩ := hLx x9 (by rw [hx9]; exact getD_mem hp9)
  have hfp := hfl p9 hp9
  rw [← hx9] at hfp ⊢
  refine lv_aload_n hx hb dX5_blocksOf_0 rfl (lv_at hl 0 rfl) ?_
  refine va_get (D := D) (ci := 5) (v := .ref (gd 8)) (C := RX5) (T := TX5) (N := 26) hx hb hts iX5 hown hZ.1 hP 0 m0 rfl 8 (by decide) (hts (.fieldLink RX5 32 "TapeRoboticsModel" "blocks" "[I") (by decide +kernel)) (fun _ h9 => h9) rfl dX5_blocksOf_1 ?_
  refine lv_bipush (v := nI (10)) hx hb dX5_blocksOf_4 (by decide) ?_
  refine lv_aload_n hx hb dX5_blocksOf_6 rfl (lv_at hl 0 rfl) ?_
  refine va_get (D := D) (ci := 5) (v := .ref (gd 14)) (C := RX5) (T := TX5) (N := 26) hx hb hts iX5 hown hZ.1 hP 0 m0 rfl 16 (by decide) (hts (.fieldLink RX5 50 "TapeRoboticsModel" "jobTape" "[I") (by decide +kernel)) (fun _ h9 => h9) rfl dX5_blocksOf_7 ?_
  refine lv_aload_n hx hb dX5_blocksOf_10 rfl (lv_at hl 0 rfl) ?_
  refine va_get (D := D) (ci := 5) (v := .ref (gd 18)) (C := RX5) (T := TX5) (N := 26) hx hb hts iX5 hown hZ.1 hP 0 m0 rfl 21 (by decide) (hts (.fieldLink RX5 62 "TapeRoboticsModel" "list" "[I") (by decide +kernel)) (fun _ h9 => h9) rfl dX5_blocksOf_11 ?_
  refine lv_iload_n hx hb dX5_blocksOf_14 rfl (lv_at hl 1 rfl) ?_
  refine va_iald hx hb hZ.1 hP 18 0 m18 rfl (vp_in_nI (show p9 < 7 by omega) (by omega)) dX5_blocksOf_15 ?_
  rw [nI_clamp (show p9 < 2 ^ 31 by omega)]
  refine zx_val (y := nI (x9)) (hfp) ?_
  refine va_iald hx hb hZ.1 hP 14 0 m14 rfl (vp_in_nI (show x9 < 60 by omega) (by omega)) dX5_blocksOf_16 ?_
  rw [nI_clamp (show x9 < 2 ^ 31 by omega)]
  refine zx_val (y := nI (t9)) (g2) ?_
  refine zo_mul hx hb dX5_blocksOf_17 ?_
  refine lv_aload_n hx hb dX5_blocksOf_18 rfl (lv_at hl 0 rfl) ?_
  refine va_get (D := D) (ci := 5) (v := .ref (gd 15)) (C := RX5) (T := TX5) (N := 26) hx hb hts iX5 hown hZ.1 hP 0 m0 rfl 17 (by decide) (hts (.fieldLink RX5 53 "TapeRoboticsModel" "jobFile" "[I") (by decide +kernel)) (fun _ h9 => h9) rfl dX5_blocksOf_19 ?_
  refine lv_aload_n hx hb dX5_blocksOf_22 rfl (lv_at hl 0 rfl) ?_
  refine va_get (D := D) (ci := 5) (v := .ref (gd 18)) (C := RX5) (T := TX5) (N := 26) hx hb hts iX5 hown hZ.1 hP 0 m0 rfl 21 (by decide) (hts (.fieldLink RX5 62 "TapeRoboticsModel" "list" "[I") (by decide +kernel)) (fun _ h9 => h9) rfl dX5_blocksOf_23 ?_
  refine lv_iload_n hx hb dX5_blocksOf_26 rfl (lv_at hl 1 rfl) ?_
  refine va_iald hx hb hZ.1 hP 18 0 m18 rfl (vp_in_nI (show p9 < 7 by omega) (by omega)) dX5_blocksOf_27 ?_
  rw [nI_clamp (show p9 < 2 ^ 31 by omega)]
  refine zx_val (y := nI (x9)) (hfp) ?_
  refine va_iald hx hb hZ.1 hP 15 0 m15 rfl (vp_in_nI (show x9 < 60 by omega) (by omega)) dX5_blocksOf_28 ?_
  rw [nI_clamp (show x9 < 2 ^ 31 by omega)]
  refine zo_add hx hb dX5_blocksOf_29 ?_
  refine va_iald hx hb hZ.1 hP 8 0 m8 rfl (vp_in_nI (show (10 * t9) + (jf x9) < 80 by omega) (by omega)) dX5_blocksOf_30 ?_
  rw [nI_clamp (show (10 * t9) + (jf x9) < 2 ^ 31 by omega)]
  refine zx_val (y := nI (bo t9 (jf x9 + 1) - bo t9 (jf x9))) (g5) ?_
  exact zr_i hx hb hr hlocks (rfl) dX5_blocksOf_31

set_option maxHeartbeats 4000000 in
set_option maxRecDepth 100000 in
theorem c_X5_timeOf (l : Launch) (D : va_G) (cA : Nat → ClassId) (ws : va_W) {gd : Nat → Nat} {n : Nat} {tr : Nat → Nat} {le : Nat → Nat} {sl : Nat → Nat} {mo : Nat → Option Nat} {la : Nat → Bool} {fc : Nat → Nat} {sf : Nat → Int32} {bf : Nat → Int32} {nd : Nat} {mk : Nat → Nat} {ck : Nat → Int32} {ct : Nat → Nat} {hd : Nat → Option Nat} {pf : Nat → Int32} {nj : Nat} {jt : Nat → Int32} {jf : Nat → Nat} {dl : Nat → Nat} {fin : Nat → Bool} {my : Nat} {fls : Nat → Int32} {fod : Nat → Int32} {fle : Nat → Int32} {fro : Nat → Int32} {th : Nat} (hm : mL cA ws gd n tr le sl mo la fc sf bf nd mk ck ct hd pf nj jt jf dl fin my fls fod fle fro th) (bo : Nat → Nat → Nat) (t9 : Nat) (L9 : List Nat) (hJ : mJ tr le bo jf sf bf jt fls t9 L9) (ht9 : t9 < 8) (j9 P9 : Nat) (hj9 : j9 < 3) (hht : hd j9 = some t9) (hmk : mk j9 ≤ 1) (hpf : pf j9 = nI P9) (hP9 : P9 ≤ tr t9 * le t9) (htr : 1 ≤ tr t9 ∧ tr t9 ≤ 8) (hle : 4 ≤ le t9 ∧ le t9 ≤ 200) (a9 p9 : Nat) (hp9 : p9 < L9.length) (ha9 : a9 < L9.length ∨ a9 = 7) : Met l yX5_timeOf wsX5_timeOf ({ frames := 3, cells := 0, slots := 0, locals := 74 }) (va_Pc [.ref (gd 0), .int (nI (j9)), .int (nI (a9)), .int (nI (p9))] (zS D cA ws)) (vp_Si (fun r => r = nI (LG mk tr le bo jf j9 t9 P9 L9 a9 p9))) 0 0 zF := by
  refine zOpen (cc := cX5_timeOf) (maxL := 5) (ret := (some .int)) (own := RX5) (by decide) rfl rfl (Nat.le_of_ble_eq_true rfl) ?_
  intro p e s m below meth c ls hx hb hr hml hts hown hlocks hnm ⟨hZ, hP⟩ hl
  have iX5 : ∀ w ∈ wsX50, w ∈ wsX5_timeOf := by decide +kernel
  have hl : lv_has ls 5 [(0, .ref (gd 0)), (1, .int (nI (j9))), (2, .int (nI (a9))), (3, .int (nI (p9)))] := hl
  have hm0 := hm
  obtain ⟨m0, m1, m2, m3, m4, m5, m6, m7, m8, m9, m10, m11, m12, m13, m14, m15, m16, m17, m18, m19, m20, m21⟩ := hm
  obtain ⟨hL7, hfl, hLx⟩ := id hJ
  have hmul : tr t9 * le t9 ≤ 8 * 200 := Nat.mul_le_mul (by omega) (by omega)
  obtain ⟨g1, g2, g3, g4, g5, g6, g7⟩ := hLx _ (getD_mem hp9)
  refine lv_iload_n hx hb dX5_timeOf_0 rfl (lv_at hl 2 rfl) ?_
  refine lv_bipush (v := nI (7)) hx hb dX5_timeOf_1 (by decide) ?_
  refine zc_ne (tgt := 15) hx hb (by omega) (by omega) dX5_timeOf_3 (by decide) (fun c_1 => ?_) (fun c_1 => ?_)
  · have ha7 : a9 < L9.length := by omega
    obtain ⟨e1, e2, e3, e4, e5, e6, e7⟩ := hLx _ (getD_mem ha7)
    refine lv_aload_n hx hb dX5_timeOf_15 rfl (lv_at hl 0 rfl) ?_
    refine lv_iload_n hx hb dX5_timeOf_16 rfl (lv_at hl 2 rfl) ?_
    refine zk_V_i (n := 1) (As := [.int (nI (a9))]) (rest := []) hx hb hml hts hown hZ hP (c_X5_startOf l D cA _ hm0 bo t9 L9 hJ ht9 a9 (by first | assumption | omega)) gX5_timeOf_X5_startOf rfl rfl ⟨rfl, rfl⟩ ⟨by decide +kernel, Nat.le_of_ble_eq_true rfl, Nat.le_of_ble_eq_true rfl⟩ m0 rfl hl.1 rfl (Nat.le_of_ble_eq_true rfl) ⟨Nat.le_of_ble_eq_true rfl, Nat.le_of_ble_eq_true rfl⟩ rfl dX5_timeOf_17 (fun r_2 hr_3 => ?_)
    obtain rfl := show r_2 = _ from hr_3
    refine lv_aload_n hx hb dX5_timeOf_20 rfl (lv_at hl 0 rfl) ?_
    refine lv_iload_n hx hb dX5_timeOf_21 rfl (lv_at hl 2 rfl) ?_
    refine zk_V_i (n := 1) (As := [.int (nI (a9))]) (rest := [.int (nI (bo t9 (jf (L9.getD a9 0))))]) hx hb hml hts hown hZ hP (c_X5_blocksOf l D cA _ hm0 bo t9 L9 hJ ht9 a9 (by first | assumption | omega)) gX5_timeOf_X5_blocksOf rfl rfl ⟨rfl, rfl⟩ ⟨by decide +kernel, Nat.le_of_ble_eq_true rfl, Nat.le_of_ble_eq_true rfl⟩ m0 rfl hl.1 rfl (Nat.le_of_ble_eq_true rfl) ⟨Nat.le_of_ble_eq_true rfl, Nat.le_of_ble_eq_true rfl⟩ rfl dX5_timeOf_22 (fun r_4 hr_5 => ?_)
    obtain rfl := show r_4 = _ from hr_5
    refine zo_add hx hb dX5_timeOf_25 ?_
    refine zx_val (y := nI (bo t9 (jf (L9.getD a9 0) + 1))) (by congr 1; omega) ?_
    refine lv_istore (lv' := [(4, .int (nI (bo t9 (jf (L9.getD a9 0) + 1)))), (0, .ref (gd 0)), (1, .int (nI (j9))), (2, .int (nI (a9))), (3, .int (nI (p9)))]) hx hb dX5_timeOf_26 hl (by decide) rfl (fun ls hl => ?_)
    refine lv_aload_n hx hb dX5_timeOf_28 rfl (lv_at hl 1 rfl) ?_
    refine lv_iload_n hx hb dX5_timeOf_29 rfl (lv_at hl 2 rfl) ?_
    refine lv_iload hx hb dX5_timeOf_30 (lv_at hl 0 rfl) ?_
    refine lv_aload_n hx hb dX5_timeOf_32 rfl (lv_at hl 1 rfl) ?_
    refine lv_iload_n hx hb dX5_timeOf_33 rfl (lv_at hl 4 rfl) ?_
    refine zk_V_i (n := 1) (As := [.int (nI (p9))]) (rest := [.int (nI (bo t9 (jf (L9.getD a9 0) + 1))), .int (nI (j9)), .ref (gd 0)]) hx hb hml hts hown hZ hP (c_X5_startOf l D cA _ hm0 bo t9 L9 hJ ht9 p9 (by first | assumption | omega)) gX5_timeOf_X5_startOf rfl rfl ⟨rfl, rfl⟩ ⟨by decide +kernel, Nat.le_of_ble_eq_true rfl, Nat.le_of_ble_eq_true rfl⟩ m0 rfl hl.1 rfl (Nat.le_of_ble_eq_true rfl) ⟨Nat.le_of_ble_eq_true rfl, Nat.le_of_ble_eq_true rfl⟩ rfl dX5_timeOf_34 (fun r_6 hr_7 => ?_)
    obtain rfl := show r_6 = _ from hr_7
    refine zk_V_i (n := 3) (As := [.int (nI (j9)), .int (nI (bo t9 (jf (L9.getD a9 0) + 1))), .int (nI (bo t9 (jf (L9.getD p9 0))))]) (rest := []) hx hb hml hts hown hZ hP (c_X5_way l D cA _ hm0 j9 t9 (bo t9 (jf (L9.getD a9 0) + 1)) (bo t9 (jf (L9.getD p9 0))) hj9 hht hmk (by omega) (by omega) ht9 htr hle) gX5_timeOf_X5_way rfl rfl ⟨rfl, rfl⟩ ⟨by decide +kernel, Nat.le_of_ble_eq_true rfl, Nat.le_of_ble_eq_true rfl⟩ m0 rfl hl.1 rfl (Nat.le_of_ble_eq_true rfl) ⟨Nat.le_of_ble_eq_true rfl, Nat.le_of_ble_eq_true rfl⟩ rfl dX5_timeOf_37 (fun r_8 hr_9 => ?_)
    obtain rfl := show r_8 = _ from hr_9
    have hwt := wayT_le (m := mk j9) (tr := tr t9) (le := le t9) (a := (bo t9 (jf (L9.getD a9 0) + 1))) (b := bo t9 (jf (L9.getD p9 0))) (by omega) (by omega) (by omega) (by omega)
    refine lv_iconst (v := nI (3)) hx hb dX5_timeOf_40 (by decide) ?_
    refine lv_aload_n hx hb dX5_timeOf_41 rfl (lv_at hl 1 rfl) ?_
    refine lv_iload_n hx hb dX5_timeOf_42 rfl (lv_at hl 4 rfl) ?_
    refine zk_V_i (n := 1) (As := [.int (nI (p9))]) (rest := [.int (nI (3)), .int (nI (wayT (zpa (mk j9)) (zsp (mk j9)) (tr t9) (le t9) (bo t9 (jf (L9.getD a9 0) + 1)) (bo t9 (jf (L9.getD p9 0)))))]) hx hb hml hts hown hZ hP (c_X5_blocksOf l D cA _ hm0 bo t9 L9 hJ ht9 p9 (by first | assumption | omega)) gX5_timeOf_X5_blocksOf rfl rfl ⟨rfl, rfl⟩ ⟨by decide +kernel, Nat.le_of_ble_eq_true rfl, Nat.le_of_ble_eq_true rfl⟩ m0 rfl hl.1 rfl (Nat.le_of_ble_eq_true rfl) ⟨Nat.le_of_ble_eq_true rfl, Nat.le_of_ble_eq_true rfl⟩ rfl dX5_timeOf_43 (fun r_10 hr_11 => ?_)
    obtain rfl := show r_10 = _ from hr_11
    refine zo_mul hx hb dX5_timeOf_46 ?_
    refine zo_add hx hb dX5_timeOf_47 ?_
    exact zr_i hx hb hr hlocks (by rw [LG_in hp9]; unfold lgs legT; first | (rw [if_pos (by omega)]; done) | (rw [if_neg (by omega)])) dX5_timeOf_48
  · refine lv_aload_n hx hb dX5_timeOf_6 rfl (lv_at hl 0 rfl) ?_
    refine va_get (D := D) (ci := 5) (v := .ref (gd 13)) (C := RX5) (T := TX5) (N := 26) hx hb hts iX5 hown hZ.1 hP 0 m0 rfl 14 (by decide) (hts (.fieldLink RX5 47 "TapeRoboticsModel" "stand" "[I") (by decide +kernel)) (fun _ h9 => h9) rfl dX5_timeOf_7 ?_
    refine lv_iload_n hx hb dX5_timeOf_10 rfl (lv_at hl 1 rfl) ?_
    refine va_iald hx hb hZ.1 hP 13 0 m13 rfl (vp_in_nI (show j9 < 3 by omega) (by omega)) dX5_timeOf_11 ?_
    rw [nI_clamp (show j9 < 2 ^ 31 by omega)]
    refine zx_val (y := nI (P9)) (hpf) ?_
    refine lv_goto (tgt := 26) hx hb dX5_timeOf_12 (by decide) ?_
    refine lv_istore (lv' := [(4, .int (nI (P9))), (0, .ref (gd 0)), (1, .int (nI (j9))), (2, .int (nI (a9))), (3, .int (nI (p9)))]) hx hb dX5_timeOf_26 hl (by decide) rfl (fun ls hl => ?_)
    refine lv_aload_n hx hb dX5_timeOf_28 rfl (lv_at hl 1 rfl) ?_
    refine lv_iload_n hx hb dX5_timeOf_29 rfl (lv_at hl 2 rfl) ?_
    refine lv_iload hx hb dX5_timeOf_30 (lv_at hl 0 rfl) ?_
    refine lv_aload_n hx hb dX5_timeOf_32 rfl (lv_at hl 1 rfl) ?_
    refine lv_iload_n hx hb dX5_timeOf_33 rfl (lv_at hl 4 rfl) ?_
    refine zk_V_i (n := 1) (As := [.int (nI (p9))]) (rest := [.int (nI (P9)), .int (nI (j9)), .ref (gd 0)]) hx hb hml hts hown hZ hP (c_X5_startOf l D cA _ hm0 bo t9 L9 hJ ht9 p9 (by first | assumption | omega)) gX5_timeOf_X5_startOf rfl rfl ⟨rfl, rfl⟩ ⟨by decide +kernel, Nat.le_of_ble_eq_true rfl, Nat.le_of_ble_eq_true rfl⟩ m0 rfl hl.1 rfl (Nat.le_of_ble_eq_true rfl) ⟨Nat.le_of_ble_eq_true rfl, Nat.le_of_ble_eq_true rfl⟩ rfl dX5_timeOf_34 (fun r_12 hr_13 => ?_)
    obtain rfl := show r_12 = _ from hr_13
    refine zk_V_i (n := 3) (As := [.int (nI (j9)), .int (nI (P9)), .int (nI (bo t9 (jf (L9.getD p9 0))))]) (rest := []) hx hb hml hts hown hZ hP (c_X5_way l D cA _ hm0 j9 t9 P9 (bo t9 (jf (L9.getD p9 0))) hj9 hht hmk (by omega) (by omega) ht9 htr hle) gX5_timeOf_X5_way rfl rfl ⟨rfl, rfl⟩ ⟨by decide +kernel, Nat.le_of_ble_eq_true rfl, Nat.le_of_ble_eq_true rfl⟩ m0 rfl hl.1 rfl (Nat.le_of_ble_eq_true rfl) ⟨Nat.le_of_ble_eq_true rfl, Nat.le_of_ble_eq_true rfl⟩ rfl dX5_timeOf_37 (fun r_14 hr_15 => ?_)
    obtain rfl := show r_14 = _ from hr_15
    have hwt := wayT_le (m := mk j9) (tr := tr t9) (le := le t9) (a := P9) (b := bo t9 (jf (L9.getD p9 0))) (by omega) (by omega) (by omega) (by omega)
    refine lv_iconst (v := nI (3)) hx hb dX5_timeOf_40 (by decide) ?_
    refine lv_aload_n hx hb dX5_timeOf_41 rfl (lv_at hl 1 rfl) ?_
    refine lv_iload_n hx hb dX5_timeOf_42 rfl (lv_at hl 4 rfl) ?_
    refine zk_V_i (n := 1) (As := [.int (nI (p9))]) (rest := [.int (nI (3)), .int (nI (wayT (zpa (mk j9)) (zsp (mk j9)) (tr t9) (le t9) P9 (bo t9 (jf (L9.getD p9 0)))))]) hx hb hml hts hown hZ hP (c_X5_blocksOf l D cA _ hm0 bo t9 L9 hJ ht9 p9 (by first | assumption | omega)) gX5_timeOf_X5_blocksOf rfl rfl ⟨rfl, rfl⟩ ⟨by decide +kernel, Nat.le_of_ble_eq_true rfl, Nat.le_of_ble_eq_true rfl⟩ m0 rfl hl.1 rfl (Nat.le_of_ble_eq_true rfl) ⟨Nat.le_of_ble_eq_true rfl, Nat.le_of_ble_eq_true rfl⟩ rfl dX5_timeOf_43 (fun r_16 hr_17 => ?_)
    obtain rfl := show r_16 = _ from hr_17
    refine zo_mul hx hb dX5_timeOf_46 ?_
    refine zo_add hx hb dX5_timeOf_47 ?_
    exact zr_i hx hb hr hlocks (by rw [LG_in hp9]; unfold lgs legT; first | (rw [if_pos (by omega)]; done) | (rw [if_neg (by omega)])) dX5_timeOf_48

