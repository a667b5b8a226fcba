set_option maxHeartbeats 4000000 in
set_option maxRecDepth 100000 in
theorem c_X5_isFile (l : Launch) (D : va_G) (cA : Nat → ClassId) (ws : va_W) {gd : Nat → Nat} {n : Nat} {tr : Nat → Nat} {le : Nat → Nat} {sl : Nat → Nat} {mo : Nat → Option Nat} {la : Nat → Bool} {fc : Nat → Nat} {sf : Nat → Int32} {bf : Nat → Int32} {nd : Nat} {mk : Nat → Nat} {ck : Nat → Int32} {ct : Nat → Nat} {hd : Nat → Option Nat} {pf : Nat → Int32} {nj : Nat} {jt : Nat → Int32} {jf : Nat → Nat} {dl : Nat → Nat} {fin : Nat → Bool} {my : Nat} {fls : Nat → Int32} {fod : Nat → Int32} {fle : Nat → Int32} {fro : Nat → Int32} {th : Nat} (hm : mL cA ws gd n tr le sl mo la fc sf bf nd mk ck ct hd pf nj jt jf dl fin my fls fod fle fro th) (hn8 : n ≤ 8) (hfc : ∀ i, i < n → fc i ≤ 10) (v9 w9 : Int32) : Met l yX5_isFile wsX5_isFile ({ frames := 2, cells := 0, slots := 0, locals := 43 }) (va_Pc [.ref (gd 0), .int (v9), .int (w9)] (zS D cA ws)) (vp_Si (fun r => r = bI (((ix v9 n).bind (fun t => ix w9 (fc t))).isSome))) 0 0 zF := by
  refine zOpen (cc := cX5_isFile) (maxL := 3) (ret := (some .boolean)) (own := RX5) (by decide) rfl rfl (Nat.le_of_ble_eq_true rfl) ?_
  intro p e s m below meth c ls hx hb hr hml hts hown hlocks hnm ⟨hZ, hP⟩ hl
  have iX5 : ∀ w ∈ wsX50, w ∈ wsX5_isFile := by decide +kernel
  have hl : lv_has ls 3 [(0, .ref (gd 0)), (1, .int (v9)), (2, .int (w9))] := hl
  have hm0 := hm
  obtain ⟨m0, m1, m2, m3, m4, m5, m6, m7, m8, m9, m10, m11, m12, m13, m14, m15, m16, m17, m18, m19, m20, m21⟩ := hm
  refine lv_aload_n hx hb dX5_isFile_0 rfl (lv_at hl 0 rfl) ?_
  refine lv_iload_n hx hb dX5_isFile_1 rfl (lv_at hl 1 rfl) ?_
  refine zk_V_i (n := 1) (As := [.int (v9)]) (rest := []) hx hb hml hts hown hZ hP (c_X5_isTape l D cA _ hm0 (by omega) v9) gX5_isFile_X5_isTape rfl rfl ⟨rfl, rfl⟩ ⟨by decide +kernel, Nat.le_of_ble_eq_true rfl, Nat.le_of_ble_eq_true rfl⟩ m0 rfl hl.1 rfl (Nat.le_of_ble_eq_true rfl) ⟨Nat.le_of_ble_eq_true rfl, Nat.le_of_ble_eq_true rfl⟩ rfl dX5_isFile_2 (fun r_1 hr_2 => ?_)
  obtain rfl := show r_1 = _ from hr_2
  refine zb_eq (tgt := 28) hx hb dX5_isFile_5 (by decide) (fun c_3 => ?_) (fun c_3 => ?_)
  · refine lv_iconst (v := bI (false)) hx hb dX5_isFile_28 (by decide) ?_
    exact zr_z hx hb hr hlocks (by first | (rw [hb9, ← isin_ix (by omega), show (decide (nI 0 ≤ w9) && decide (w9 ≤ nI (fc t9) - nI 1)) = _ by assumption]; done) | (rw [show ix v9 n = none from Option.not_isSome_iff_eq_none.mp (by rw [show (ix v9 n).isSome = false by assumption]; exact Bool.noConfusion)]; rfl)) dX5_isFile_29
  · obtain ⟨t9, ht9⟩ := Option.isSome_iff_exists.mp (show (ix v9 n).isSome = true by assumption)
    obtain ⟨hn_t9, rfl⟩ := ix_some ht9
    have hf9 := hfc t9 hn_t9
    have hb9 : ((ix (nI t9) n).bind (fun t => ix w9 (fc t))).isSome = (ix w9 (fc t9)).isSome := by rw [ht9]; rfl
    refine lv_iload_n hx hb dX5_isFile_8 rfl (lv_at hl 2 rfl) ?_
    refine lv_iconst (v := nI (0)) hx hb dX5_isFile_9 (by decide) ?_
    refine lv_aload_n hx hb dX5_isFile_10 rfl (lv_at hl 0 rfl) ?_
    refine va_get (D := D) (ci := 5) (v := .ref (gd 6)) (C := RX5) (T := TX5) (N := 26) hx hb hts iX5 hown hZ.1 hP 0 m0 rfl 6 (by decide) (hts (.fieldLink RX5 26 "TapeRoboticsModel" "files" "[I") (by decide +kernel)) (fun _ h9 => h9) rfl dX5_isFile_11 ?_
    refine lv_iload_n hx hb dX5_isFile_14 rfl (lv_at hl 1 rfl) ?_
    refine va_iald hx hb hZ.1 hP 6 0 m6 rfl (vp_in_nI (show t9 < 8 by omega) (by omega)) dX5_isFile_15 ?_
    rw [nI_clamp (show t9 < 2 ^ 31 by omega)]
    refine lv_iconst (v := nI (1)) hx hb dX5_isFile_16 (by decide) ?_
    refine lv_isub hx hb dX5_isFile_17 ?_
    refine zx_val (y := nI (fc t9) - nI 1) (rfl) ?_
    refine zk_S_i (n := 3) (As := [.int (w9), .int (nI (0)), .int (nI (fc t9) - nI 1)]) (rest := []) hx hb hml hts hown hZ hP (c_X5_isIn l D cA _ w9 (nI (0)) (nI (fc t9) - nI 1)) gX5_isFile_X5_isIn rfl ⟨rfl, rfl⟩ ⟨by decide +kernel, Nat.le_of_ble_eq_true rfl, Nat.le_of_ble_eq_true rfl⟩ hl.1 rfl (Nat.le_of_ble_eq_true rfl) ⟨Nat.le_of_ble_eq_true rfl, Nat.le_of_ble_eq_true rfl⟩ rfl dX5_isFile_18 (fun r_4 hr_5 => ?_)
    obtain rfl := show r_4 = _ from hr_5
    refine zb_eq (tgt := 28) hx hb dX5_isFile_21 (by decide) (fun c_6 => ?_) (fun c_6 => ?_)
    · refine lv_iconst (v := bI (false)) hx hb dX5_isFile_28 (by decide) ?_
      exact zr_z hx hb hr hlocks (by first | (rw [hb9, ← isin_ix (by omega), show (decide (nI 0 ≤ w9) && decide (w9 ≤ nI (fc t9) - nI 1)) = _ by assumption]; done) | (rw [show ix v9 n = none from Option.not_isSome_iff_eq_none.mp (by rw [show (ix v9 n).isSome = false by assumption]; exact Bool.noConfusion)]; rfl)) dX5_isFile_29
    · refine lv_iconst (v := bI (true)) hx hb dX5_isFile_24 (by decide) ?_
      refine lv_goto (tgt := 29) hx hb dX5_isFile_25 (by decide) ?_
      exact zr_z hx hb hr hlocks (by first | (rw [hb9, ← isin_ix (by omega), show (decide (nI 0 ≤ w9) && decide (w9 ≤ nI (fc t9) - nI 1)) = _ by assumption]; done) | (rw [show ix v9 n = none from Option.not_isSome_iff_eq_none.mp (by rw [show (ix v9 n).isSome = false by assumption]; exact Bool.noConfusion)]; rfl)) dX5_isFile_29

set_option maxHeartbeats 4000000 in
set_option maxRecDepth 100000 in
theorem c_X5_hasTape (l : Launch) (D : va_G) (cA : Nat → ClassId) (ws : va_W) {gd : Nat → Nat} {n : Nat} {tr : Nat → Nat} {le : Nat → Nat} {sl : Nat → Nat} {mo : Nat → Option Nat} {la : Nat → Bool} {fc : Nat → Nat} {sf : Nat → Int32} {bf : Nat → Int32} {nd : Nat} {mk : Nat → Nat} {ck : Nat → Int32} {ct : Nat → Nat} {hd : Nat → Option Nat} {pf : Nat → Int32} {nj : Nat} {jt : Nat → Int32} {jf : Nat → Nat} {dl : Nat → Nat} {fin : Nat → Bool} {my : Nat} {fls : Nat → Int32} {fod : Nat → Int32} {fle : Nat → Int32} {fro : Nat → Int32} {th : Nat} (hm : mL cA ws gd n tr le sl mo la fc sf bf nd mk ck ct hd pf nj jt jf dl fin my fls fod fle fro th) (hd3 : nd ≤ 3) (hH : ∀ j, j < nd → ∀ t, hd j = some t → t < 8) (v9 : Int32) : Met l yX5_hasTape wsX5_hasTape ({ frames := 2, cells := 0, slots := 0, locals := 43 }) (va_Pc [.ref (gd 0), .int (v9)] (zS D cA ws)) (vp_Si (fun r => r = bI (((ix v9 nd).bind hd).isSome))) 0 0 zF := by
  refine zOpen (cc := cX5_hasTape) (maxL := 2) (ret := (some .boolean)) (own := RX5) (by decide) rfl rfl (Nat.le_of_ble_eq_true rfl) ?_
  intro p e s m below meth c ls hx hb hr hml hts hown hlocks hnm ⟨hZ, hP⟩ hl
  have iX5 : ∀ w ∈ wsX50, w ∈ wsX5_hasTape := by decide +kernel
  have hl : lv_has ls 2 [(0, .ref (gd 0)), (1, .int (v9))] := hl
  have hm0 := hm
  obtain ⟨m0, m1, m2, m3, m4, m5, m6, m7, m8, m9, m10, m11, m12, m13, m14, m15, m16, m17, m18, m19, m20, m21⟩ := hm
  refine lv_aload_n hx hb dX5_hasTape_0 rfl (lv_at hl 0 rfl) ?_
  refine lv_iload_n hx hb dX5_hasTape_1 rfl (lv_at hl 1 rfl) ?_
  refine zk_V_i (n := 1) (As := [.int (v9)]) (rest := []) hx hb hml hts hown hZ hP (c_X5_isDrive l D cA _ hm0 (by omega) v9) gX5_hasTape_X5_isDrive rfl rfl ⟨rfl, rfl⟩ ⟨by decide +kernel, Nat.le_of_ble_eq_true rfl, Nat.le_of_ble_eq_true rfl⟩ m0 rfl hl.1 rfl (Nat.le_of_ble_eq_true rfl) ⟨Nat.le_of_ble_eq_true rfl, Nat.le_of_ble_eq_true rfl⟩ rfl dX5_hasTape_2 (fun r_1 hr_2 => ?_)
  obtain rfl := show r_1 = _ from hr_2
  refine zb_eq (tgt := 22) hx hb dX5_hasTape_5 (by decide) (fun c_3 => ?_) (fun c_3 => ?_)
  · refine lv_iconst (v := bI (false)) hx hb dX5_hasTape_22 (by decide) ?_
    exact zr_z hx hb hr hlocks (by first | (rw [hb9, hm9.mp (by assumption)]; rfl) | (rw [hb9, show (hd j9).isSome = true from Option.isSome_iff_ne_none.mpr (fun q => absurd (hm9.mpr q) (by assumption))]) | (rw [show ix v9 nd = none from Option.not_isSome_iff_eq_none.mp (by rw [show (ix v9 nd).isSome = false by assumption]; exact Bool.noConfusion)]; rfl)) dX5_hasTape_23
  · obtain ⟨j9, hj9⟩ := Option.isSome_iff_exists.mp (show (ix v9 nd).isSome = true by assumption)
    obtain ⟨hn_j9, rfl⟩ := ix_some hj9
    have hb9 : ((ix (nI j9) nd).bind hd) = hd j9 := by rw [hj9]; rfl
    have hm9 := oI_m1 (o := hd j9) (fun t h => by have := hH j9 hn_j9 t h; omega)
    refine lv_aload_n hx hb dX5_hasTape_8 rfl (lv_at hl 0 rfl) ?_
    refine va_get (D := D) (ci := 5) (v := .ref (gd 12)) (C := RX5) (T := TX5) (N := 26) hx hb hts iX5 hown hZ.1 hP 0 m0 rfl 13 (by decide) (hts (.fieldLink RX5 44 "TapeRoboticsModel" "held" "[I") (by decide +kernel)) (fun _ h9 => h9) rfl dX5_hasTape_9 ?_
    refine lv_iload_n hx hb dX5_hasTape_12 rfl (lv_at hl 1 rfl) ?_
    refine va_iald hx hb hZ.1 hP 12 0 m12 rfl (vp_in_nI (show j9 < 3 by omega) (by omega)) dX5_hasTape_13 ?_
    rw [nI_clamp (show j9 < 2 ^ 31 by omega)]
    refine lv_iconst (v := (-1)) hx hb dX5_hasTape_14 (by decide) ?_
    refine lv_icmp_eq (tgt := 22) hx hb dX5_hasTape_15 (by decide) (fun c_4 => ?_) (fun c_4 => ?_)
    · refine lv_iconst (v := bI (false)) hx hb dX5_hasTape_22 (by decide) ?_
      exact zr_z hx hb hr hlocks (by first | (rw [hb9, hm9.mp (by assumption)]; rfl) | (rw [hb9, show (hd j9).isSome = true from Option.isSome_iff_ne_none.mpr (fun q => absurd (hm9.mpr q) (by assumption))]) | (rw [show ix v9 nd = none from Option.not_isSome_iff_eq_none.mp (by rw [show (ix v9 nd).isSome = false by assumption]; exact Bool.noConfusion)]; rfl)) dX5_hasTape_23
    · refine lv_iconst (v := bI (true)) hx hb dX5_hasTape_18 (by decide) ?_
      refine lv_goto (tgt := 23) hx hb dX5_hasTape_19 (by decide) ?_
      exact zr_z hx hb hr hlocks (by first | (rw [hb9, hm9.mp (by assumption)]; rfl) | (rw [hb9, show (hd j9).isSome = true from Option.isSome_iff_ne_none.mpr (fun q => absurd (hm9.mpr q) (by assumption))]) | (rw [show ix v9 nd = none from Option.not_isSome_iff_eq_none.mp (by rw [show (ix v9 nd).isSome = false by assumption]; exact Bool.noConfusion)]; rfl)) dX5_hasTape_23

set_option maxHeartbeats 4000000 in
set_option maxRecDepth 100000 in
theorem c_X5_isClean (l : Launch) (D : va_G) (cA : Nat → ClassId) (ws : va_W) {gd : Nat → Nat} {n : Nat} {tr : Nat → Nat} {le : Nat → Nat} {sl : Nat → Nat} {mo : Nat → Option Nat} {la : Nat → Bool} {fc : Nat → Nat} {sf : Nat → Int32} {bf : Nat → Int32} {nd : Nat} {mk : Nat → Nat} {ck : Nat → Int32} {ct : Nat → Nat} {hd : Nat → Option Nat} {pf : Nat → Int32} {nj : Nat} {jt : Nat → Int32} {jf : Nat → Nat} {dl : Nat → Nat} {fin : Nat → Bool} {my : Nat} {fls : Nat → Int32} {fod : Nat → Int32} {fle : Nat → Int32} {fro : Nat → Int32} {th : Nat} (hm : mL cA ws gd n tr le sl mo la fc sf bf nd mk ck ct hd pf nj jt jf dl fin my fls fod fle fro th) (j9 : Nat) (hj9 : j9 < 3) (hct : ct j9 ≤ 12) : Met l yX5_isClean wsX5_isClean ({ frames := 0, cells := 0, slots := 0, locals := 0 }) (va_Pc [.ref (gd 0), .int (nI (j9))] (zS D cA ws)) (vp_Si (fun r => r = bI (decide (ct j9 < 12)))) 0 0 zF := by
  refine zOpen (cc := cX5_isClean) (maxL := 2) (ret := (some .boolean)) (own := RX5) (by decide) rfl rfl (Nat.le_of_ble_eq_true rfl) ?_
  intro p e s m below meth c ls hx hb hr hml hts hown hlocks hnm ⟨hZ, hP⟩ hl
  have iX5 : ∀ w ∈ wsX50, w ∈ wsX5_isClean := by decide +kernel
  have hl : lv_has ls 2 [(0, .ref (gd 0)), (1, .int (nI (j9)))] := hl
  have hm0 := hm
  obtain ⟨m0, m1, m2, m3, m4, m5, m6, m7, m8, m9, m10, m11, m12, m13, m14, m15, m16, m17, m18, m19, m20, m21⟩ := hm
  refine lv_aload_n hx hb dX5_isClean_0 rfl (lv_at hl 0 rfl) ?_
  refine va_get (D := D) (ci := 5) (v := .ref (gd 11)) (C := RX5) (T := TX5) (N := 26) hx hb hts iX5 hown hZ.1 hP 0 m0 rfl 12 (by decide) (hts (.fieldLink RX5 41 "TapeRoboticsModel" "count" "[I") (by decide +kernel)) (fun _ h9 => h9) rfl dX5_isClean_1 ?_
  refine lv_iload_n hx hb dX5_isClean_4 rfl (lv_at hl 1 rfl) ?_
  refine va_iald hx hb hZ.1 hP 11 0 m11 rfl (vp_in_nI (show j9 < 3 by omega) (by omega)) dX5_isClean_5 ?_
  rw [nI_clamp (show j9 < 2 ^ 31 by omega)]
  refine lv_bipush (v := nI (12)) hx hb dX5_isClean_6 (by decide) ?_
  refine zc_ge (tgt := 15) hx hb (by omega) (by omega) dX5_isClean_8 (by decide) (fun c_1 => ?_) (fun c_1 => ?_)
  · refine lv_iconst (v := bI (false)) hx hb dX5_isClean_15 (by decide) ?_
    exact zr_z hx hb hr hlocks (by first | (rw [decide_eq_true (show ct j9 < 12 by omega)]; done) | (rw [decide_eq_false (show ¬ ct j9 < 12 by omega)])) dX5_isClean_16
  · refine lv_iconst (v := bI (true)) hx hb dX5_isClean_11 (by decide) ?_
    refine lv_goto (tgt := 16) hx hb dX5_isClean_12 (by decide) ?_
    exact zr_z hx hb hr hlocks (by first | (rw [decide_eq_true (show ct j9 < 12 by omega)]; done) | (rw [decide_eq_false (show ¬ ct j9 < 12 by omega)])) dX5_isClean_16

set_option maxHeartbeats 4000000 in
set_option maxRecDepth 100000 in
theorem c_X5_size (l : Launch) (D : va_G) (cA : Nat → ClassId) (ws : va_W) (a9 b9 : Nat) (ha9 : a9 < 2 ^ 30) (hb9 : b9 < 2 ^ 30) : Met l yX5_size wsX5_size ({ frames := 0, cells := 0, slots := 0, locals := 0 }) (va_Pc [.int (nI a9 - nI b9)] (zS D cA ws)) (vp_Si (fun r => r = nI (dif a9 b9))) 0 0 zF := by
  refine zOpen (cc := cX5_size) (maxL := 1) (ret := (some .int)) (own := RX5) (by decide) rfl rfl (Nat.le_of_ble_eq_true rfl) ?_
  intro p e s m below meth c ls hx hb hr hml hts hown hlocks hnm ⟨hZ, hP⟩ hl
  have hl : lv_has ls 1 [(0, .int (nI a9 - nI b9))] := hl
  refine lv_iload_n hx hb dX5_size_0 rfl (lv_at hl 0 rfl) ?_
  refine lv_if_ge (tgt := 9) hx hb dX5_size_1 (by decide) (fun c_1 => ?_) (fun c_1 => ?_)
  · refine lv_iload_n hx hb dX5_size_9 rfl (lv_at hl 0 rfl) ?_
    exact zr_i hx hb hr hlocks (by first | (rw [← zm_abs ha9 hb9, if_pos (by assumption)]; done) | (rw [← zm_abs ha9 hb9, if_neg (by assumption), Int32.zero_sub])) dX5_size_10
  · refine lv_iload_n hx hb dX5_size_4 rfl (lv_at hl 0 rfl) ?_
    refine lv_ineg hx hb dX5_size_5 ?_
    refine lv_goto (tgt := 10) hx hb dX5_size_6 (by decide) ?_
    exact zr_i hx hb hr hlocks (by first | (rw [← zm_abs ha9 hb9, if_pos (by assumption)]; done) | (rw [← zm_abs ha9 hb9, if_neg (by assumption), Int32.zero_sub])) dX5_size_10

set_option maxHeartbeats 4000000 in
set_option maxRecDepth 100000 in
theorem c_X5_trackOf (l : Launch) (D : va_G) (cA : Nat → ClassId) (ws : va_W) {gd : Nat → Nat} {n : Nat} {tr : Nat → Nat} {le : Nat → Nat} {sl : Nat → Nat} {mo : Nat → Option Nat} {la : Nat → Bool} {fc : Nat → Nat} {sf : Nat → Int32} {bf : Nat → Int32} {nd : Nat} {mk : Nat → Nat} {ck : Nat → Int32} {ct : Nat → Nat} {hd : Nat → Option Nat} {pf : Nat → Int32} {nj : Nat} {jt : Nat → Int32} {jf : Nat → Nat} {dl : Nat → Nat} {fin : Nat → Bool} {my : Nat} {fls : Nat → Int32} {fod : Nat → Int32} {fle : Nat → Int32} {fro : Nat → Int32} {th : Nat} (hm : mL cA ws gd n tr le sl mo la fc sf bf nd mk ck ct hd pf nj jt jf dl fin my fls fod fle fro th) (t9 p9 : Nat) (ht9 : t9 < 8) (hp9 : p9 < 2 ^ 30) (hl1 : 0 < le t9) (hl2 : le t9 ≤ 200) : Met l yX5_trackOf wsX5_trackOf ({ frames := 0, cells := 0, slots := 0, locals := 0 }) (va_Pc [.ref (gd 0), .int (nI (t9)), .int (nI (p9))] (zS D cA ws)) (vp_Si (fun r => r = nI (p9 / le t9))) 0 0 zF := by
  refine zOpen (cc := cX5_trackOf) (maxL := 3) (ret := (some .int)) (own := RX5) (by decide) rfl rfl (Nat.le_of_ble_eq_true rfl) ?_
  intro p e s m below meth c ls hx hb hr hml hts hown hlocks hnm ⟨hZ, hP⟩ hl
  have iX5 : ∀ w ∈ wsX50, w ∈ wsX5_trackOf := by decide +kernel
  have hl : lv_has ls 3 [(0, .ref (gd 0)), (1, .int (nI (t9))), (2, .int (nI (p9)))] := hl
  have hm0 := hm
  obtain ⟨m0, m1, m2, m3, m4, m5, m6, m7, m8, m9, m10, m11, m12, m13, m14, m15, m16, m17, m18, m19, m20, m21⟩ := hm
  refine lv_iload_n hx hb dX5_trackOf_0 rfl (lv_at hl 2 rfl) ?_
  refine lv_aload_n hx hb dX5_trackOf_1 rfl (lv_at hl 0 rfl) ?_
  refine va_get (D := D) (ci := 5) (v := .ref (gd 2)) (C := RX5) (T := TX5) (N := 26) hx hb hts iX5 hown hZ.1 hP 0 m0 rfl 2 (by decide) (hts (.fieldLink RX5 13 "TapeRoboticsModel" "length" "[I") (by decide +kernel)) (fun _ h9 => h9) rfl dX5_trackOf_2 ?_
  refine lv_iload_n hx hb dX5_trackOf_5 rfl (lv_at hl 1 rfl) ?_
  refine va_iald hx hb hZ.1 hP 2 0 m2 rfl (vp_in_nI (show t9 < 8 by omega) (by omega)) dX5_trackOf_6 ?_
  rw [nI_clamp (show t9 < 2 ^ 31 by omega)]
  refine zo_div hx hb (by omega) (by omega) (by omega) dX5_trackOf_7 ?_
  exact zr_i hx hb hr hlocks (rfl) dX5_trackOf_8

def altO (le p : Nat) : Nat := if p / le % 2 = 0 then p % le else le - 1 - p % le
set_option maxHeartbeats 4000000 in
set_option maxRecDepth 100000 in
theorem c_X5_alongOf (l : Launch) (D : va_G) (cA : Nat → ClassId) (ws : va_W) {gd : Nat → Nat} {n : Nat} {tr : Nat → Nat} {le : Nat → Nat} {sl : Nat → Nat} {mo : Nat → Option Nat} {la : Nat → Bool} {fc : Nat → Nat} {sf : Nat → Int32} {bf : Nat → Int32} {nd : Nat} {mk : Nat → Nat} {ck : Nat → Int32} {ct : Nat → Nat} {hd : Nat → Option Nat} {pf : Nat → Int32} {nj : Nat} {jt : Nat → Int32} {jf : Nat → Nat} {dl : Nat → Nat} {fin : Nat → Bool} {my : Nat} {fls : Nat → Int32} {fod : Nat → Int32} {fle : Nat → Int32} {fro : Nat → Int32} {th : Nat} (hm : mL cA ws gd n tr le sl mo la fc sf bf nd mk ck ct hd pf nj jt jf dl fin my fls fod fle fro th) (t9 p9 : Nat) (ht9 : t9 < 8) (hp9 : p9 < 2 ^ 30) (hl1 : 0 < le t9) (hl2 : le t9 ≤ 200) : Met l yX5_alongOf wsX5_alongOf ({ frames := 1, cells := 0, slots := 0, locals := 22 }) (va_Pc [.ref (gd 0), .int (nI (t9)), .int (nI (p9))] (zS D cA ws)) (vp_Si (fun r => r = nI (altO (le t9) p9))) 0 0 zF := by
  refine zOpen (cc := cX5_alongOf) (maxL := 4) (ret := (some .int)) (own := RX5) (by decide) rfl rfl (Nat.le_of_ble_eq_true rfl) ?_
  intro p e s m below meth c ls hx hb hr hml hts hown hlocks hnm ⟨hZ, hP⟩ hl
  have iX5 : ∀ w ∈ wsX50, w ∈ wsX5_alongOf := by decide +kernel
  have hl : lv_has ls 4 [(0, .ref (gd 0)), (1, .int (nI (t9))), (2, .int (nI (p9)))] := hl
  have hm0 := hm
  obtain ⟨m0, m1, m2, m3, m4, m5, m6, m7, m8, m9, m10, m11, m12, m13, m14, m15, m16, m17, m18, m19, m20, m21⟩ := hm
  have hm9 := Nat.mod_lt p9 hl1
  have hd9 : p9 / le t9 ≤ p9 := Nat.div_le_self _ _
  refine lv_iload_n hx hb dX5_alongOf_0 rfl (lv_at hl 2 rfl) ?_
  refine lv_aload_n hx hb dX5_alongOf_1 rfl (lv_at hl 0 rfl) ?_
  refine va_get (D := D) (ci := 5) (v := .ref (gd 2)) (C := RX5) (T := TX5) (N := 26) hx hb hts iX5 hown hZ.1 hP 0 m0 rfl 2 (by decide) (hts (.fieldLink RX5 13 "TapeRoboticsModel" "length" "[I") (by decide +kernel)) (fun _ h9 => h9) rfl dX5_alongOf_2 ?_
  refine lv_iload_n hx hb dX5_alongOf_5 rfl (lv_at hl 1 rfl) ?_
  refine va_iald hx hb hZ.1 hP 2 0 m2 rfl (vp_in_nI (show t9 < 8 by omega) (by omega)) dX5_alongOf_6 ?_
  rw [nI_clamp (show t9 < 2 ^ 31 by omega)]
  refine zo_rem hx hb (by omega) (by omega) (by omega) dX5_alongOf_7 ?_
  refine lv_istore_n (lv' := [(3, .int (nI (p9 % (le t9)))), (0, .ref (gd 0)), (1, .int (nI (t9))), (2, .int (nI (p9)))]) hx hb dX5_alongOf_8 rfl hl (by decide) rfl (fun ls hl => ?_)
  refine lv_aload_n hx hb dX5_alongOf_9 rfl (lv_at hl 1 rfl) ?_
  refine lv_iload_n hx hb dX5_alongOf_10 rfl (lv_at hl 2 rfl) ?_
  refine lv_iload_n hx hb dX5_alongOf_11 rfl (lv_at hl 3 rfl) ?_
  refine zk_V_i (n := 2) (As := [.int (nI (t9)), .int (nI (p9))]) (rest := []) hx hb hml hts hown hZ hP (c_X5_trackOf l D cA _ hm0 t9 p9 ht9 hp9 hl1 hl2) gX5_alongOf_X5_trackOf rfl rfl ⟨rfl, rfl⟩ ⟨by decide +kernel, Nat.le_of_ble_eq_true rfl, Nat.le_of_ble_eq_true rfl⟩ m0 rfl hl.1 rfl (Nat.le_of_ble_eq_true rfl) ⟨Nat.le_of_ble_eq_true rfl, Nat.le_of_ble_eq_true rfl⟩ rfl dX5_alongOf_12 (fun r_1 hr_2 => ?_)
  obtain rfl := show r_1 = _ from hr_2
  refine lv_iconst (v := nI (2)) hx hb dX5_alongOf_15 (by decide) ?_
  refine zo_rem hx hb (by omega) (by omega) (by omega) dX5_alongOf_16 ?_
  refine zf_ne (tgt := 24) hx hb (by omega) dX5_alongOf_17 (by decide) (fun c_3 => ?_) (fun c_3 => ?_)
  · refine lv_aload_n hx hb dX5_alongOf_24 rfl (lv_at hl 1 rfl) ?_
    refine va_get (D := D) (ci := 5) (v := .ref (gd 2)) (C := RX5) (T := TX5) (N := 26) hx hb hts iX5 hown hZ.1 hP 0 m0 rfl 2 (by decide) (hts (.fieldLink RX5 13 "TapeRoboticsModel" "length" "[I") (by decide +kernel)) (fun _ h9 => h9) rfl dX5_alongOf_25 ?_
    refine lv_iload_n hx hb dX5_alongOf_28 rfl (lv_at hl 2 rfl) ?_
    refine va_iald hx hb hZ.1 hP 2 0 m2 rfl (vp_in_nI (show t9 < 8 by omega) (by omega)) dX5_alongOf_29 ?_
    rw [nI_clamp (show t9 < 2 ^ 31 by omega)]
    refine lv_iconst (v := nI (1)) hx hb dX5_alongOf_30 (by decide) ?_
    refine zo_sub hx hb (by omega) dX5_alongOf_31 ?_
    refine lv_iload_n hx hb dX5_alongOf_32 rfl (lv_at hl 0 rfl) ?_
    refine zo_sub hx hb (by omega) dX5_alongOf_33 ?_
    exact zr_i hx hb hr hlocks (by unfold altO; first | (rw [if_pos (by omega)]; done) | (rw [if_neg (by omega)])) dX5_alongOf_34
  · refine lv_iload_n hx hb dX5_alongOf_20 rfl (lv_at hl 0 rfl) ?_
    refine lv_goto (tgt := 34) hx hb dX5_alongOf_21 (by decide) ?_
    exact zr_i hx hb hr hlocks (by unfold altO; first | (rw [if_pos (by omega)]; done) | (rw [if_neg (by omega)])) dX5_alongOf_34

