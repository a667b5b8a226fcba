theorem dif_le9 {a b c : Nat} (h1 : a ≤ c) (h2 : b ≤ c) : dif a b ≤ c := by unfold dif; split <;> omega
theorem altO_lt {le p : Nat} (h : 0 < le) : altO le p < le := by
  have := Nat.mod_lt p h
  unfold altO; split <;> omega
def ofE (e p : Nat) : Nat := if p = e then e - 1 else p
theorem ofE_div {tr le p : Nat} (h1 : 0 < tr) (h : 0 < le) (hp : p ≤ tr * le) : ofE (tr * le) p / le = trk tr le p := by
  unfold ofE trk
  obtain ⟨u, rfl⟩ : ∃ u, tr = u + 1 := ⟨tr - 1, by omega⟩
  by_cases e : p = (u + 1) * le
  · rw [if_pos e, e, Nat.mul_div_cancel _ h, if_neg (Nat.lt_irrefl _), Nat.add_sub_cancel]
    rw [show (u + 1) * le - 1 = (le - 1) + le * u by rw [Nat.add_mul, Nat.mul_comm]; omega, Nat.add_mul_div_left _ _ h, Nat.div_eq_of_lt (by omega), Nat.zero_add]
  · rw [if_neg e, if_pos ((Nat.div_lt_iff_lt_mul h).mpr (by omega))]
theorem ofE_alt {tr le p : Nat} (h1 : 0 < tr) (h : 0 < le) (hp : p ≤ tr * le) : altO le (ofE (tr * le) p) = alo tr le p := by
  have hd := ofE_div h1 h hp
  unfold altO alo
  rw [hd]
  have hm : ofE (tr * le) p % le = min (p - trk tr le p * le) (le - 1) := by
    have h2 := Nat.mod_add_div (ofE (tr * le) p) le
    have h3 := Nat.mod_lt (ofE (tr * le) p) h
    rw [hd, Nat.mul_comm le (trk tr le p)] at h2
    have h5 : 0 < tr * le := Nat.mul_pos h1 h
    by_cases e : p = tr * le
    · have h4 : ofE (tr * le) p = tr * le - 1 := if_pos e
      have h6 : trk tr le p = tr - 1 := by unfold trk; rw [e, Nat.mul_div_cancel _ h, if_neg (Nat.lt_irrefl _)]
      rw [h6] at h2 ⊢
      have h7 : (tr - 1) * le + le = tr * le := by rw [← Nat.succ_mul]; congr 1; omega
      omega
    · have h4 : ofE (tr * le) p = p := if_neg e
      rw [h4] at h2 h3 ⊢
      omega
  rw [hm]
theorem ofE_le {e p b : Nat} (hp : p ≤ b) (he : e ≤ b) : ofE e p ≤ b := by unfold ofE; split <;> omega
set_option maxHeartbeats 4000000 in
set_option maxRecDepth 100000 in
theorem c_X5_robot (l : Launch) (D : va_G) (cA : Nat → ClassId) (ws : va_W) {gd : Nat → Nat} {n : Nat} {tr : Nat → Nat} {le : Nat → Nat} {sl : Nat → Nat} {mo : Nat → Option Nat} {la : Nat → Bool} {fc : Nat → Nat} {sf : Nat → Int32} {bf : Nat → Int32} {nd : Nat} {mk : Nat → Nat} {ck : Nat → Int32} {ct : Nat → Nat} {hd : Nat → Option Nat} {pf : Nat → Int32} {nj : Nat} {jt : Nat → Int32} {jf : Nat → Nat} {dl : Nat → Nat} {fin : Nat → Bool} {my : Nat} {fls : Nat → Int32} {fod : Nat → Int32} {fle : Nat → Int32} {fro : Nat → Int32} {th : Nat} (hm : mL cA ws gd n tr le sl mo la fc sf bf nd mk ck ct hd pf nj jt jf dl fin my fls fod fle fro th) (j9 t9 : Nat) (hj9 : j9 < 3) (ht9 : t9 < 8) (hs : sl t9 < 12) : Met l yX5_robot wsX5_robot ({ frames := 1, cells := 0, slots := 0, locals := 20 }) (va_Pc [.ref (gd 0), .int (nI (j9)), .int (nI (t9))] (zS D cA ws)) (vp_Si (fun r => r = nI (20 + 2 * dif (4 * j9) (sl t9)))) 0 0 zF := by
  refine zOpen (cc := cX5_robot) (maxL := 3) (ret := (some .int)) (own := RX5) (by decide) rfl rfl (Nat.le_of_ble_eq_true rfl) ?_
  intro p e s m below meth c ls hx hb hr hml hts hown hlocks hnm ⟨hZ, hP⟩ hl
  have iX5 : ∀ w ∈ wsX50, w ∈ wsX5_robot := by decide +kernel
  have hl : lv_has ls 3 [(0, .ref (gd 0)), (1, .int (nI (j9))), (2, .int (nI (t9)))] := hl
  have hm0 := hm
  obtain ⟨m0, m1, m2, m3, m4, m5, m6, m7, m8, m9, m10, m11, m12, m13, m14, m15, m16, m17, m18, m19, m20, m21⟩ := hm
  refine lv_bipush (v := nI (20)) hx hb dX5_robot_0 (by decide) ?_
  refine lv_iconst (v := nI (2)) hx hb dX5_robot_2 (by decide) ?_
  refine lv_iconst (v := nI (4)) hx hb dX5_robot_3 (by decide) ?_
  refine lv_iload_n hx hb dX5_robot_4 rfl (lv_at hl 1 rfl) ?_
  refine zo_mul hx hb dX5_robot_5 ?_
  refine lv_aload_n hx hb dX5_robot_6 rfl (lv_at hl 0 rfl) ?_
  refine va_get (D := D) (ci := 5) (v := .ref (gd 3)) (C := RX5) (T := TX5) (N := 26) hx hb hts iX5 hown hZ.1 hP 0 m0 rfl 3 (by decide) (hts (.fieldLink RX5 16 "TapeRoboticsModel" "slot" "[I") (by decide +kernel)) (fun _ h9 => h9) rfl dX5_robot_7 ?_
  refine lv_iload_n hx hb dX5_robot_10 rfl (lv_at hl 2 rfl) ?_
  refine va_iald hx hb hZ.1 hP 3 0 m3 rfl (vp_in_nI (show t9 < 8 by omega) (by omega)) dX5_robot_11 ?_
  rw [nI_clamp (show t9 < 2 ^ 31 by omega)]
  refine lv_isub hx hb dX5_robot_12 ?_
  refine zx_val (y := (nI (4 * j9)) - (nI (sl t9))) (rfl) ?_
  refine zk_S_i (n := 1) (As := [.int ((nI (4 * j9)) - (nI (sl t9)))]) (rest := [.int (nI (2)), .int (nI (20))]) hx hb hml hts hown hZ hP (c_X5_size l D cA _ (4 * j9) (sl t9) (by omega) (by omega)) gX5_robot_X5_size rfl ⟨rfl, rfl⟩ ⟨by decide +kernel, Nat.le_of_ble_eq_true rfl, Nat.le_of_ble_eq_true rfl⟩ hl.1 rfl (Nat.le_of_ble_eq_true rfl) ⟨Nat.le_of_ble_eq_true rfl, Nat.le_of_ble_eq_true rfl⟩ rfl dX5_robot_13 (fun r_1 hr_2 => ?_)
  obtain rfl := show r_1 = _ from hr_2
  refine zo_mul hx hb dX5_robot_16 ?_
  refine zo_add hx hb dX5_robot_17 ?_
  exact zr_i hx hb hr hlocks (rfl) dX5_robot_18

set_option maxHeartbeats 4000000 in
set_option maxRecDepth 100000 in
theorem c_X5_way (l : Launch) (D : va_G) (cA : Nat → ClassId) (ws : va_W) {gd : Nat → Nat} {n : Nat} {tr : Nat → Nat} {le : Nat → Nat} {sl : Nat → Nat} {mo : Nat → Option Nat} {la : Nat → Bool} {fc : Nat → Nat} {sf : Nat → Int32} {bf : Nat → Int32} {nd : Nat} {mk : Nat → Nat} {ck : Nat → Int32} {ct : Nat → Nat} {hd : Nat → Option Nat} {pf : Nat → Int32} {nj : Nat} {jt : Nat → Int32} {jf : Nat → Nat} {dl : Nat → Nat} {fin : Nat → Bool} {my : Nat} {fls : Nat → Int32} {fod : Nat → Int32} {fle : Nat → Int32} {fro : Nat → Int32} {th : Nat} (hm : mL cA ws gd n tr le sl mo la fc sf bf nd mk ck ct hd pf nj jt jf dl fin my fls fod fle fro th) (j9 t9 a9 b9 : Nat) (hj9 : j9 < 3) (hht : hd j9 = some t9) (hmk : mk j9 ≤ 1) (ha9 : a9 ≤ tr t9 * le t9) (hb9 : b9 ≤ tr t9 * le t9) (ht9 : t9 < 8) (htr : 1 ≤ tr t9 ∧ tr t9 ≤ 8) (hle : 4 ≤ le t9 ∧ le t9 ≤ 200)  : Met l yX5_way wsX5_way ({ frames := 2, cells := 0, slots := 0, locals := 45 }) (va_Pc [.ref (gd 0), .int (nI (j9)), .int (nI (a9)), .int (nI (b9))] (zS D cA ws)) (vp_Si (fun r => r = nI (wayT (zpa (mk j9)) (zsp (mk j9)) (tr t9) (le t9) a9 b9))) 0 0 zF := by
  refine zOpen (cc := cX5_way) (maxL := 10) (ret := (some .int)) (own := RX5) (by decide) rfl rfl (Nat.le_of_ble_eq_true rfl) ?_
  intro p e s m below meth c ls hx hb hr hml hts hown hlocks hnm ⟨hZ, hP⟩ hl
  have iX5 : ∀ w ∈ wsX50, w ∈ wsX5_way := by decide +kernel
  have hl : lv_has ls 10 [(0, .ref (gd 0)), (1, .int (nI (j9))), (2, .int (nI (a9))), (3, .int (nI (b9)))] := hl
  have hm0 := hm
  obtain ⟨m0, m1, m2, m3, m4, m5, m6, m7, m8, m9, m10, m11, m12, m13, m14, m15, m16, m17, m18, m19, m20, m21⟩ := hm
  have hmul : tr t9 * le t9 ≤ 8 * 200 := Nat.mul_le_mul (by omega) (by omega)
  have hmu0 : 1 * 4 ≤ tr t9 * le t9 := Nat.mul_le_mul (by omega) (by omega)
  have hoa : ofE (tr t9 * le t9) a9 ≤ 1600 := ofE_le (by omega) (by omega)
  have hob : ofE (tr t9 * le t9) b9 ≤ 1600 := ofE_le (by omega) (by omega)
  refine lv_aload_n hx hb dX5_way_0 rfl (lv_at hl 0 rfl) ?_
  refine va_get (D := D) (ci := 5) (v := .ref (gd 12)) (C := RX5) (T := TX5) (N := 26) hx hb hts iX5 hown hZ.1 hP 0 m0 rfl 13 (by decide) (hts (.fieldLink RX5 44 "TapeRoboticsModel" "held" "[I") (by decide +kernel)) (fun _ h9 => h9) rfl dX5_way_1 ?_
  refine lv_iload_n hx hb dX5_way_4 rfl (lv_at hl 1 rfl) ?_
  refine va_iald hx hb hZ.1 hP 12 0 m12 rfl (vp_in_nI (show j9 < 3 by omega) (by omega)) dX5_way_5 ?_
  rw [nI_clamp (show j9 < 2 ^ 31 by omega)]
  refine zx_val (y := nI (t9)) (by rw [hht]; rfl) ?_
  refine lv_istore (lv' := [(4, .int (nI (t9))), (0, .ref (gd 0)), (1, .int (nI (j9))), (2, .int (nI (a9))), (3, .int (nI (b9)))]) hx hb dX5_way_6 hl (by decide) rfl (fun ls hl => ?_)
  refine lv_aload_n hx hb dX5_way_8 rfl (lv_at hl 1 rfl) ?_
  refine va_get (D := D) (ci := 5) (v := .ref (gd 1)) (C := RX5) (T := TX5) (N := 26) hx hb hts iX5 hown hZ.1 hP 0 m0 rfl 1 (by decide) (hts (.fieldLink RX5 7 "TapeRoboticsModel" "tracks" "[I") (by decide +kernel)) (fun _ h9 => h9) rfl dX5_way_9 ?_
  refine lv_iload hx hb dX5_way_12 (lv_at hl 0 rfl) ?_
  refine va_iald hx hb hZ.1 hP 1 0 m1 rfl (vp_in_nI (show t9 < 8 by omega) (by omega)) dX5_way_14 ?_
  rw [nI_clamp (show t9 < 2 ^ 31 by omega)]
  refine lv_aload_n hx hb dX5_way_15 rfl (lv_at hl 1 rfl) ?_
  refine va_get (D := D) (ci := 5) (v := .ref (gd 2)) (C := RX5) (T := TX5) (N := 26) hx hb hts iX5 hown hZ.1 hP 0 m0 rfl 2 (by decide) (hts (.fieldLink RX5 13 "TapeRoboticsModel" "length" "[I") (by decide +kernel)) (fun _ h9 => h9) rfl dX5_way_16 ?_
  refine lv_iload hx hb dX5_way_19 (lv_at hl 0 rfl) ?_
  refine va_iald hx hb hZ.1 hP 2 0 m2 rfl (vp_in_nI (show t9 < 8 by omega) (by omega)) dX5_way_21 ?_
  rw [nI_clamp (show t9 < 2 ^ 31 by omega)]
  refine zo_mul hx hb dX5_way_22 ?_
  refine lv_istore (lv' := [(5, .int (nI ((tr t9) * (le t9)))), (4, .int (nI (t9))), (0, .ref (gd 0)), (1, .int (nI (j9))), (2, .int (nI (a9))), (3, .int (nI (b9)))]) hx hb dX5_way_23 hl (by decide) rfl (fun ls hl => ?_)
  refine lv_iload_n hx hb dX5_way_25 rfl (lv_at hl 4 rfl) ?_
  refine lv_iload hx hb dX5_way_26 (lv_at hl 0 rfl) ?_
  refine zc_ne (tgt := 38) hx hb (by omega) (by omega) dX5_way_28 (by decide) (fun c_1 => ?_) (fun c_1 => ?_)
  · refine lv_iload_n hx hb dX5_way_38 rfl (lv_at hl 4 rfl) ?_
    refine zx_val (y := nI (ofE (tr t9 * le t9) a9)) (by unfold ofE; first | (rw [if_pos (by omega)]; done) | rw [if_neg (by omega)]) ?_
    refine lv_istore (lv' := [(6, .int (nI (ofE (tr t9 * le t9) a9))), (5, .int (nI ((tr t9) * (le t9)))), (4, .int (nI (t9))), (0, .ref (gd 0)), (1, .int (nI (j9))), (2, .int (nI (a9))), (3, .int (nI (b9)))]) hx hb dX5_way_39 hl (by decide) rfl (fun ls hl => ?_)
    refine lv_iload_n hx hb dX5_way_41 rfl (lv_at hl 6 rfl) ?_
    refine lv_iload hx hb dX5_way_42 (lv_at hl 1 rfl) ?_
    refine zc_ne (tgt := 54) hx hb (by omega) (by omega) dX5_way_44 (by decide) (fun c_2 => ?_) (fun c_2 => ?_)
    · refine lv_iload_n hx hb dX5_way_54 rfl (lv_at hl 6 rfl) ?_
      refine zx_val (y := nI (ofE (tr t9 * le t9) b9)) (by unfold ofE; first | (rw [if_pos (by omega)]; done) | rw [if_neg (by omega)]) ?_
      refine lv_istore (lv' := [(7, .int (nI (ofE (tr t9 * le t9) b9))), (6, .int (nI (ofE (tr t9 * le t9) a9))), (5, .int (nI ((tr t9) * (le t9)))), (4, .int (nI (t9))), (0, .ref (gd 0)), (1, .int (nI (j9))), (2, .int (nI (a9))), (3, .int (nI (b9)))]) hx hb dX5_way_55 hl (by decide) rfl (fun ls hl => ?_)
      refine lv_aload_n hx hb dX5_way_57 rfl (lv_at hl 4 rfl) ?_
      refine lv_iload hx hb dX5_way_58 (lv_at hl 3 rfl) ?_
      refine lv_iload hx hb dX5_way_60 (lv_at hl 1 rfl) ?_
      refine zk_V_i (n := 2) (As := [.int (nI (t9)), .int (nI (ofE (tr t9 * le t9) a9))]) (rest := []) hx hb hml hts hown hZ hP (c_X5_alongOf l D cA _ hm0 t9 (ofE (tr t9 * le t9) a9) (by omega) (by omega) (by omega) (by omega)) gX5_way_X5_alongOf rfl rfl ⟨rfl, rfl⟩ ⟨by decide +kernel, Nat.le_of_ble_eq_true rfl, Nat.le_of_ble_eq_true rfl⟩ m0 rfl hl.1 rfl (Nat.le_of_ble_eq_true rfl) ⟨Nat.le_of_ble_eq_true rfl, Nat.le_of_ble_eq_true rfl⟩ rfl dX5_way_62 (fun r_3 hr_4 => ?_)
      obtain rfl := show r_3 = _ from hr_4
      have hal_62 : altO (le t9) (ofE (tr t9 * le t9) a9) < le t9 := altO_lt (by omega)
      have htk_62 : (ofE (tr t9 * le t9) a9) / le t9 ≤ (ofE (tr t9 * le t9) a9) := Nat.div_le_self _ _
      refine lv_aload_n hx hb dX5_way_65 rfl (lv_at hl 4 rfl) ?_
      refine lv_iload hx hb dX5_way_66 (lv_at hl 3 rfl) ?_
      refine lv_iload hx hb dX5_way_68 (lv_at hl 0 rfl) ?_
      refine zk_V_i (n := 2) (As := [.int (nI (t9)), .int (nI (ofE (tr t9 * le t9) b9))]) (rest := [.int (nI (altO (le t9) (ofE (tr t9 * le t9) a9)))]) hx hb hml hts hown hZ hP (c_X5_alongOf l D cA _ hm0 t9 (ofE (tr t9 * le t9) b9) (by omega) (by omega) (by omega) (by omega)) gX5_way_X5_alongOf rfl rfl ⟨rfl, rfl⟩ ⟨by decide +kernel, Nat.le_of_ble_eq_true rfl, Nat.le_of_ble_eq_true rfl⟩ m0 rfl hl.1 rfl (Nat.le_of_ble_eq_true rfl) ⟨Nat.le_of_ble_eq_true rfl, Nat.le_of_ble_eq_true rfl⟩ rfl dX5_way_70 (fun r_5 hr_6 => ?_)
      obtain rfl := show r_5 = _ from hr_6
      have hal_70 : altO (le t9) (ofE (tr t9 * le t9) b9) < le t9 := altO_lt (by omega)
      have htk_70 : (ofE (tr t9 * le t9) b9) / le t9 ≤ (ofE (tr t9 * le t9) b9) := Nat.div_le_self _ _
      refine lv_isub hx hb dX5_way_73 ?_
      refine zx_val (y := (nI (altO (le t9) (ofE (tr t9 * le t9) a9))) - (nI (altO (le t9) (ofE (tr t9 * le t9) b9)))) (rfl) ?_
      refine zk_S_i (n := 1) (As := [.int ((nI (altO (le t9) (ofE (tr t9 * le t9) a9))) - (nI (altO (le t9) (ofE (tr t9 * le t9) b9))))]) (rest := []) hx hb hml hts hown hZ hP (c_X5_size l D cA _ (altO (le t9) (ofE (tr t9 * le t9) a9)) (altO (le t9) (ofE (tr t9 * le t9) b9)) (by omega) (by omega)) gX5_way_X5_size rfl ⟨rfl, rfl⟩ ⟨by decide +kernel, Nat.le_of_ble_eq_true rfl, Nat.le_of_ble_eq_true rfl⟩ hl.1 rfl (Nat.le_of_ble_eq_true rfl) ⟨Nat.le_of_ble_eq_true rfl, Nat.le_of_ble_eq_true rfl⟩ rfl dX5_way_74 (fun r_7 hr_8 => ?_)
      obtain rfl := show r_7 = _ from hr_8
      refine lv_istore (lv' := [(8, .int (nI (dif (altO (le t9) (ofE (tr t9 * le t9) a9)) (altO (le t9) (ofE (tr t9 * le t9) b9))))), (7, .int (nI (ofE (tr t9 * le t9) b9))), (6, .int (nI (ofE (tr t9 * le t9) a9))), (5, .int (nI ((tr t9) * (le t9)))), (4, .int (nI (t9))), (0, .ref (gd 0)), (1, .int (nI (j9))), (2, .int (nI (a9))), (3, .int (nI (b9)))]) hx hb dX5_way_77 hl (by decide) rfl (fun ls hl => ?_)
      refine lv_aload_n hx hb dX5_way_79 rfl (lv_at hl 5 rfl) ?_
      refine lv_iload hx hb dX5_way_80 (lv_at hl 4 rfl) ?_
      refine lv_iload hx hb dX5_way_82 (lv_at hl 2 rfl) ?_
      refine zk_V_i (n := 2) (As := [.int (nI (t9)), .int (nI (ofE (tr t9 * le t9) a9))]) (rest := []) hx hb hml hts hown hZ hP (c_X5_trackOf l D cA _ hm0 t9 (ofE (tr t9 * le t9) a9) (by omega) (by omega) (by omega) (by omega)) gX5_way_X5_trackOf rfl rfl ⟨rfl, rfl⟩ ⟨by decide +kernel, Nat.le_of_ble_eq_true rfl, Nat.le_of_ble_eq_true rfl⟩ m0 rfl hl.1 rfl (Nat.le_of_ble_eq_true rfl) ⟨Nat.le_of_ble_eq_true rfl, Nat.le_of_ble_eq_true rfl⟩ rfl dX5_way_84 (fun r_9 hr_10 => ?_)
      obtain rfl := show r_9 = _ from hr_10
      refine lv_aload_n hx hb dX5_way_87 rfl (lv_at hl 5 rfl) ?_
      refine lv_iload hx hb dX5_way_88 (lv_at hl 4 rfl) ?_
      refine lv_iload hx hb dX5_way_90 (lv_at hl 1 rfl) ?_
      refine zk_V_i (n := 2) (As := [.int (nI (t9)), .int (nI (ofE (tr t9 * le t9) b9))]) (rest := [.int (nI ((ofE (tr t9 * le t9) a9) / le t9))]) hx hb hml hts hown hZ hP (c_X5_trackOf l D cA _ hm0 t9 (ofE (tr t9 * le t9) b9) (by omega) (by omega) (by omega) (by omega)) gX5_way_X5_trackOf rfl rfl ⟨rfl, rfl⟩ ⟨by decide +kernel, Nat.le_of_ble_eq_true rfl, Nat.le_of_ble_eq_true rfl⟩ m0 rfl hl.1 rfl (Nat.le_of_ble_eq_true rfl) ⟨Nat.le_of_ble_eq_true rfl, Nat.le_of_ble_eq_true rfl⟩ rfl dX5_way_92 (fun r_11 hr_12 => ?_)
      obtain rfl := show r_11 = _ from hr_12
      refine lv_isub hx hb dX5_way_95 ?_
      refine zx_val (y := (nI ((ofE (tr t9 * le t9) a9) / le t9)) - (nI ((ofE (tr t9 * le t9) b9) / le t9))) (rfl) ?_
      refine zk_S_i (n := 1) (As := [.int ((nI ((ofE (tr t9 * le t9) a9) / le t9)) - (nI ((ofE (tr t9 * le t9) b9) / le t9)))]) (rest := []) hx hb hml hts hown hZ hP (c_X5_size l D cA _ ((ofE (tr t9 * le t9) a9) / le t9) ((ofE (tr t9 * le t9) b9) / le t9) (by omega) (by omega)) gX5_way_X5_size rfl ⟨rfl, rfl⟩ ⟨by decide +kernel, Nat.le_of_ble_eq_true rfl, Nat.le_of_ble_eq_true rfl⟩ hl.1 rfl (Nat.le_of_ble_eq_true rfl) ⟨Nat.le_of_ble_eq_true rfl, Nat.le_of_ble_eq_true rfl⟩ rfl dX5_way_96 (fun r_13 hr_14 => ?_)
      obtain rfl := show r_13 = _ from hr_14
      refine lv_istore (lv' := [(9, .int (nI (dif ((ofE (tr t9 * le t9) a9) / le t9) ((ofE (tr t9 * le t9) b9) / le t9)))), (8, .int (nI (dif (altO (le t9) (ofE (tr t9 * le t9) a9)) (altO (le t9) (ofE (tr t9 * le t9) b9))))), (7, .int (nI (ofE (tr t9 * le t9) b9))), (6, .int (nI (ofE (tr t9 * le t9) a9))), (5, .int (nI ((tr t9) * (le t9)))), (4, .int (nI (t9))), (0, .ref (gd 0)), (1, .int (nI (j9))), (2, .int (nI (a9))), (3, .int (nI (b9)))]) hx hb dX5_way_99 hl (by decide) rfl (fun ls hl => ?_)
      have hq1 : dif (altO (le t9) (ofE (tr t9 * le t9) a9)) (altO (le t9) (ofE (tr t9 * le t9) b9)) ≤ 200 := dif_le9 (by omega) (by omega)
      have hq2 : dif (ofE (tr t9 * le t9) a9 / le t9) (ofE (tr t9 * le t9) b9 / le t9) ≤ 1600 := dif_le9 (Nat.le_trans (Nat.div_le_self _ _) hoa) (Nat.le_trans (Nat.div_le_self _ _) hob)
      refine lv_aload_n hx hb dX5_way_101 rfl (lv_at hl 6 rfl) ?_
      refine va_get (D := D) (ci := 5) (v := .ref (gd 9)) (C := RX5) (T := TX5) (N := 26) hx hb hts iX5 hown hZ.1 hP 0 m0 rfl 10 (by decide) (hts (.fieldLink RX5 35 "TapeRoboticsModel" "make" "[I") (by decide +kernel)) (fun _ h9 => h9) rfl dX5_way_102 ?_
      refine lv_iload_n hx hb dX5_way_105 rfl (lv_at hl 7 rfl) ?_
      refine va_iald hx hb hZ.1 hP 9 0 m9 rfl (vp_in_nI (show j9 < 3 by omega) (by omega)) dX5_way_106 ?_
      rw [nI_clamp (show j9 < 2 ^ 31 by omega)]
      refine zf_ne (tgt := 121) hx hb (by omega) dX5_way_107 (by decide) (fun c_15 => ?_) (fun c_15 => ?_)
      · refine lv_iconst (v := nI (2)) hx hb dX5_way_121 (by decide) ?_
        refine lv_iload hx hb dX5_way_122 (lv_at hl 1 rfl) ?_
        refine zo_mul hx hb dX5_way_124 ?_
        refine lv_iload hx hb dX5_way_125 (lv_at hl 0 rfl) ?_
        refine zo_add hx hb dX5_way_127 ?_
        exact zr_i hx hb hr hlocks (by unfold wayT; rw [← ofE_div (by omega) (by omega) ha9, ← ofE_div (by omega) (by omega) hb9, ← ofE_alt (by omega) (by omega) ha9, ← ofE_alt (by omega) (by omega) hb9]; unfold zpa zsp; first | (rw [if_pos (by omega), if_pos (by omega), Nat.mul_one, Nat.mul_comm 9]; done) | (rw [if_neg (by omega), if_neg (by omega), Nat.mul_one, Nat.mul_comm 2])) dX5_way_128
      · refine lv_iload hx hb dX5_way_110 (lv_at hl 1 rfl) ?_
        refine lv_bipush (v := nI (9)) hx hb dX5_way_112 (by decide) ?_
        refine lv_iload hx hb dX5_way_114 (lv_at hl 0 rfl) ?_
        refine zo_mul hx hb dX5_way_116 ?_
        refine zo_add hx hb dX5_way_117 ?_
        refine lv_goto (tgt := 128) hx hb dX5_way_118 (by decide) ?_
        exact zr_i hx hb hr hlocks (by unfold wayT; rw [← ofE_div (by omega) (by omega) ha9, ← ofE_div (by omega) (by omega) hb9, ← ofE_alt (by omega) (by omega) ha9, ← ofE_alt (by omega) (by omega) hb9]; unfold zpa zsp; first | (rw [if_pos (by omega), if_pos (by omega), Nat.mul_one, Nat.mul_comm 9]; done) | (rw [if_neg (by omega), if_neg (by omega), Nat.mul_one, Nat.mul_comm 2])) dX5_way_128
    · refine lv_iload hx hb dX5_way_47 (lv_at hl 1 rfl) ?_
      refine lv_iconst (v := nI (1)) hx hb dX5_way_49 (by decide) ?_
      refine zo_sub hx hb (by omega) dX5_way_50 ?_
      refine lv_goto (tgt := 55) hx hb dX5_way_51 (by decide) ?_
      refine zx_val (y := nI (ofE (tr t9 * le t9) b9)) (by unfold ofE; first | (rw [if_pos (by omega)]; done) | rw [if_neg (by omega)]) ?_
      refine lv_istore (lv' := [(7, .int (nI (ofE (tr t9 * le t9) b9))), (6, .int (nI (ofE (tr t9 * le t9) a9))), (5, .int (nI ((tr t9) * (le t9)))), (4, .int (nI (t9))), (0, .ref (gd 0)), (1, .int (nI (j9))), (2, .int (nI (a9))), (3, .int (nI (b9)))]) hx hb dX5_way_55 hl (by decide) rfl (fun ls hl => ?_)
      refine lv_aload_n hx hb dX5_way_57 rfl (lv_at hl 4 rfl) ?_
      refine lv_iload hx hb dX5_way_58 (lv_at hl 3 rfl) ?_
      refine lv_iload hx hb dX5_way_60 (lv_at hl 1 rfl) ?_
      refine zk_V_i (n := 2) (As := [.int (nI (t9)), .int (nI (ofE (tr t9 * le t9) a9))]) (rest := []) hx hb hml hts hown hZ hP (c_X5_alongOf l D cA _ hm0 t9 (ofE (tr t9 * le t9) a9) (by omega) (by omega) (by omega) (by omega)) gX5_way_X5_alongOf rfl rfl ⟨rfl, rfl⟩ ⟨by decide +kernel, Nat.le_of_ble_eq_true rfl, Nat.le_of_ble_eq_true rfl⟩ m0 rfl hl.1 rfl (Nat.le_of_ble_eq_true rfl) ⟨Nat.le_of_ble_eq_true rfl, Nat.le_of_ble_eq_true rfl⟩ rfl dX5_way_62 (fun r_16 hr_17 => ?_)
      obtain rfl := show r_16 = _ from hr_17
      have hal_62 : altO (le t9) (ofE (tr t9 * le t9) a9) < le t9 := altO_lt (by omega)
      have htk_62 : (ofE (tr t9 * le t9) a9) / le t9 ≤ (ofE (tr t9 * le t9) a9) := Nat.div_le_self _ _
      refine lv_aload_n hx hb dX5_way_65 rfl (lv_at hl 4 rfl) ?_
      refine lv_iload hx hb dX5_way_66 (lv_at hl 3 rfl) ?_
      refine lv_iload hx hb dX5_way_68 (lv_at hl 0 rfl) ?_
      refine zk_V_i (n := 2) (As := [.int (nI (t9)), .int (nI (ofE (tr t9 * le t9) b9))]) (rest := [.int (nI (altO (le t9) (ofE (tr t9 * le t9) a9)))]) hx hb hml hts hown hZ hP (c_X5_alongOf l D cA _ hm0 t9 (ofE (tr t9 * le t9) b9) (by omega) (by omega) (by omega) (by omega)) gX5_way_X5_alongOf rfl rfl ⟨rfl, rfl⟩ ⟨by decide +kernel, Nat.le_of_ble_eq_true rfl, Nat.le_of_ble_eq_true rfl⟩ m0 rfl hl.1 rfl (Nat.le_of_ble_eq_true rfl) ⟨Nat.le_of_ble_eq_true rfl, Nat.le_of_ble_eq_true rfl⟩ rfl dX5_way_70 (fun r_18 hr_19 => ?_)
      obtain rfl := show r_18 = _ from hr_19
      have hal_70 : altO (le t9) (ofE (tr t9 * le t9) b9) < le t9 := altO_lt (by omega)
      have htk_70 : (ofE (tr t9 * le t9) b9) / le t9 ≤ (ofE (tr t9 * le t9) b9) := Nat.div_le_self _ _
      refine lv_isub hx hb dX5_way_73 ?_
      refine zx_val (y := (nI (altO (le t9) (ofE (tr t9 * le t9) a9))) - (nI (altO (le t9) (ofE (tr t9 * le t9) b9)))) (rfl) ?_
      refine zk_S_i (n := 1) (As := [.int ((nI (altO (le t9) (ofE (tr t9 * le t9) a9))) - (nI (altO (le t9) (ofE (tr t9 * le t9) b9))))]) (rest := []) hx hb hml hts hown hZ hP (c_X5_size l D cA _ (altO (le t9) (ofE (tr t9 * le t9) a9)) (altO (le t9) (ofE (tr t9 * le t9) b9)) (by omega) (by omega)) gX5_way_X5_size rfl ⟨rfl, rfl⟩ ⟨by decide +kernel, Nat.le_of_ble_eq_true rfl, Nat.le_of_ble_eq_true rfl⟩ hl.1 rfl (Nat.le_of_ble_eq_true rfl) ⟨Nat.le_of_ble_eq_true rfl, Nat.le_of_ble_eq_true rfl⟩ rfl dX5_way_74 (fun r_20 hr_21 => ?_)
      obtain rfl := show r_20 = _ from hr_21
      refine lv_istore (lv' := [(8, .int (nI (dif (altO (le t9) (ofE (tr t9 * le t9) a9)) (altO (le t9) (ofE (tr t9 * le t9) b9))))), (7, .int (nI (ofE (tr t9 * le t9) b9))), (6, .int (nI (ofE (tr t9 * le t9) a9))), (5, .int (nI ((tr t9) * (le t9)))), (4, .int (nI (t9))), (0, .ref (gd 0)), (1, .int (nI (j9))), (2, .int (nI (a9))), (3, .int (nI (b9)))]) hx hb dX5_way_77 hl (by decide) rfl (fun ls hl => ?_)
      refine lv_aload_n hx hb dX5_way_79 rfl (lv_at hl 5 rfl) ?_
      refine lv_iload hx hb dX5_way_80 (lv_at hl 4 rfl) ?_
      refine lv_iload hx hb dX5_way_82 (lv_at hl 2 rfl) ?_
      refine zk_V_i (n := 2) (As := [.int (nI (t9)), .int (nI (ofE (tr t9 * le t9) a9))]) (rest := []) hx hb hml hts hown hZ hP (c_X5_trackOf l D cA _ hm0 t9 (ofE (tr t9 * le t9) a9) (by omega) (by omega) (by omega) (by omega)) gX5_way_X5_trackOf rfl rfl ⟨rfl, rfl⟩ ⟨by decide +kernel, Nat.le_of_ble_eq_true rfl, Nat.le_of_ble_eq_true rfl⟩ m0 rfl hl.1 rfl (Nat.le_of_ble_eq_true rfl) ⟨Nat.le_of_ble_eq_true rfl, Nat.le_of_ble_eq_true rfl⟩ rfl dX5_way_84 (fun r_22 hr_23 => ?_)
      obtain rfl := show r_22 = _ from hr_23
      refine lv_aload_n hx hb dX5_way_87 rfl (lv_at hl 5 rfl) ?_
      refine lv_iload hx hb dX5_way_88 (lv_at hl 4 rfl) ?_
      refine lv_iload hx hb dX5_way_90 (lv_at hl 1 rfl) ?_
      refine zk_V_i (n := 2) (As := [.int (nI (t9)), .int (nI (ofE (tr t9 * le t9) b9))]) (rest := [.int (nI ((ofE (tr t9 * le t9) a9) / le t9))]) hx hb hml hts hown hZ hP (c_X5_trackOf l D cA _ hm0 t9 (ofE (tr t9 * le t9) b9) (by omega) (by omega) (by omega) (by omega)) gX5_way_X5_trackOf rfl rfl ⟨rfl, rfl⟩ ⟨by decide +kernel, Nat.le_of_ble_eq_true rfl, Nat.le_of_ble_eq_true rfl⟩ m0 rfl hl.1 rfl (Nat.le_of_ble_eq_true rfl) ⟨Nat.le_of_ble_eq_true rfl, Nat.le_of_ble_eq_true rfl⟩ rfl dX5_way_92 (fun r_24 hr_25 => ?_)
      obtain rfl := show r_24 = _ from hr_25
      refine lv_isub hx hb dX5_way_95 ?_
      refine zx_val (y := (nI ((ofE (tr t9 * le t9) a9) / le t9)) - (nI ((ofE (tr t9 * le t9) b9) / le t9))) (rfl) ?_
      refine zk_S_i (n := 1) (As := [.int ((nI ((ofE (tr t9 * le t9) a9) / le t9)) - (nI ((ofE (tr t9 * le t9) b9) / le t9)))]) (rest := []) hx hb hml hts hown hZ hP (c_X5_size l D cA _ ((ofE (tr t9 * le t9) a9) / le t9) ((ofE (tr t9 * le t9) b9) / le t9) (by omega) (by omega)) gX5_way_X5_size rfl ⟨rfl, rfl⟩ ⟨by decide +kernel, Nat.le_of_ble_eq_true rfl, Nat.le_of_ble_eq_true rfl⟩ hl.1 rfl (Nat.le_of_ble_eq_true rfl) ⟨Nat.le_of_ble_eq_true rfl, Nat.le_of_ble_eq_true rfl⟩ rfl dX5_way_96 (fun r_26 hr_27 => ?_)
      obtain rfl := show r_26 = _ from hr_27
      refine lv_istore (lv' := [(9, .int (nI (dif ((ofE (tr t9 * le t9) a9) / le t9) ((ofE (tr t9 * le t9) b9) / le t9)))), (8, .int (nI (dif (altO (le t9) (ofE (tr t9 * le t9) a9)) (altO (le t9) (ofE (tr t9 * le t9) b9))))), (7, .int (nI (ofE (tr t9 * le t9) b9))), (6, .int (nI (ofE (tr t9 * le t9) a9))), (5, .int (nI ((tr t9) * (le t9)))), (4, .int (nI (t9))), (0, .ref (gd 0)), (1, .int (nI (j9))), (2, .int (nI (a9))), (3, .int (nI (b9)))]) hx hb dX5_way_99 hl (by decide) rfl (fun ls hl => ?_)
      have hq1 : dif (altO (le t9) (ofE (tr t9 * le t9) a9)) (altO (le t9) (ofE (tr t9 * le t9) b9)) ≤ 200 := dif_le9 (by omega) (by omega)
      have hq2 : dif (ofE (tr t9 * le t9) a9 / le t9) (ofE (tr t9 * le t9) b9 / le t9) ≤ 1600 := dif_le9 (Nat.le_trans (Nat.div_le_self _ _) hoa) (Nat.le_trans (Nat.div_le_self _ _) hob)
      refine lv_aload_n hx hb dX5_way_101 rfl (lv_at hl 6 rfl) ?_
      refine va_get (D := D) (ci := 5) (v := .ref (gd 9)) (C := RX5) (T := TX5) (N := 26) hx hb hts iX5 hown hZ.1 hP 0 m0 rfl 10 (by decide) (hts (.fieldLink RX5 35 "TapeRoboticsModel" "make" "[I") (by decide +kernel)) (fun _ h9 => h9) rfl dX5_way_102 ?_
      refine lv_iload_n hx hb dX5_way_105 rfl (lv_at hl 7 rfl) ?_
      refine va_iald hx hb hZ.1 hP 9 0 m9 rfl (vp_in_nI (show j9 < 3 by omega) (by omega)) dX5_way_106 ?_
      rw [nI_clamp (show j9 < 2 ^ 31 by omega)]
      refine zf_ne (tgt := 121) hx hb (by omega) dX5_way_107 (by decide) (fun c_28 => ?_) (fun c_28 => ?_)
      · refine lv_iconst (v := nI (2)) hx hb dX5_way_121 (by decide) ?_
        refine lv_iload hx hb dX5_way_122 (lv_at hl 1 rfl) ?_
        refine zo_mul hx hb dX5_way_124 ?_
        refine lv_iload hx hb dX5_way_125 (lv_at hl 0 rfl) ?_
        refine zo_add hx hb dX5_way_127 ?_
        exact zr_i hx hb hr hlocks (by unfold wayT; rw [← ofE_div (by omega) (by omega) ha9, ← ofE_div (by omega) (by omega) hb9, ← ofE_alt (by omega) (by omega) ha9, ← ofE_alt (by omega) (by omega) hb9]; unfold zpa zsp; first | (rw [if_pos (by omega), if_pos (by omega), Nat.mul_one, Nat.mul_comm 9]; done) | (rw [if_neg (by omega), if_neg (by omega), Nat.mul_one, Nat.mul_comm 2])) dX5_way_128
      · refine lv_iload hx hb dX5_way_110 (lv_at hl 1 rfl) ?_
        refine lv_bipush (v := nI (9)) hx hb dX5_way_112 (by decide) ?_
        refine lv_iload hx hb dX5_way_114 (lv_at hl 0 rfl) ?_
        refine zo_mul hx hb dX5_way_116 ?_
        refine zo_add hx hb dX5_way_117 ?_
        refine lv_goto (tgt := 128) hx hb dX5_way_118 (by decide) ?_
        exact zr_i hx hb hr hlocks (by unfold wayT; rw [← ofE_div (by omega) (by omega) ha9, ← ofE_div (by omega) (by omega) hb9, ← ofE_alt (by omega) (by omega) ha9, ← ofE_alt (by omega) (by omega) hb9]; unfold zpa zsp; first | (rw [if_pos (by omega), if_pos (by omega), Nat.mul_one, Nat.mul_comm 9]; done) | (rw [if_neg (by omega), if_neg (by omega), Nat.mul_one, Nat.mul_comm 2])) dX5_way_128
  · refine lv_iload hx hb dX5_way_31 (lv_at hl 0 rfl) ?_
    refine lv_iconst (v := nI (1)) hx hb dX5_way_33 (by decide) ?_
    refine zo_sub hx hb (by omega) dX5_way_34 ?_
    refine lv_goto (tgt := 39) hx hb dX5_way_35 (by decide) ?_
    refine zx_val (y := nI (ofE (tr t9 * le t9) a9)) (by unfold ofE; first | (rw [if_pos (by omega)]; done) | rw [if_neg (by omega)]) ?_
    refine lv_istore (lv' := [(6, .int (nI (ofE (tr t9 * le t9) a9))), (5, .int (nI ((tr t9) * (le t9)))), (4, .int (nI (t9))), (0, .ref (gd 0)), (1, .int (nI (j9))), (2, .int (nI (a9))), (3, .int (nI (b9)))]) hx hb dX5_way_39 hl (by decide) rfl (fun ls hl => ?_)
    refine lv_iload_n hx hb dX5_way_41 rfl (lv_at hl 6 rfl) ?_
    refine lv_iload hx hb dX5_way_42 (lv_at hl 1 rfl) ?_
    refine zc_ne (tgt := 54) hx hb (by omega) (by omega) dX5_way_44 (by decide) (fun c_29 => ?_) (fun c_29 => ?_)
    · refine lv_iload_n hx hb dX5_way_54 rfl (lv_at hl 6 rfl) ?_
      refine zx_val (y := nI (ofE (tr t9 * le t9) b9)) (by unfold ofE; first | (rw [if_pos (by omega)]; done) | rw [if_neg (by omega)]) ?_
      refine lv_istore (lv' := [(7, .int (nI (ofE (tr t9 * le t9) b9))), (6, .int (nI (ofE (tr t9 * le t9) a9))), (5, .int (nI ((tr t9) * (le t9)))), (4, .int (nI (t9))), (0, .ref (gd 0)), (1, .int (nI (j9))), (2, .int (nI (a9))), (3, .int (nI (b9)))]) hx hb dX5_way_55 hl (by decide) rfl (fun ls hl => ?_)
      refine lv_aload_n hx hb dX5_way_57 rfl (lv_at hl 4 rfl) ?_
      refine lv_iload hx hb dX5_way_58 (lv_at hl 3 rfl) ?_
      refine lv_iload hx hb dX5_way_60 (lv_at hl 1 rfl) ?_
      refine zk_V_i (n := 2) (As := [.int (nI (t9)), .int (nI (ofE (tr t9 * le t9) a9))]) (rest := []) hx hb hml hts hown hZ hP (c_X5_alongOf l D cA _ hm0 t9 (ofE (tr t9 * le t9) a9) (by omega) (by omega) (by omega) (by omega)) gX5_way_X5_alongOf rfl rfl ⟨rfl, rfl⟩ ⟨by decide +kernel, Nat.le_of_ble_eq_true rfl, Nat.le_of_ble_eq_true rfl⟩ m0 rfl hl.1 rfl (Nat.le_of_ble_eq_true rfl) ⟨Nat.le_of_ble_eq_true rfl, Nat.le_of_ble_eq_true rfl⟩ rfl dX5_way_62 (fun r_30 hr_31 => ?_)
      obtain rfl := show r_30 = _ from hr_31
      have hal_62 : altO (le t9) (ofE (tr t9 * le t9) a9) < le t9 := altO_lt (by omega)
      have htk_62 : (ofE (tr t9 * le t9) a9) / le t9 ≤ (ofE (tr t9 * le t9) a9) := Nat.div_le_self _ _
      refine lv_aload_n hx hb dX5_way_65 rfl (lv_at hl 4 rfl) ?_
      refine lv_iload hx hb dX5_way_66 (lv_at hl 3 rfl) ?_
      refine lv_iload hx hb dX5_way_68 (lv_at hl 0 rfl) ?_
      refine zk_V_i (n := 2) (As := [.int (nI (t9)), .int (nI (ofE (tr t9 * le t9) b9))]) (rest := [.int (nI (altO (le t9) (ofE (tr t9 * le t9) a9)))]) hx hb hml hts hown hZ hP (c_X5_alongOf l D cA _ hm0 t9 (ofE (tr t9 * le t9) b9) (by omega) (by omega) (by omega) (by omega)) gX5_way_X5_alongOf rfl rfl ⟨rfl, rfl⟩ ⟨by decide +kernel, Nat.le_of_ble_eq_true rfl, Nat.le_of_ble_eq_true rfl⟩ m0 rfl hl.1 rfl (Nat.le_of_ble_eq_true rfl) ⟨Nat.le_of_ble_eq_true rfl, Nat.le_of_ble_eq_true rfl⟩ rfl dX5_way_70 (fun r_32 hr_33 => ?_)
      obtain rfl := show r_32 = _ from hr_33
      have hal_70 : altO (le t9) (ofE (tr t9 * le t9) b9) < le t9 := altO_lt (by omega)
      have htk_70 : (ofE (tr t9 * le t9) b9) / le t9 ≤ (ofE (tr t9 * le t9) b9) := Nat.div_le_self _ _
      refine lv_isub hx hb dX5_way_73 ?_
      refine zx_val (y := (nI (altO (le t9) (ofE (tr t9 * le t9) a9))) - (nI (altO (le t9) (ofE (tr t9 * le t9) b9)))) (rfl) ?_
      refine zk_S_i (n := 1) (As := [.int ((nI (altO (le t9) (ofE (tr t9 * le t9) a9))) - (nI (altO (le t9) (ofE (tr t9 * le t9) b9))))]) (rest := []) hx hb hml hts hown hZ hP (c_X5_size l D cA _ (altO (le t9) (ofE (tr t9 * le t9) a9)) (altO (le t9) (ofE (tr t9 * le t9) b9)) (by omega) (by omega)) gX5_way_X5_size rfl ⟨rfl, rfl⟩ ⟨by decide +kernel, Nat.le_of_ble_eq_true rfl, Nat.le_of_ble_eq_true rfl⟩ hl.1 rfl (Nat.le_of_ble_eq_true rfl) ⟨Nat.le_of_ble_eq_true rfl, Nat.le_of_ble_eq_true rfl⟩ rfl dX5_way_74 (fun r_34 hr_35 => ?_)
      obtain rfl := show r_34 = _ from hr_35
      refine lv_istore (lv' := [(8, .int (nI (dif (altO (le t9) (ofE (tr t9 * le t9) a9)) (altO (le t9) (ofE (tr t9 * le t9) b9))))), (7, .int (nI (ofE (tr t9 * le t9) b9))), (6, .int (nI (ofE (tr t9 * le t9) a9))), (5, .int (nI ((tr t9) * (le t9)))), (4, .int (nI (t9))), (0, .ref (gd 0)), (1, .int (nI (j9))), (2, .int (nI (a9))), (3, .int (nI (b9)))]) hx hb dX5_way_77 hl (by decide) rfl (fun ls hl => ?_)
      refine lv_aload_n hx hb dX5_way_79 rfl (lv_at hl 5 rfl) ?_
      refine lv_iload hx hb dX5_way_80 (lv_at hl 4 rfl) ?_
      refine lv_iload hx hb dX5_way_82 (lv_at hl 2 rfl) ?_
      refine zk_V_i (n := 2) (As := [.int (nI (t9)), .int (nI (ofE (tr t9 * le t9) a9))]) (rest := []) hx hb hml hts hown hZ hP (c_X5_trackOf l D cA _ hm0 t9 (ofE (tr t9 * le t9) a9) (by omega) (by omega) (by omega) (by omega)) gX5_way_X5_trackOf rfl rfl ⟨rfl, rfl⟩ ⟨by decide +kernel, Nat.le_of_ble_eq_true rfl, Nat.le_of_ble_eq_true rfl⟩ m0 rfl hl.1 rfl (Nat.le_of_ble_eq_true rfl) ⟨Nat.le_of_ble_eq_true rfl, Nat.le_of_ble_eq_true rfl⟩ rfl dX5_way_84 (fun r_36 hr_37 => ?_)
      obtain rfl := show r_36 = _ from hr_37
      refine lv_aload_n hx hb dX5_way_87 rfl (lv_at hl 5 rfl) ?_
      refine lv_iload hx hb dX5_way_88 (lv_at hl 4 rfl) ?_
      refine lv_iload hx hb dX5_way_90 (lv_at hl 1 rfl) ?_
      refine zk_V_i (n := 2) (As := [.int (nI (t9)), .int (nI (ofE (tr t9 * le t9) b9))]) (rest := [.int (nI ((ofE (tr t9 * le t9) a9) / le t9))]) hx hb hml hts hown hZ hP (c_X5_trackOf l D cA _ hm0 t9 (ofE (tr t9 * le t9) b9) (by omega) (by omega) (by omega) (by omega)) gX5_way_X5_trackOf rfl rfl ⟨rfl, rfl⟩ ⟨by decide +kernel, Nat.le_of_ble_eq_true rfl, Nat.le_of_ble_eq_true rfl⟩ m0 rfl hl.1 rfl (Nat.le_of_ble_eq_true rfl) ⟨Nat.le_of_ble_eq_true rfl, Nat.le_of_ble_eq_true rfl⟩ rfl dX5_way_92 (fun r_38 hr_39 => ?_)
      obtain rfl := show r_38 = _ from hr_39
      refine lv_isub hx hb dX5_way_95 ?_
      refine zx_val (y := (nI ((ofE (tr t9 * le t9) a9) / le t9)) - (nI ((ofE (tr t9 * le t9) b9) / le t9))) (rfl) ?_
      refine zk_S_i (n := 1) (As := [.int ((nI ((ofE (tr t9 * le t9) a9) / le t9)) - (nI ((ofE (tr t9 * le t9) b9) / le t9)))]) (rest := []) hx hb hml hts hown hZ hP (c_X5_size l D cA _ ((ofE (tr t9 * le t9) a9) / le t9) ((ofE (tr t9 * le t9) b9) / le t9) (by omega) (by omega)) gX5_way_X5_size rfl ⟨rfl, rfl⟩ ⟨by decide +kernel, Nat.le_of_ble_eq_true rfl, Nat.le_of_ble_eq_true rfl⟩ hl.1 rfl (Nat.le_of_ble_eq_true rfl) ⟨Nat.le_of_ble_eq_true rfl, Nat.le_of_ble_eq_true rfl⟩ rfl dX5_way_96 (fun r_40 hr_41 => ?_)
      obtain rfl := show r_40 = _ from hr_41
      refine lv_istore (lv' := [(9, .int (nI (dif ((ofE (tr t9 * le t9) a9) / le t9) ((ofE (tr t9 * le t9) b9) / le t9)))), (8, .int (nI (dif (altO (le t9) (ofE (tr t9 * le t9) a9)) (altO (le t9) (ofE (tr t9 * le t9) b9))))), (7, .int (nI (ofE (tr t9 * le t9) b9))), (6, .int (nI (ofE (tr t9 * le t9) a9))), (5, .int (nI ((tr t9) * (le t9)))), (4, .int (nI (t9))), (0, .ref (gd 0)), (1, .int (nI (j9))), (2, .int (nI (a9))), (3, .int (nI (b9)))]) hx hb dX5_way_99 hl (by decide) rfl (fun ls hl => ?_)
      have hq1 : dif (altO (le t9) (ofE (tr t9 * le t9) a9)) (altO (le t9) (ofE (tr t9 * le t9) b9)) ≤ 200 := dif_le9 (by omega) (by omega)
      have hq2 : dif (ofE (tr t9 * le t9) a9 / le t9) (ofE (tr t9 * le t9) b9 / le t9) ≤ 1600 := dif_le9 (Nat.le_trans (Nat.div_le_self _ _) hoa) (Nat.le_trans (Nat.div_le_self _ _) hob)
      refine lv_aload_n hx hb dX5_way_101 rfl (lv_at hl 6 rfl) ?_
      refine va_get (D := D) (ci := 5) (v := .ref (gd 9)) (C := RX5) (T := TX5) (N := 26) hx hb hts iX5 hown hZ.1 hP 0 m0 rfl 10 (by decide) (hts (.fieldLink RX5 35 "TapeRoboticsModel" "make" "[I") (by decide +kernel)) (fun _ h9 => h9) rfl dX5_way_102 ?_
      refine lv_iload_n hx hb dX5_way_105 rfl (lv_at hl 7 rfl) ?_
      refine va_iald hx hb hZ.1 hP 9 0 m9 rfl (vp_in_nI (show j9 < 3 by omega) (by omega)) dX5_way_106 ?_
      rw [nI_clamp (show j9 < 2 ^ 31 by omega)]
      refine zf_ne (tgt := 121) hx hb (by omega) dX5_way_107 (by decide) (fun c_42 => ?_) (fun c_42 => ?_)
      · refine lv_iconst (v := nI (2)) hx hb dX5_way_121 (by decide) ?_
        refine lv_iload hx hb dX5_way_122 (lv_at hl 1 rfl) ?_
        refine zo_mul hx hb dX5_way_124 ?_
        refine lv_iload hx hb dX5_way_125 (lv_at hl 0 rfl) ?_
        refine zo_add hx hb dX5_way_127 ?_
        exact zr_i hx hb hr hlocks (by unfold wayT; rw [← ofE_div (by omega) (by omega) ha9, ← ofE_div (by omega) (by omega) hb9, ← ofE_alt (by omega) (by omega) ha9, ← ofE_alt (by omega) (by omega) hb9]; unfold zpa zsp; first | (rw [if_pos (by omega), if_pos (by omega), Nat.mul_one, Nat.mul_comm 9]; done) | (rw [if_neg (by omega), if_neg (by omega), Nat.mul_one, Nat.mul_comm 2])) dX5_way_128
      · refine lv_iload hx hb dX5_way_110 (lv_at hl 1 rfl) ?_
        refine lv_bipush (v := nI (9)) hx hb dX5_way_112 (by decide) ?_
        refine lv_iload hx hb dX5_way_114 (lv_at hl 0 rfl) ?_
        refine zo_mul hx hb dX5_way_116 ?_
        refine zo_add hx hb dX5_way_117 ?_
        refine lv_goto (tgt := 128) hx hb dX5_way_118 (by decide) ?_
        exact zr_i hx hb hr hlocks (by unfold wayT; rw [← ofE_div (by omega) (by omega) ha9, ← ofE_div (by omega) (by omega) hb9, ← ofE_alt (by omega) (by omega) ha9, ← ofE_alt (by omega) (by omega) hb9]; unfold zpa zsp; first | (rw [if_pos (by omega), if_pos (by omega), Nat.mul_one, Nat.mul_comm 9]; done) | (rw [if_neg (by omega), if_neg (by omega), Nat.mul_one, Nat.mul_comm 2])) dX5_way_128
    · refine lv_iload hx hb dX5_way_47 (lv_at hl 1 rfl) ?_
      refine lv_iconst (v := nI (1)) hx hb dX5_way_49 (by decide) ?_
      refine zo_sub hx hb (by omega) dX5_way_50 ?_
      refine lv_goto (tgt := 55) hx hb dX5_way_51 (by decide) ?_
      refine zx_val (y := nI (ofE (tr t9 * le t9) b9)) (by unfold ofE; first | (rw [if_pos (by omega)]; done) | rw [if_neg (by omega)]) ?_
      refine lv_istore (lv' := [(7, .int (nI (ofE (tr t9 * le t9) b9))), (6, .int (nI (ofE (tr t9 * le t9) a9))), (5, .int (nI ((tr t9) * (le t9)))), (4, .int (nI (t9))), (0, .ref (gd 0)), (1, .int (nI (j9))), (2, .int (nI (a9))), (3, .int (nI (b9)))]) hx hb dX5_way_55 hl (by decide) rfl (fun ls hl => ?_)
      refine lv_aload_n hx hb dX5_way_57 rfl (lv_at hl 4 rfl) ?_
      refine lv_iload hx hb dX5_way_58 (lv_at hl 3 rfl) ?_
      refine lv_iload hx hb dX5_way_60 (lv_at hl 1 rfl) ?_
      refine zk_V_i (n := 2) (As := [.int (nI (t9)), .int (nI (ofE (tr t9 * le t9) a9))]) (rest := []) hx hb hml hts hown hZ hP (c_X5_alongOf l D cA _ hm0 t9 (ofE (tr t9 * le t9) a9) (by omega) (by omega) (by omega) (by omega)) gX5_way_X5_alongOf rfl rfl ⟨rfl, rfl⟩ ⟨by decide +kernel, Nat.le_of_ble_eq_true rfl, Nat.le_of_ble_eq_true rfl⟩ m0 rfl hl.1 rfl (Nat.le_of_ble_eq_true rfl) ⟨Nat.le_of_ble_eq_true rfl, Nat.le_of_ble_eq_true rfl⟩ rfl dX5_way_62 (fun r_43 hr_44 => ?_)
      obtain rfl := show r_43 = _ from hr_44
      have hal_62 : altO (le t9) (ofE (tr t9 * le t9) a9) < le t9 := altO_lt (by omega)
      have htk_62 : (ofE (tr t9 * le t9) a9) / le t9 ≤ (ofE (tr t9 * le t9) a9) := Nat.div_le_self _ _
      refine lv_aload_n hx hb dX5_way_65 rfl (lv_at hl 4 rfl) ?_
      refine lv_iload hx hb dX5_way_66 (lv_at hl 3 rfl) ?_
      refine lv_iload hx hb dX5_way_68 (lv_at hl 0 rfl) ?_
      refine zk_V_i (n := 2) (As := [.int (nI (t9)), .int (nI (ofE (tr t9 * le t9) b9))]) (rest := [.int (nI (altO (le t9) (ofE (tr t9 * le t9) a9)))]) hx hb hml hts hown hZ hP (c_X5_alongOf l D cA _ hm0 t9 (ofE (tr t9 * le t9) b9) (by omega) (by omega) (by omega) (by omega)) gX5_way_X5_alongOf rfl rfl ⟨rfl, rfl⟩ ⟨by decide +kernel, Nat.le_of_ble_eq_true rfl, Nat.le_of_ble_eq_true rfl⟩ m0 rfl hl.1 rfl (Nat.le_of_ble_eq_true rfl) ⟨Nat.le_of_ble_eq_true rfl, Nat.le_of_ble_eq_true rfl⟩ rfl dX5_way_70 (fun r_45 hr_46 => ?_)
      obtain rfl := show r_45 = _ from hr_46
      have hal_70 : altO (le t9) (ofE (tr t9 * le t9) b9) < le t9 := altO_lt (by omega)
      have htk_70 : (ofE (tr t9 * le t9) b9) / le t9 ≤ (ofE (tr t9 * le t9) b9) := Nat.div_le_self _ _
      refine lv_isub hx hb dX5_way_73 ?_
      refine zx_val (y := (nI (altO (le t9) (ofE (tr t9 * le t9) a9))) - (nI (altO (le t9) (ofE (tr t9 * le t9) b9)))) (rfl) ?_
      refine zk_S_i (n := 1) (As := [.int ((nI (altO (le t9) (ofE (tr t9 * le t9) a9))) - (nI (altO (le t9) (ofE (tr t9 * le t9) b9))))]) (rest := []) hx hb hml hts hown hZ hP (c_X5_size l D cA _ (altO (le t9) (ofE (tr t9 * le t9) a9)) (altO (le t9) (ofE (tr t9 * le t9) b9)) (by omega) (by omega)) gX5_way_X5_size rfl ⟨rfl, rfl⟩ ⟨by decide +kernel, Nat.le_of_ble_eq_true rfl, Nat.le_of_ble_eq_true rfl⟩ hl.1 rfl (Nat.le_of_ble_eq_true rfl) ⟨Nat.le_of_ble_eq_true rfl, Nat.le_of_ble_eq_true rfl⟩ rfl dX5_way_74 (fun r_47 hr_48 => ?_)
      obtain rfl := show r_47 = _ from hr_48
      refine lv_istore (lv' := [(8, .int (nI (dif (altO (le t9) (ofE (tr t9 * le t9) a9)) (altO (le t9) (ofE (tr t9 * le t9) b9))))), (7, .int (nI (ofE (tr t9 * le t9) b9))), (6, .int (nI (ofE (tr t9 * le t9) a9))), (5, .int (nI ((tr t9) * (le t9)))), (4, .int (nI (t9))), (0, .ref (gd 0)), (1, .int (nI (j9))), (2, .int (nI (a9))), (3, .int (nI (b9)))]) hx hb dX5_way_77 hl (by decide) rfl (fun ls hl => ?_)
      refine lv_aload_n hx hb dX5_way_79 rfl (lv_at hl 5 rfl) ?_
      refine lv_iload hx hb dX5_way_80 (lv_at hl 4 rfl) ?_
      refine lv_iload hx hb dX5_way_82 (lv_at hl 2 rfl) ?_
      refine zk_V_i (n := 2) (As := [.int (nI (t9)), .int (nI (ofE (tr t9 * le t9) a9))]) (rest := []) hx hb hml hts hown hZ hP (c_X5_trackOf l D cA _ hm0 t9 (ofE (tr t9 * le t9) a9) (by omega) (by omega) (by omega) (by omega)) gX5_way_X5_trackOf rfl rfl ⟨rfl, rfl⟩ ⟨by decide +kernel, Nat.le_of_ble_eq_true rfl, Nat.le_of_ble_eq_true rfl⟩ m0 rfl hl.1 rfl (Nat.le_of_ble_eq_true rfl) ⟨Nat.le_of_ble_eq_true rfl, Nat.le_of_ble_eq_true rfl⟩ rfl dX5_way_84 (fun r_49 hr_50 => ?_)
      obtain rfl := show r_49 = _ from hr_50
      refine lv_aload_n hx hb dX5_way_87 rfl (lv_at hl 5 rfl) ?_
      refine lv_iload hx hb dX5_way_88 (lv_at hl 4 rfl) ?_
      refine lv_iload hx hb dX5_way_90 (lv_at hl 1 rfl) ?_
      refine zk_V_i (n := 2) (As := [.int (nI (t9)), .int (nI (ofE (tr t9 * le t9) b9))]) (rest := [.int (nI ((ofE (tr t9 * le t9) a9) / le t9))]) hx hb hml hts hown hZ hP (c_X5_trackOf l D cA _ hm0 t9 (ofE (tr t9 * le t9) b9) (by omega) (by omega) (by omega) (by omega)) gX5_way_X5_trackOf rfl rfl ⟨rfl, rfl⟩ ⟨by decide +kernel, Nat.le_of_ble_eq_true rfl, Nat.le_of_ble_eq_true rfl⟩ m0 rfl hl.1 rfl (Nat.le_of_ble_eq_true rfl) ⟨Nat.le_of_ble_eq_true rfl, Nat.le_of_ble_eq_true rfl⟩ rfl dX5_way_92 (fun r_51 hr_52 => ?_)
      obtain rfl := show r_51 = _ from hr_52
      refine lv_isub hx hb dX5_way_95 ?_
      refine zx_val (y := (nI ((ofE (tr t9 * le t9) a9) / le t9)) - (nI ((ofE (tr t9 * le t9) b9) / le t9))) (rfl) ?_
      refine zk_S_i (n := 1) (As := [.int ((nI ((ofE (tr t9 * le t9) a9) / le t9)) - (nI ((ofE (tr t9 * le t9) b9) / le t9)))]) (rest := []) hx hb hml hts hown hZ hP (c_X5_size l D cA _ ((ofE (tr t9 * le t9) a9) / le t9) ((ofE (tr t9 * le t9) b9) / le t9) (by omega) (by omega)) gX5_way_X5_size rfl ⟨rfl, rfl⟩ ⟨by decide +kernel, Nat.le_of_ble_eq_true rfl, Nat.le_of_ble_eq_true rfl⟩ hl.1 rfl (Nat.le_of_ble_eq_true rfl) ⟨Nat.le_of_ble_eq_true rfl, Nat.le_of_ble_eq_true rfl⟩ rfl dX5_way_96 (fun r_53 hr_54 => ?_)
      obtain rfl := show r_53 = _ from hr_54
      refine lv_istore (lv' := [(9, .int (nI (dif ((ofE (tr t9 * le t9) a9) / le t9) ((ofE (tr t9 * le t9) b9) / le t9)))), (8, .int (nI (dif (altO (le t9) (ofE (tr t9 * le t9) a9)) (altO (le t9) (ofE (tr t9 * le t9) b9))))), (7, .int (nI (ofE (tr t9 * le t9) b9))), (6, .int (nI (ofE (tr t9 * le t9) a9))), (5, .int (nI ((tr t9) * (le t9)))), (4, .int (nI (t9))), (0, .ref (gd 0)), (1, .int (nI (j9))), (2, .int (nI (a9))), (3, .int (nI (b9)))]) hx hb dX5_way_99 hl (by decide) rfl (fun ls hl => ?_)
      have hq1 : dif (altO (le t9) (ofE (tr t9 * le t9) a9)) (altO (le t9) (ofE (tr t9 * le t9) b9)) ≤ 200 := dif_le9 (by omega) (by omega)
      have hq2 : dif (ofE (tr t9 * le t9) a9 / le t9) (ofE (tr t9 * le t9) b9 / le t9) ≤ 1600 := dif_le9 (Nat.le_trans (Nat.div_le_self _ _) hoa) (Nat.le_trans (Nat.div_le_self _ _) hob)
      refine lv_aload_n hx hb dX5_way_101 rfl (lv_at hl 6 rfl) ?_
      refine va_get (D := D) (ci := 5) (v := .ref (gd 9)) (C := RX5) (T := TX5) (N := 26) hx hb hts iX5 hown hZ.1 hP 0 m0 rfl 10 (by decide) (hts (.fieldLink RX5 35 "TapeRoboticsModel" "make" "[I") (by decide +kernel)) (fun _ h9 => h9) rfl dX5_way_102 ?_
      refine lv_iload_n hx hb dX5_way_105 rfl (lv_at hl 7 rfl) ?_
      refine va_iald hx hb hZ.1 hP 9 0 m9 rfl (vp_in_nI (show j9 < 3 by omega) (by omega)) dX5_way_106 ?_
      rw [nI_clamp (show j9 < 2 ^ 31 by omega)]
      refine zf_ne (tgt := 121) hx hb (by omega) dX5_way_107 (by decide) (fun c_55 => ?_) (fun c_55 => ?_)
      · refine lv_iconst (v := nI (2)) hx hb dX5_way_121 (by decide) ?_
        refine lv_iload hx hb dX5_way_122 (lv_at hl 1 rfl) ?_
        refine zo_mul hx hb dX5_way_124 ?_
        refine lv_iload hx hb dX5_way_125 (lv_at hl 0 rfl) ?_
        refine zo_add hx hb dX5_way_127 ?_
        exact zr_i hx hb hr hlocks (by unfold wayT; rw [← ofE_div (by omega) (by omega) ha9, ← ofE_div (by omega) (by omega) hb9, ← ofE_alt (by omega) (by omega) ha9, ← ofE_alt (by omega) (by omega) hb9]; unfold zpa zsp; first | (rw [if_pos (by omega), if_pos (by omega), Nat.mul_one, Nat.mul_comm 9]; done) | (rw [if_neg (by omega), if_neg (by omega), Nat.mul_one, Nat.mul_comm 2])) dX5_way_128
      · refine lv_iload hx hb dX5_way_110 (lv_at hl 1 rfl) ?_
        refine lv_bipush (v := nI (9)) hx hb dX5_way_112 (by decide) ?_
        refine lv_iload hx hb dX5_way_114 (lv_at hl 0 rfl) ?_
        refine zo_mul hx hb dX5_way_116 ?_
        refine zo_add hx hb dX5_way_117 ?_
        refine lv_goto (tgt := 128) hx hb dX5_way_118 (by decide) ?_
        exact zr_i hx hb hr hlocks (by unfold wayT; rw [← ofE_div (by omega) (by omega) ha9, ← ofE_div (by omega) (by omega) hb9, ← ofE_alt (by omega) (by omega) ha9, ← ofE_alt (by omega) (by omega) hb9]; unfold zpa zsp; first | (rw [if_pos (by omega), if_pos (by omega), Nat.mul_one, Nat.mul_comm 9]; done) | (rw [if_neg (by omega), if_neg (by omega), Nat.mul_one, Nat.mul_comm 2])) dX5_way_128

