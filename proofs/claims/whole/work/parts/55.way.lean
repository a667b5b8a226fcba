theorem altO_lt {le p : Nat} (h : 0 < le) : altO le p < le := by
  have := Nat.mod_lt p h
  unfold altO; split <;> omega
def ofE (e p : Nat) : Nat := if p = e then e - 1 else p
theorem ofE_div {tr le p : Nat} (h1 : 0 < tr) (h : 0 < le) (hp : p ≤ tr * le) : ofE (tr * le) p / le = trk tr le p := by
  unfold ofE trk
  obtain ⟨u, rfl⟩ : ∃ u, tr = u + 1 := ⟨tr - 1, by omega⟩
  by_cases e : p = (u + 1) * le
  · rw [if_pos e, e, Nat.mul_div_cancel _ h, if_neg (Nat.lt_irrefl _), Nat.add_sub_cancel]
    rw [show (u + 1) * le - 1 = (le - 1) + le * u by rw [Nat.add_mul, Nat.mul_comm]; omega, Nat.add_mul_div_left _ _ h, Nat.div_eq_of_lt (by omega), Nat.zero_add]
  · rw [if_neg e, if_pos ((Nat.div_lt_iff_lt_mul h).mpr (by omega))]
theorem ofE_alt {tr le p : Nat} (h1 : 0 < tr) (h : 0 < le) (hp : p ≤ tr * le) : altO le (ofE (tr * le) p) = alo tr le p := by
  have hd := ofE_div h1 h hp
  unfold altO alo
  rw [hd]
  have hm : ofE (tr * le) p % le = min (p - trk tr le p * le) (le - 1) := by
    have h2 := Nat.mod_add_div (ofE (tr * le) p) le
    have h3 := Nat.mod_lt (ofE (tr * le) p) h
    rw [hd, Nat.mul_comm] at h2
    have h5 : 0 < tr * le := Nat.mul_pos h1 h
    by_cases e : p = tr * le
    · have h4 : ofE (tr * le) p = tr * le - 1 := if_pos e
      have h6 : trk tr le p = tr - 1 := by unfold trk; rw [e, Nat.mul_div_cancel _ h, if_neg (Nat.lt_irrefl _)]
      rw [h6] at h2 ⊢
      have h7 : (tr - 1) * le + le = tr * le := by rw [← Nat.succ_mul]; congr 1; omega
      omega
    · have h4 : ofE (tr * le) p = p := if_neg e
      rw [h4] at h2 h3 ⊢
      omega
  rw [hm]
theorem ofE_le {e p b : Nat} (hp : p ≤ b) (he : e ≤ b) : ofE e p ≤ b := by unfold ofE; split <;> omega
set_option maxHeartbeats 4000000 in
set_option maxRecDepth 100000 in
theorem c_X5_robot (l : Launch) (D : va_G) (cA : Nat → ClassId) (ws : va_W) {gd : Nat → Nat} {n : Nat} {tr : Nat → Nat} {le : Nat → Nat} {sl : Nat → Nat} {mo : Nat → Option Nat} {la : Nat → Bool} {fc : Nat → Nat} {sf : Nat → Int32} {bf : Nat → Int32} {nd : Nat} {mk : Nat → Nat} {ck : Nat → Int32} {ct : Nat → Nat} {hd : Nat → Option Nat} {pf : Nat → Int32} {nj : Nat} {jt : Nat → Int32} {jf : Nat → Nat} {dl : Nat → Nat} {fin : Nat → Bool} {my : Nat} {fls : Nat → Int32} {fod : Nat → Int32} {fle : Nat → Int32} {fro : Nat → Int32} {th : Nat} (hm : mL cA ws gd n tr le sl mo la fc sf bf nd mk ck ct hd pf nj jt jf dl fin my fls fod fle fro th) (j9 t9 : Nat) (hj9 : j9 < 3) (ht9 : t9 < 8) (hs : sl t9 < 12) : Met l yX5_robot wsX5_robot ({ frames := 1, cells := 0, slots := 0, locals := 20 }) (va_Pc [.ref (gd 0), .int (nI (j9)), .int (nI (t9))] (zS D cA ws)) (vp_Si (fun r => r = nI (20 + 2 * dif (4 * j9) (sl t9)))) 0 0 zF := by
  refine zOpen (cc := cX5_robot) (maxL := 3) (ret := (some .int)) (own := RX5) (by decide) rfl rfl (Nat.le_of_ble_eq_true rfl) ?_
  intro p e s m below meth c ls hx hb hr hml hts hown hlocks hnm ⟨hZ, hP⟩ hl
  have iX5 : ∀ w ∈ wsX50, w ∈ wsX5_robot := by decide +kernel
  have hl : lv_has ls 3 [(0, .ref (gd 0)), (1, .int (nI (j9))), (2, .int (nI (t9)))] := hl
  have hm0 := hm
  obtain ⟨m0, m1, m2, m3, m4, m5, m6, m7, m8, m9, m10, m11, m12, m13, m14, m15, m16, m17, m18, m19, m20, m21⟩ := hm
  refine lv_bipush (v := nI (20)) hx hb dX5_robot_0 (by decide) ?_
  refine lv_iconst (v := nI (2)) hx hb dX5_robot_2 (by decide) ?_
  refine lv_iconst (v := nI (4)) hx hb dX5_robot_3 (by decide) ?_
  refine lv_iload_n hx hb dX5_robot_4 rfl (lv_at hl 1 rfl) ?_
  refine zo_mul hx hb dX5_robot_5 ?_
  refine lv_aload_n hx hb dX5_robot_6 rfl (lv_at hl 0 rfl) ?_
  refine va_get (D := D) (ci := 5) (v := .ref (gd 3)) (C := RX5) (T := TX5) (N := 26) hx hb hts iX5 hown hZ.1 hP 0 m0 rfl 3 (by decide) (hts (.fieldLink RX5 16 "TapeRoboticsModel" "slot" "[I") (by decide +kernel)) (fun _ h9 => h9) rfl dX5_robot_7 ?_
  refine lv_iload_n hx hb dX5_robot_10 rfl (lv_at hl 2 rfl) ?_
  refine va_iald hx hb hZ.1 hP 3 0 m3 rfl (vp_in_nI (show t9 < 8 by omega) (by omega)) dX5_robot_11 ?_
  rw [nI_clamp (show t9 < 2 ^ 31 by omega)]
  refine lv_isub hx hb dX5_robot_12 ?_
  refine zx_val (y := (nI (4 * j9)) - (nI (sl t9))) (rfl) ?_
  refine zk_S_i (n := 1) (As := [.int ((nI (4 * j9)) - (nI (sl t9)))]) (rest := [.int (nI (2)), .int (nI (20))]) hx hb hml hts hown hZ hP (c_X5_size l D cA _ (4 * j9) (sl t9) (by omega) (by omega)) gX5_robot_X5_size rfl ⟨rfl, rfl⟩ ⟨by decide +kernel, Nat.le_of_ble_eq_true rfl, Nat.le_of_ble_eq_true rfl⟩ hl.1 rfl (Nat.le_of_ble_eq_true rfl) ⟨Nat.le_of_ble_eq_true rfl, Nat.le_of_ble_eq_true rfl⟩ rfl dX5_robot_13 (fun r_1 hr_2 => ?_)
  obtain rfl := show r_1 = _ from hr_2
  refine zo_mul hx hb dX5_robot_16 ?_
  refine zo_add hx hb dX5_robot_17 ?_
  exact zr_i hx hb hr hlocks (rfl) dX5_robot_18

