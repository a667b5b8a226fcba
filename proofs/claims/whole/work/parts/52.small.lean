theorem isin_t {v a b : Int32} (h1 : ¬ v < a) (h2 : ¬ b < v) : bI true = bI (decide (a ≤ v) && decide (v ≤ b)) := by
  rw [decide_eq_true (show a ≤ v by rw [Int32.le_iff_toInt_le]; rw [Int32.lt_iff_toInt_lt] at h1; omega), decide_eq_true (show v ≤ b by rw [Int32.le_iff_toInt_le]; rw [Int32.lt_iff_toInt_lt] at h2; omega)]; rfl
theorem isin_l {v a b : Int32} (h : v < a) : bI false = bI (decide (a ≤ v) && decide (v ≤ b)) := by
  rw [decide_eq_false (show ¬ a ≤ v by rw [Int32.le_iff_toInt_le]; rw [Int32.lt_iff_toInt_lt] at h; omega)]; rfl
theorem isin_r {v a b : Int32} (h : b < v) : bI false = bI (decide (a ≤ v) && decide (v ≤ b)) := by
  rw [decide_eq_false (show ¬ v ≤ b by rw [Int32.le_iff_toInt_le]; rw [Int32.lt_iff_toInt_lt] at h; omega), Bool.and_false]
theorem isin_rg {v : Int32} {lo hi : Nat} (h1 : lo ≤ hi) (h2 : hi < 2 ^ 30) : (decide (nI lo ≤ v) && decide (v ≤ nI hi)) = (rg v lo hi).isSome := by
  rcases zI_split v with q | ⟨j, hj, rfl⟩
  · rw [rg_neg q, decide_eq_false (fun g => by
      have h3 := (Int32.le_iff_toInt_le).mp g
      have h4 := (Int32.lt_iff_toInt_lt).mp q
      rw [nI_toInt (by omega)] at h3
      rw [Int32.toInt_zero] at h4
      omega)]; rfl
  · by_cases g : lo ≤ j ∧ j ≤ hi
    · rw [rg_in hj g.1 g.2, decide_eq_true ((nI_leI (by omega) hj).mpr g.1), decide_eq_true ((nI_leI hj (by omega)).mpr g.2)]; rfl
    · rw [rg_out hj (by omega)]
      by_cases g1 : lo ≤ j
      · rw [decide_eq_false (p := nI j ≤ nI hi) (fun q => g ⟨g1, (nI_leI hj (by omega)).mp q⟩), Bool.and_false]; rfl
      · rw [decide_eq_false (p := nI lo ≤ nI j) (fun q => g1 ((nI_leI (by omega) hj).mp q))]; rfl
theorem isin_ix {v : Int32} {n : Nat} (h : n < 2 ^ 30) : (decide (nI 0 ≤ v) && decide (v ≤ nI n - nI 1)) = (ix v n).isSome := by
  rcases zI_split v with q | ⟨j, hj, rfl⟩
  · rw [ix_neg q, decide_eq_false (fun g => by
      have h3 := (Int32.le_iff_toInt_le).mp g
      have h4 := (Int32.lt_iff_toInt_lt).mp q
      rw [nI_toInt (by omega)] at h3
      rw [Int32.toInt_zero] at h4
      omega)]; rfl
  · rw [ix_nI hj, decide_eq_true ((nI_leI (by omega) hj).mpr (Nat.zero_le j))]
    have e : (nI j ≤ nI n - nI 1) ↔ j < n := by
      rw [Int32.le_iff_toInt_le, zsub_toInt h (by omega), nI_toInt hj]; omega
    by_cases g : j < n
    · rw [if_pos g, decide_eq_true (e.mpr g)]; rfl
    · rw [if_neg g, decide_eq_false (fun q => g (e.mp q))]; rfl
set_option maxHeartbeats 4000000 in
set_option maxRecDepth 100000 in
theorem c_X5_isIn (l : Launch) (D : va_G) (cA : Nat → ClassId) (ws : va_W) (v9 a9 b9 : Int32) : Met l yX5_isIn wsX5_isIn ({ frames := 0, cells := 0, slots := 0, locals := 0 }) (va_Pc [.int (v9), .int (a9), .int (b9)] (zS D cA ws)) (vp_Si (fun r => r = bI (decide (a9 ≤ v9) && decide (v9 ≤ b9)))) 0 0 zF := by
  refine zOpen (cc := cX5_isIn) (maxL := 3) (ret := (some .boolean)) (own := RX5) (by decide) rfl rfl (Nat.le_of_ble_eq_true rfl) ?_
  intro p e s m below meth c ls hx hb hr hml hts hown hlocks hnm ⟨hZ, hP⟩ hl
  have hl : lv_has ls 3 [(0, .int (v9)), (1, .int (a9)), (2, .int (b9))] := hl
  refine lv_iload_n hx hb dX5_isIn_0 rfl (lv_at hl 0 rfl) ?_
  refine lv_iload_n hx hb dX5_isIn_1 rfl (lv_at hl 1 rfl) ?_
  refine lv_icmp_lt (tgt := 14) hx hb dX5_isIn_2 (by decide) (fun c_1 => ?_) (fun c_1 => ?_)
  · refine lv_iconst (v := bI (false)) hx hb dX5_isIn_14 (by decide) ?_
    exact zr_z hx hb hr hlocks (by first | exact isin_t (by assumption) (by assumption) | exact isin_l (by assumption) | exact isin_r (by assumption)) dX5_isIn_15
  · refine lv_iload_n hx hb dX5_isIn_5 rfl (lv_at hl 0 rfl) ?_
    refine lv_iload_n hx hb dX5_isIn_6 rfl (lv_at hl 2 rfl) ?_
    refine lv_icmp_gt (tgt := 14) hx hb dX5_isIn_7 (by decide) (fun c_2 => ?_) (fun c_2 => ?_)
    · refine lv_iconst (v := bI (false)) hx hb dX5_isIn_14 (by decide) ?_
      exact zr_z hx hb hr hlocks (by first | exact isin_t (by assumption) (by assumption) | exact isin_l (by assumption) | exact isin_r (by assumption)) dX5_isIn_15
    · refine lv_iconst (v := bI (true)) hx hb dX5_isIn_10 (by decide) ?_
      refine lv_goto (tgt := 15) hx hb dX5_isIn_11 (by decide) ?_
      exact zr_z hx hb hr hlocks (by first | exact isin_t (by assumption) (by assumption) | exact isin_l (by assumption) | exact isin_r (by assumption)) dX5_isIn_15

set_option maxHeartbeats 4000000 in
set_option maxRecDepth 100000 in
theorem c_X5_isTape (l : Launch) (D : va_G) (cA : Nat → ClassId) (ws : va_W) {gd : Nat → Nat} {n : Nat} {tr : Nat → Nat} {le : Nat → Nat} {sl : Nat → Nat} {mo : Nat → Option Nat} {la : Nat → Bool} {fc : Nat → Nat} {sf : Nat → Int32} {bf : Nat → Int32} {nd : Nat} {mk : Nat → Nat} {ck : Nat → Int32} {ct : Nat → Nat} {hd : Nat → Option Nat} {pf : Nat → Int32} {nj : Nat} {jt : Nat → Int32} {jf : Nat → Nat} {dl : Nat → Nat} {fin : Nat → Bool} {my : Nat} {fls : Nat → Int32} {fod : Nat → Int32} {fle : Nat → Int32} {fro : Nat → Int32} {th : Nat} (hm : mL cA ws gd n tr le sl mo la fc sf bf nd mk ck ct hd pf nj jt jf dl fin my fls fod fle fro th) (hn : n < 2 ^ 30) (v9 : Int32) : Met l yX5_isTape wsX5_isTape ({ frames := 1, cells := 0, slots := 0, locals := 22 }) (va_Pc [.ref (gd 0), .int (v9)] (zS D cA ws)) (vp_Si (fun r => r = bI ((ix v9 n).isSome))) 0 0 zF := by
  refine zOpen (cc := cX5_isTape) (maxL := 2) (ret := (some .boolean)) (own := RX5) (by decide) rfl rfl (Nat.le_of_ble_eq_true rfl) ?_
  intro p e s m below meth c ls hx hb hr hml hts hown hlocks hnm ⟨hZ, hP⟩ hl
  have iX5 : ∀ w ∈ wsX50, w ∈ wsX5_isTape := by decide +kernel
  have hl : lv_has ls 2 [(0, .ref (gd 0)), (1, .int (v9))] := hl
  have hm0 := hm
  obtain ⟨m0, m1, m2, m3, m4, m5, m6, m7, m8, m9, m10, m11, m12, m13, m14, m15, m16, m17, m18, m19, m20, m21⟩ := hm
  refine lv_iload_n hx hb dX5_isTape_0 rfl (lv_at hl 1 rfl) ?_
  refine lv_iconst (v := nI (0)) hx hb dX5_isTape_1 (by decide) ?_
  refine lv_aload_n hx hb dX5_isTape_2 rfl (lv_at hl 0 rfl) ?_
  refine va_get (D := D) (ci := 5) (v := .int (nI (n))) (C := RX5) (T := TX5) (N := 26) hx hb hts iX5 hown hZ.1 hP 0 m0 rfl 0 (by decide) (hts (.fieldLink RX5 78 "TapeRoboticsModel" "tapes" "I") (by decide +kernel)) (fun _ h9 => h9) rfl dX5_isTape_3 ?_
  refine lv_iconst (v := nI (1)) hx hb dX5_isTape_6 (by decide) ?_
  refine lv_isub hx hb dX5_isTape_7 ?_
  refine zx_val (y := nI n - nI 1) (rfl) ?_
  refine zk_S_i (n := 3) (As := [.int (v9), .int (nI (0)), .int (nI n - nI 1)]) (rest := []) hx hb hml hts hown hZ hP (c_X5_isIn l D cA _ v9 (nI (0)) (nI n - nI 1)) gX5_isTape_X5_isIn rfl ⟨rfl, rfl⟩ ⟨by decide +kernel, Nat.le_of_ble_eq_true rfl, Nat.le_of_ble_eq_true rfl⟩ hl.1 rfl (Nat.le_of_ble_eq_true rfl) ⟨Nat.le_of_ble_eq_true rfl, Nat.le_of_ble_eq_true rfl⟩ rfl dX5_isTape_8 (fun r_1 hr_2 => ?_)
  obtain rfl := show r_1 = _ from hr_2
  exact zr_z hx hb hr hlocks (by rw [isin_ix hn]) dX5_isTape_11

set_option maxHeartbeats 4000000 in
set_option maxRecDepth 100000 in
theorem c_X5_isDrive (l : Launch) (D : va_G) (cA : Nat → ClassId) (ws : va_W) {gd : Nat → Nat} {n : Nat} {tr : Nat → Nat} {le : Nat → Nat} {sl : Nat → Nat} {mo : Nat → Option Nat} {la : Nat → Bool} {fc : Nat → Nat} {sf : Nat → Int32} {bf : Nat → Int32} {nd : Nat} {mk : Nat → Nat} {ck : Nat → Int32} {ct : Nat → Nat} {hd : Nat → Option Nat} {pf : Nat → Int32} {nj : Nat} {jt : Nat → Int32} {jf : Nat → Nat} {dl : Nat → Nat} {fin : Nat → Bool} {my : Nat} {fls : Nat → Int32} {fod : Nat → Int32} {fle : Nat → Int32} {fro : Nat → Int32} {th : Nat} (hm : mL cA ws gd n tr le sl mo la fc sf bf nd mk ck ct hd pf nj jt jf dl fin my fls fod fle fro th) (hn : nd < 2 ^ 30) (v9 : Int32) : Met l yX5_isDrive wsX5_isDrive ({ frames := 1, cells := 0, slots := 0, locals := 22 }) (va_Pc [.ref (gd 0), .int (v9)] (zS D cA ws)) (vp_Si (fun r => r = bI ((ix v9 nd).isSome))) 0 0 zF := by
  refine zOpen (cc := cX5_isDrive) (maxL := 2) (ret := (some .boolean)) (own := RX5) (by decide) rfl rfl (Nat.le_of_ble_eq_true rfl) ?_
  intro p e s m below meth c ls hx hb hr hml hts hown hlocks hnm ⟨hZ, hP⟩ hl
  have iX5 : ∀ w ∈ wsX50, w ∈ wsX5_isDrive := by decide +kernel
  have hl : lv_has ls 2 [(0, .ref (gd 0)), (1, .int (v9))] := hl
  have hm0 := hm
  obtain ⟨m0, m1, m2, m3, m4, m5, m6, m7, m8, m9, m10, m11, m12, m13, m14, m15, m16, m17, m18, m19, m20, m21⟩ := hm
  refine lv_iload_n hx hb dX5_isDrive_0 rfl (lv_at hl 1 rfl) ?_
  refine lv_iconst (v := nI (0)) hx hb dX5_isDrive_1 (by decide) ?_
  refine lv_aload_n hx hb dX5_isDrive_2 rfl (lv_at hl 0 rfl) ?_
  refine va_get (D := D) (ci := 5) (v := .int (nI (nd))) (C := RX5) (T := TX5) (N := 26) hx hb hts iX5 hown hZ.1 hP 0 m0 rfl 9 (by decide) (hts (.fieldLink RX5 85 "TapeRoboticsModel" "drives" "I") (by decide +kernel)) (fun _ h9 => h9) rfl dX5_isDrive_3 ?_
  refine lv_iconst (v := nI (1)) hx hb dX5_isDrive_6 (by decide) ?_
  refine lv_isub hx hb dX5_isDrive_7 ?_
  refine zx_val (y := nI nd - nI 1) (rfl) ?_
  refine zk_S_i (n := 3) (As := [.int (v9), .int (nI (0)), .int (nI nd - nI 1)]) (rest := []) hx hb hml hts hown hZ hP (c_X5_isIn l D cA _ v9 (nI (0)) (nI nd - nI 1)) gX5_isDrive_X5_isIn rfl ⟨rfl, rfl⟩ ⟨by decide +kernel, Nat.le_of_ble_eq_true rfl, Nat.le_of_ble_eq_true rfl⟩ hl.1 rfl (Nat.le_of_ble_eq_true rfl) ⟨Nat.le_of_ble_eq_true rfl, Nat.le_of_ble_eq_true rfl⟩ rfl dX5_isDrive_8 (fun r_1 hr_2 => ?_)
  obtain rfl := show r_1 = _ from hr_2
  exact zr_z hx hb hr hlocks (by rw [isin_ix hn]) dX5_isDrive_11

