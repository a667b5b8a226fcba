set_option maxHeartbeats 4000000 in
set_option maxRecDepth 100000 in
theorem c_X5_isFree (l : Launch) (D : va_G) (cA : Nat → ClassId) (ws : va_W) {gd : Nat → Nat} {n : Nat} {tr : Nat → Nat} {le : Nat → Nat} {sl : Nat → Nat} {mo : Nat → Option Nat} {la : Nat → Bool} {fc : Nat → Nat} {sf : Nat → Int32} {bf : Nat → Int32} {nd : Nat} {mk : Nat → Nat} {ck : Nat → Int32} {ct : Nat → Nat} {hd : Nat → Option Nat} {pf : Nat → Int32} {nj : Nat} {jt : Nat → Int32} {jf : Nat → Nat} {dl : Nat → Nat} {fin : Nat → Bool} {my : Nat} {fls : Nat → Int32} {fod : Nat → Int32} {fle : Nat → Int32} {fro : Nat → Int32} {th : Nat} (hm : mL cA ws gd n tr le sl mo la fc sf bf nd mk ck ct hd pf nj jt jf dl fin my fls fod fle fro th) (hn8 : n ≤ 8) (hsl : ∀ i, i < n → sl i < 12) (g : Nat) (hg : g < 2 ^ 31) : Met l yX5_isFree wsX5_isFree ({ frames := 0, cells := 0, slots := 0, locals := 0 }) (va_Pc [.ref (gd 0), .int (nI (g))] (zS D cA ws)) (vp_Si (fun r => r = bI (fre sl g n))) 0 0 zF := by
  refine zOpen (cc := cX5_isFree) (maxL := 3) (ret := (some .boolean)) (own := RX5) (by decide) rfl rfl (Nat.le_of_ble_eq_true rfl) ?_
  intro p e s m below meth c ls hx hb hr hml hts hown hlocks hnm ⟨hZ, hP⟩ hl
  have iX5 : ∀ w ∈ wsX50, w ∈ wsX5_isFree := by decide +kernel
  have hl : lv_has ls 3 [(0, .ref (gd 0)), (1, .int (nI (g)))] := hl
  have hm0 := hm
  obtain ⟨m0, m1, m2, m3, m4, m5, m6, m7, m8, m9, m10, m11, m12, m13, m14, m15, m16, m17, m18, m19, m20, m21⟩ := hm
  refine lv_iconst (v := nI (0)) hx hb dX5_isFree_0 (by decide) ?_
  refine lv_istore_n (lv' := [(2, .int (nI (0))), (0, .ref (gd 0)), (1, .int (nI (g)))]) hx hb dX5_isFree_1 rfl hl (by decide) rfl (fun ls hl => ?_)
  refine z_loop (α := Nat) (fun v => n - v) (fun v ls => lv_has ls 3 [(0, .ref (gd 0)), (1, .int (nI (g))), (2, .int (nI (v)))] ∧ (∀ k, k < v → sl k ≠ g) ∧ v ≤ n) (fun _ => []) (0) ⟨lv_sub hl [1, 2, 0] rfl, (fun k h => absurd h (Nat.not_lt_zero k)), Nat.zero_le _⟩ ?_
  intro v ih2 ls hv
  obtain ⟨i, rfl⟩ : ∃ z, z = v := ⟨_, rfl⟩
  obtain ⟨hl, hI⟩ := hv
  have hl : lv_has ls 3 [(0, .ref (gd 0)), (1, .int (nI (g))), (2, .int (nI (i)))] := hl
  have hI : (∀ k, k < i → sl k ≠ g) ∧ i ≤ n := hI
  obtain ⟨hno, hin⟩ := hI
  refine lv_iload_n hx hb dX5_isFree_2 rfl (lv_at hl 2 rfl) ?_
  refine lv_aload_n hx hb dX5_isFree_3 rfl (lv_at hl 0 rfl) ?_
  refine va_get (D := D) (ci := 5) (v := .int (nI (n))) (C := RX5) (T := TX5) (N := 26) hx hb hts iX5 hown hZ.1 hP 0 m0 rfl 0 (by decide) (hts (.fieldLink RX5 78 "TapeRoboticsModel" "tapes" "I") (by decide +kernel)) (fun _ h9 => h9) rfl dX5_isFree_4 ?_
  refine zc_ge (tgt := 28) hx hb (by omega) (by omega) dX5_isFree_7 (by decide) (fun c_1 => ?_) (fun c_1 => ?_)
  · refine lv_iconst (v := bI (true)) hx hb dX5_isFree_28 (by decide) ?_
    exact zr_z hx hb hr hlocks (by rw [fre_y n (fun k hk => hno k (by omega))]) dX5_isFree_29
  · have hsi := hsl i (by omega)
    refine lv_aload_n hx hb dX5_isFree_10 rfl (lv_at hl 0 rfl) ?_
    refine va_get (D := D) (ci := 5) (v := .ref (gd 3)) (C := RX5) (T := TX5) (N := 26) hx hb hts iX5 hown hZ.1 hP 0 m0 rfl 3 (by decide) (hts (.fieldLink RX5 16 "TapeRoboticsModel" "slot" "[I") (by decide +kernel)) (fun _ h9 => h9) rfl dX5_isFree_11 ?_
    refine lv_iload_n hx hb dX5_isFree_14 rfl (lv_at hl 2 rfl) ?_
    refine va_iald hx hb hZ.1 hP 3 0 m3 rfl (vp_in_nI (show i < 8 by omega) (by omega)) dX5_isFree_15 ?_
    rw [nI_clamp (show i < 2 ^ 31 by omega)]
    refine lv_iload_n hx hb dX5_isFree_16 rfl (lv_at hl 1 rfl) ?_
    refine zc_ne (tgt := 22) hx hb (by omega) (by omega) dX5_isFree_17 (by decide) (fun c_2 => ?_) (fun c_2 => ?_)
    · refine lv_iinc (v := nI (i + 1)) (lv' := [(2, .int (nI (i + 1))), (0, .ref (gd 0)), (1, .int (nI (g)))]) hx hb dX5_isFree_22 hl (k := 2) rfl (zinc 1 _) (by decide) rfl (fun ls hl => ?_)
      refine lv_goto (tgt := 2) hx hb dX5_isFree_25 (by decide) ?_
      exact ih2 (i + 1) ls (by first | omega | (dsimp only; omega)) ⟨lv_sub hl [1, 2, 0] rfl, (fun k h1 => by
            by_cases e9 : k = i
            · rw [e9]; assumption
            · exact hno k (by omega)), by omega⟩
    · refine lv_iconst (v := bI (false)) hx hb dX5_isFree_20 (by decide) ?_
      exact zr_z hx hb hr hlocks (by rw [fre_n (by assumption) n (by omega)]) dX5_isFree_21

theorem fw_fin {fw jt : Nat → Int32} {fin : Nat → Bool} {k t : Nat} (h : fw k = if fin k then -1 else jt k) (ht : t < 2 ^ 31) (hf : fin k = true) : decide (fw k = nI t) = false := by
  rw [h, if_pos hf]; exact decide_eq_false (fun q => absurd ((oI_m1 (o := some t) (fun n9 h9 => by cases h9; exact ht)).mp q.symm) (fun h9 => by cases h9))
theorem fw_jt {fw jt : Nat → Int32} {fin : Nat → Bool} {k : Nat} {v : Int32} (h : fw k = if fin k then -1 else jt k) (hf : fin k = false) : decide (fw k = v) = decide (jt k = v) := by
  rw [h, hf]; rfl
set_option maxHeartbeats 4000000 in
set_option maxRecDepth 100000 in
theorem c_X5_waits (l : Launch) (D : va_G) (cA : Nat → ClassId) (ws : va_W) {gd : Nat → Nat} {n : Nat} {tr : Nat → Nat} {le : Nat → Nat} {sl : Nat → Nat} {mo : Nat → Option Nat} {la : Nat → Bool} {fc : Nat → Nat} {sf : Nat → Int32} {bf : Nat → Int32} {nd : Nat} {mk : Nat → Nat} {ck : Nat → Int32} {ct : Nat → Nat} {hd : Nat → Option Nat} {pf : Nat → Int32} {nj : Nat} {jt : Nat → Int32} {jf : Nat → Nat} {dl : Nat → Nat} {fin : Nat → Bool} {my : Nat} {fls : Nat → Int32} {fod : Nat → Int32} {fle : Nat → Int32} {fro : Nat → Int32} {th : Nat} (hm : mL cA ws gd n tr le sl mo la fc sf bf nd mk ck ct hd pf nj jt jf dl fin my fls fod fle fro th) (fw : Nat → Int32) (hfw : ∀ k, k < nj → fw k = if fin k then -1 else jt k) (k9 t9 : Nat) (hk9 : k9 < nj) (hj60 : nj ≤ 60) (ht9 : t9 < 2 ^ 31) : Met l yX5_waits wsX5_waits ({ frames := 0, cells := 0, slots := 0, locals := 0 }) (va_Pc [.ref (gd 0), .int (nI (k9)), .int (nI (t9))] (zS D cA ws)) (vp_Si (fun r => r = bI (decide (fw k9 = nI t9)))) 0 0 zF := by
  refine zOpen (cc := cX5_waits) (maxL := 3) (ret := (some .boolean)) (own := RX5) (by decide) rfl rfl (Nat.le_of_ble_eq_true rfl) ?_
  intro p e s m below meth c ls hx hb hr hml hts hown hlocks hnm ⟨hZ, hP⟩ hl
  have iX5 : ∀ w ∈ wsX50, w ∈ wsX5_waits := by decide +kernel
  have hl : lv_has ls 3 [(0, .ref (gd 0)), (1, .int (nI (k9))), (2, .int (nI (t9)))] := hl
  have hm0 := hm
  obtain ⟨m0, m1, m2, m3, m4, m5, m6, m7, m8, m9, m10, m11, m12, m13, m14, m15, m16, m17, m18, m19, m20, m21⟩ := hm
  refine lv_aload_n hx hb dX5_waits_0 rfl (lv_at hl 0 rfl) ?_
  refine va_get (D := D) (ci := 5) (v := .ref (gd 17)) (C := RX5) (T := TX5) (N := 26) hx hb hts iX5 hown hZ.1 hP 0 m0 rfl 19 (by decide) (hts (.fieldLink RX5 59 "TapeRoboticsModel" "finished" "[Z") (by decide +kernel)) (fun _ h9 => h9) rfl dX5_waits_1 ?_
  refine lv_iload_n hx hb dX5_waits_4 rfl (lv_at hl 1 rfl) ?_
  refine va_zald hx hb hZ.1 hP 17 3 m17 rfl (vp_in_nI (show k9 < 60 by omega) (by omega)) dX5_waits_5 ?_
  rw [nI_clamp (show k9 < 2 ^ 31 by omega)]
  refine zb_ne (tgt := 23) hx hb dX5_waits_6 (by decide) (fun c_1 => ?_) (fun c_1 => ?_)
  · refine lv_iconst (v := bI (false)) hx hb dX5_waits_23 (by decide) ?_
    exact zr_z hx hb hr hlocks (by first | (rw [fw_fin (hfw k9 hk9) ht9 (by assumption)]; done) | (rw [fw_jt (hfw k9 hk9) (by assumption), decide_eq_true (by assumption)]; done) | (rw [fw_jt (hfw k9 hk9) (by assumption), decide_eq_false (by assumption)])) dX5_waits_24
  · refine lv_aload_n hx hb dX5_waits_9 rfl (lv_at hl 0 rfl) ?_
    refine va_get (D := D) (ci := 5) (v := .ref (gd 14)) (C := RX5) (T := TX5) (N := 26) hx hb hts iX5 hown hZ.1 hP 0 m0 rfl 16 (by decide) (hts (.fieldLink RX5 50 "TapeRoboticsModel" "jobTape" "[I") (by decide +kernel)) (fun _ h9 => h9) rfl dX5_waits_10 ?_
    refine lv_iload_n hx hb dX5_waits_13 rfl (lv_at hl 1 rfl) ?_
    refine va_iald hx hb hZ.1 hP 14 0 m14 rfl (vp_in_nI (show k9 < 60 by omega) (by omega)) dX5_waits_14 ?_
    rw [nI_clamp (show k9 < 2 ^ 31 by omega)]
    refine lv_iload_n hx hb dX5_waits_15 rfl (lv_at hl 2 rfl) ?_
    refine lv_icmp_ne (tgt := 23) hx hb dX5_waits_16 (by decide) (fun c_2 => ?_) (fun c_2 => ?_)
    · refine lv_iconst (v := bI (false)) hx hb dX5_waits_23 (by decide) ?_
      exact zr_z hx hb hr hlocks (by first | (rw [fw_fin (hfw k9 hk9) ht9 (by assumption)]; done) | (rw [fw_jt (hfw k9 hk9) (by assumption), decide_eq_true (by assumption)]; done) | (rw [fw_jt (hfw k9 hk9) (by assumption), decide_eq_false (by assumption)])) dX5_waits_24
    · refine lv_iconst (v := bI (true)) hx hb dX5_waits_19 (by decide) ?_
      refine lv_goto (tgt := 24) hx hb dX5_waits_20 (by decide) ?_
      exact zr_z hx hb hr hlocks (by first | (rw [fw_fin (hfw k9 hk9) ht9 (by assumption)]; done) | (rw [fw_jt (hfw k9 hk9) (by assumption), decide_eq_true (by assumption)]; done) | (rw [fw_jt (hfw k9 hk9) (by assumption), decide_eq_false (by assumption)])) dX5_waits_24

set_option maxHeartbeats 4000000 in
set_option maxRecDepth 100000 in
theorem c_X5_waitingAt (l : Launch) (D : va_G) (cA : Nat → ClassId) (ws : va_W) {gd : Nat → Nat} {n : Nat} {tr : Nat → Nat} {le : Nat → Nat} {sl : Nat → Nat} {mo : Nat → Option Nat} {la : Nat → Bool} {fc : Nat → Nat} {sf : Nat → Int32} {bf : Nat → Int32} {nd : Nat} {mk : Nat → Nat} {ck : Nat → Int32} {ct : Nat → Nat} {hd : Nat → Option Nat} {pf : Nat → Int32} {nj : Nat} {jt : Nat → Int32} {jf : Nat → Nat} {dl : Nat → Nat} {fin : Nat → Bool} {my : Nat} {fls : Nat → Int32} {fod : Nat → Int32} {fle : Nat → Int32} {fro : Nat → Int32} {th : Nat} (hm : mL cA ws gd n tr le sl mo la fc sf bf nd mk ck ct hd pf nj jt jf dl fin my fls fod fle fro th) (fw : Nat → Int32) (hfw : ∀ k, k < nj → fw k = if fin k then -1 else jt k) (t9 : Nat) (hj60 : nj ≤ 60) (ht9 : t9 < 2 ^ 31) : Met l yX5_waitingAt wsX5_waitingAt ({ frames := 1, cells := 0, slots := 0, locals := 22 }) (va_Pc [.ref (gd 0), .int (nI (t9))] (zS D cA ws)) (vp_Si (fun r => r = nI ((wl fw (nI t9) nj).length))) 0 0 zF := by
  refine zOpen (cc := cX5_waitingAt) (maxL := 4) (ret := (some .int)) (own := RX5) (by decide) rfl rfl (Nat.le_of_ble_eq_true rfl) ?_
  intro p e s m below meth c ls hx hb hr hml hts hown hlocks hnm ⟨hZ, hP⟩ hl
  have iX5 : ∀ w ∈ wsX50, w ∈ wsX5_waitingAt := by decide +kernel
  have hl : lv_has ls 4 [(0, .ref (gd 0)), (1, .int (nI (t9)))] := hl
  have hm0 := hm
  obtain ⟨m0, m1, m2, m3, m4, m5, m6, m7, m8, m9, m10, m11, m12, m13, m14, m15, m16, m17, m18, m19, m20, m21⟩ := hm
  have hle := wl_le (f := fw) (x := nI t9)
  refine lv_iconst (v := nI (0)) hx hb dX5_waitingAt_0 (by decide) ?_
  refine lv_istore_n (lv' := [(2, .int (nI (0))), (0, .ref (gd 0)), (1, .int (nI (t9)))]) hx hb dX5_waitingAt_1 rfl hl (by decide) rfl (fun ls hl => ?_)
  refine lv_iconst (v := nI (0)) hx hb dX5_waitingAt_2 (by decide) ?_
  refine lv_istore_n (lv' := [(3, .int (nI (0))), (2, .int (nI (0))), (0, .ref (gd 0)), (1, .int (nI (t9)))]) hx hb dX5_waitingAt_3 rfl hl (by decide) rfl (fun ls hl => ?_)
  refine z_loop (α := Nat × Nat) (fun v => nj - v.1) (fun v ls => lv_has ls 4 [(0, .ref (gd 0)), (1, .int (nI (t9))), (3, .int (nI (v.1))), (2, .int (nI (v.2)))] ∧ v.2 = (wl fw (nI t9) v.1).length ∧ v.1 ≤ nj) (fun _ => []) (0, 0) ⟨lv_sub hl [2, 3, 0, 1] rfl, rfl, Nat.zero_le _⟩ ?_
  intro v ih4 ls hv
  obtain ⟨j, x⟩ := v
  obtain ⟨hl, hI⟩ := hv
  have hl : lv_has ls 4 [(0, .ref (gd 0)), (1, .int (nI (t9))), (3, .int (nI (j))), (2, .int (nI (x)))] := hl
  have hI : x = (wl fw (nI t9) j).length ∧ j ≤ nj := hI
  obtain ⟨hx1, hj⟩ := hI
  have hxl := hle j
  refine lv_iload_n hx hb dX5_waitingAt_4 rfl (lv_at hl 2 rfl) ?_
  refine lv_aload_n hx hb dX5_waitingAt_5 rfl (lv_at hl 0 rfl) ?_
  refine va_get (D := D) (ci := 5) (v := .int (nI (nj))) (C := RX5) (T := TX5) (N := 26) hx hb hts iX5 hown hZ.1 hP 0 m0 rfl 15 (by decide) (hts (.fieldLink RX5 144 "TapeRoboticsModel" "jobs" "I") (by decide +kernel)) (fun _ h9 => h9) rfl dX5_waitingAt_6 ?_
  refine zc_ge (tgt := 35) hx hb (by omega) (by omega) dX5_waitingAt_9 (by decide) (fun c_1 => ?_) (fun c_1 => ?_)
  · refine lv_iload_n hx hb dX5_waitingAt_35 rfl (lv_at hl 3 rfl) ?_
    exact zr_i hx hb hr hlocks (by rw [hx1, show j = nj by omega]) dX5_waitingAt_36
  · refine lv_iload_n hx hb dX5_waitingAt_12 rfl (lv_at hl 3 rfl) ?_
    refine lv_aload_n hx hb dX5_waitingAt_13 rfl (lv_at hl 0 rfl) ?_
    refine lv_iload_n hx hb dX5_waitingAt_14 rfl (lv_at hl 2 rfl) ?_
    refine lv_iload_n hx hb dX5_waitingAt_15 rfl (lv_at hl 1 rfl) ?_
    refine zk_V_i (n := 2) (As := [.int (nI (j)), .int (nI (t9))]) (rest := [.int (nI (x))]) hx hb hml hts hown hZ hP (c_X5_waits l D cA _ hm0 fw hfw j t9 (by omega) (by omega) (by omega)) gX5_waitingAt_X5_waits rfl rfl ⟨rfl, rfl⟩ ⟨by decide +kernel, Nat.le_of_ble_eq_true rfl, Nat.le_of_ble_eq_true rfl⟩ m0 rfl hl.1 rfl (Nat.le_of_ble_eq_true rfl) ⟨Nat.le_of_ble_eq_true rfl, Nat.le_of_ble_eq_true rfl⟩ rfl dX5_waitingAt_16 (fun r_2 hr_3 => ?_)
    obtain rfl := show r_2 = _ from hr_3
    refine zb_eq (tgt := 26) hx hb dX5_waitingAt_19 (by decide) (fun c_4 => ?_) (fun c_4 => ?_)
    · refine lv_iconst (v := nI (0)) hx hb dX5_waitingAt_26 (by decide) ?_
      refine zo_add hx hb dX5_waitingAt_27 ?_
      refine lv_istore_n (lv' := [(2, .int (nI (x + 0))), (0, .ref (gd 0)), (1, .int (nI (t9))), (3, .int (nI (j)))]) hx hb dX5_waitingAt_28 rfl hl (by decide) rfl (fun ls hl => ?_)
      refine lv_iinc (v := nI (j + 1)) (lv' := [(3, .int (nI (j + 1))), (2, .int (nI (x + 0))), (0, .ref (gd 0)), (1, .int (nI (t9)))]) hx hb dX5_waitingAt_29 hl (k := 3) rfl (zinc 1 _) (by decide) rfl (fun ls hl => ?_)
      refine lv_goto (tgt := 4) hx hb dX5_waitingAt_32 (by decide) ?_
      exact ih4 (j + 1, x + 0) ls (by first | omega | (dsimp only; omega)) ⟨lv_sub hl [2, 3, 0, 1] rfl, by show _ = _; rw [wl_n (of_decide_eq_false (by assumption))]; exact hx1, by omega⟩
    · refine lv_iconst (v := nI (1)) hx hb dX5_waitingAt_22 (by decide) ?_
      refine lv_goto (tgt := 27) hx hb dX5_waitingAt_23 (by decide) ?_
      refine zo_add hx hb dX5_waitingAt_27 ?_
      refine lv_istore_n (lv' := [(2, .int (nI (x + 1))), (0, .ref (gd 0)), (1, .int (nI (t9))), (3, .int (nI (j)))]) hx hb dX5_waitingAt_28 rfl hl (by decide) rfl (fun ls hl => ?_)
      refine lv_iinc (v := nI (j + 1)) (lv' := [(3, .int (nI (j + 1))), (2, .int (nI (x + 1))), (0, .ref (gd 0)), (1, .int (nI (t9)))]) hx hb dX5_waitingAt_29 hl (k := 3) rfl (zinc 1 _) (by decide) rfl (fun ls hl => ?_)
      refine lv_goto (tgt := 4) hx hb dX5_waitingAt_32 (by decide) ?_
      exact ih4 (j + 1, x + 1) ls (by first | omega | (dsimp only; omega)) ⟨lv_sub hl [2, 3, 0, 1] rfl, by show _ = _; rw [wl_y (of_decide_eq_true (by assumption)), List.length_append, ← hx1]; rfl, by omega⟩

/-- the earliest deadline, from 100000 on -/
def erm (f : Nat → Int32) (x : Int32) (d : Nat → Nat) : Nat → Nat
  | 0 => 100000
  | k + 1 => if f k = x ∧ d k < erm f x d k then d k else erm f x d k
theorem erm_le {f : Nat → Int32} {x : Int32} {d : Nat → Nat} : ∀ k, erm f x d k ≤ 100000
  | 0 => Nat.le_refl _
  | k + 1 => by
    have := erm_le (f := f) (x := x) (d := d) k
    rw [erm]; split <;> omega
set_option maxHeartbeats 4000000 in
set_option maxRecDepth 100000 in
theorem c_X5_earliest (l : Launch) (D : va_G) (cA : Nat → ClassId) (ws : va_W) {gd : Nat → Nat} {n : Nat} {tr : Nat → Nat} {le : Nat → Nat} {sl : Nat → Nat} {mo : Nat → Option Nat} {la : Nat → Bool} {fc : Nat → Nat} {sf : Nat → Int32} {bf : Nat → Int32} {nd : Nat} {mk : Nat → Nat} {ck : Nat → Int32} {ct : Nat → Nat} {hd : Nat → Option Nat} {pf : Nat → Int32} {nj : Nat} {jt : Nat → Int32} {jf : Nat → Nat} {dl : Nat → Nat} {fin : Nat → Bool} {my : Nat} {fls : Nat → Int32} {fod : Nat → Int32} {fle : Nat → Int32} {fro : Nat → Int32} {th : Nat} (hm : mL cA ws gd n tr le sl mo la fc sf bf nd mk ck ct hd pf nj jt jf dl fin my fls fod fle fro th) (fw : Nat → Int32) (hfw : ∀ k, k < nj → fw k = if fin k then -1 else jt k) (t9 : Nat) (hj60 : nj ≤ 60) (ht9 : t9 < 2 ^ 31) (hdl : ∀ k, dl k ≤ 99999) : Met l yX5_earliest wsX5_earliest ({ frames := 1, cells := 0, slots := 0, locals := 22 }) (va_Pc [.ref (gd 0), .int (nI (t9))] (zS D cA ws)) (vp_Si (fun r => r = nI (erm fw (nI t9) dl nj))) 0 0 zF := by
  refine zOpen (cc := cX5_earliest) (maxL := 4) (ret := (some .int)) (own := RX5) (by decide) rfl rfl (Nat.le_of_ble_eq_true rfl) ?_
  intro p e s m below meth c ls hx hb hr hml hts hown hlocks hnm ⟨hZ, hP⟩ hl
  have iX5 : ∀ w ∈ wsX50, w ∈ wsX5_earliest := by decide +kernel
  have hl : lv_has ls 4 [(0, .ref (gd 0)), (1, .int (nI (t9)))] := hl
  have hm0 := hm
  obtain ⟨m0, m1, m2, m3, m4, m5, m6, m7, m8, m9, m10, m11, m12, m13, m14, m15, m16, m17, m18, m19, m20, m21⟩ := hm
  refine lv_ldc (v := nI 100000) hx hb hown (hts (.constant RX5 154 100000) (by decide +kernel)) dX5_earliest_0 ?_
  refine lv_istore_n (lv' := [(2, .int (nI (100000))), (0, .ref (gd 0)), (1, .int (nI (t9)))]) hx hb dX5_earliest_2 rfl hl (by decide) rfl (fun ls hl => ?_)
  refine lv_iconst (v := nI (0)) hx hb dX5_earliest_3 (by decide) ?_
  refine lv_istore_n (lv' := [(3, .int (nI (0))), (2, .int (nI (100000))), (0, .ref (gd 0)), (1, .int (nI (t9)))]) hx hb dX5_earliest_4 rfl hl (by decide) rfl (fun ls hl => ?_)
  refine z_loop (α := Nat × Nat) (fun v => nj - v.1) (fun v ls => lv_has ls 4 [(0, .ref (gd 0)), (1, .int (nI (t9))), (3, .int (nI (v.1))), (2, .int (nI (v.2)))] ∧ v.2 = erm fw (nI t9) dl v.1 ∧ v.1 ≤ nj) (fun _ => []) (0, 100000) ⟨lv_sub hl [2, 3, 0, 1] rfl, rfl, Nat.zero_le _⟩ ?_
  intro v ih5 ls hv
  obtain ⟨j, x⟩ := v
  obtain ⟨hl, hI⟩ := hv
  have hl : lv_has ls 4 [(0, .ref (gd 0)), (1, .int (nI (t9))), (3, .int (nI (j))), (2, .int (nI (x)))] := hl
  have hI : x = erm fw (nI t9) dl j ∧ j ≤ nj := hI
  obtain ⟨hx1, hj⟩ := hI
  have hxl : x ≤ 100000 := by rw [hx1]; exact erm_le j
  have hdj := hdl j
  refine lv_iload_n hx hb dX5_earliest_5 rfl (lv_at hl 2 rfl) ?_
  refine lv_aload_n hx hb dX5_earliest_6 rfl (lv_at hl 0 rfl) ?_
  refine va_get (D := D) (ci := 5) (v := .int (nI (nj))) (C := RX5) (T := TX5) (N := 26) hx hb hts iX5 hown hZ.1 hP 0 m0 rfl 15 (by decide) (hts (.fieldLink RX5 144 "TapeRoboticsModel" "jobs" "I") (by decide +kernel)) (fun _ h9 => h9) rfl dX5_earliest_7 ?_
  refine zc_ge (tgt := 49) hx hb (by omega) (by omega) dX5_earliest_10 (by decide) (fun c_1 => ?_) (fun c_1 => ?_)
  · refine lv_iload_n hx hb dX5_earliest_49 rfl (lv_at hl 3 rfl) ?_
    exact zr_i hx hb hr hlocks (by rw [hx1, show j = nj by omega]) dX5_earliest_50
  · refine lv_aload_n hx hb dX5_earliest_13 rfl (lv_at hl 0 rfl) ?_
    refine lv_iload_n hx hb dX5_earliest_14 rfl (lv_at hl 2 rfl) ?_
    refine lv_iload_n hx hb dX5_earliest_15 rfl (lv_at hl 1 rfl) ?_
    refine zk_V_i (n := 2) (As := [.int (nI (j)), .int (nI (t9))]) (rest := []) hx hb hml hts hown hZ hP (c_X5_waits l D cA _ hm0 fw hfw j t9 (by omega) (by omega) (by omega)) gX5_earliest_X5_waits rfl rfl ⟨rfl, rfl⟩ ⟨by decide +kernel, Nat.le_of_ble_eq_true rfl, Nat.le_of_ble_eq_true rfl⟩ m0 rfl hl.1 rfl (Nat.le_of_ble_eq_true rfl) ⟨Nat.le_of_ble_eq_true rfl, Nat.le_of_ble_eq_true rfl⟩ rfl dX5_earliest_16 (fun r_2 hr_3 => ?_)
    obtain rfl := show r_2 = _ from hr_3
    refine zb_eq (tgt := 41) hx hb dX5_earliest_19 (by decide) (fun c_4 => ?_) (fun c_4 => ?_)
    · refine lv_iload_n hx hb dX5_earliest_41 rfl (lv_at hl 3 rfl) ?_
      refine lv_istore_n (lv' := [(2, .int (nI (x))), (0, .ref (gd 0)), (1, .int (nI (t9))), (3, .int (nI (j)))]) hx hb dX5_earliest_42 rfl hl (by decide) rfl (fun ls hl => ?_)
      refine lv_iinc (v := nI (j + 1)) (lv' := [(3, .int (nI (j + 1))), (2, .int (nI (x))), (0, .ref (gd 0)), (1, .int (nI (t9)))]) hx hb dX5_earliest_43 hl (k := 3) rfl (zinc 1 _) (by decide) rfl (fun ls hl => ?_)
      refine lv_goto (tgt := 5) hx hb dX5_earliest_46 (by decide) ?_
      exact ih5 (j + 1, x) ls (by first | omega | (dsimp only; omega)) ⟨lv_sub hl [2, 3, 0, 1] rfl, by show _ = _; rw [erm, ← hx1]; first | (rw [if_pos ⟨of_decide_eq_true (by assumption), by omega⟩]; done) | (rw [if_neg (fun q => by first | exact absurd q.1 (of_decide_eq_false (by assumption)) | omega)]), by omega⟩
    · refine lv_aload_n hx hb dX5_earliest_22 rfl (lv_at hl 0 rfl) ?_
      refine va_get (D := D) (ci := 5) (v := .ref (gd 16)) (C := RX5) (T := TX5) (N := 26) hx hb hts iX5 hown hZ.1 hP 0 m0 rfl 18 (by decide) (hts (.fieldLink RX5 56 "TapeRoboticsModel" "deadline" "[I") (by decide +kernel)) (fun _ h9 => h9) rfl dX5_earliest_23 ?_
      refine lv_iload_n hx hb dX5_earliest_26 rfl (lv_at hl 2 rfl) ?_
      refine va_iald hx hb hZ.1 hP 16 0 m16 rfl (vp_in_nI (show j < 60 by omega) (by omega)) dX5_earliest_27 ?_
      rw [nI_clamp (show j < 2 ^ 31 by omega)]
      refine lv_iload_n hx hb dX5_earliest_28 rfl (lv_at hl 3 rfl) ?_
      refine zc_ge (tgt := 41) hx hb (by omega) (by omega) dX5_earliest_29 (by decide) (fun c_5 => ?_) (fun c_5 => ?_)
      · refine lv_iload_n hx hb dX5_earliest_41 rfl (lv_at hl 3 rfl) ?_
        refine lv_istore_n (lv' := [(2, .int (nI (x))), (0, .ref (gd 0)), (1, .int (nI (t9))), (3, .int (nI (j)))]) hx hb dX5_earliest_42 rfl hl (by decide) rfl (fun ls hl => ?_)
        refine lv_iinc (v := nI (j + 1)) (lv' := [(3, .int (nI (j + 1))), (2, .int (nI (x))), (0, .ref (gd 0)), (1, .int (nI (t9)))]) hx hb dX5_earliest_43 hl (k := 3) rfl (zinc 1 _) (by decide) rfl (fun ls hl => ?_)
        refine lv_goto (tgt := 5) hx hb dX5_earliest_46 (by decide) ?_
        exact ih5 (j + 1, x) ls (by first | omega | (dsimp only; omega)) ⟨lv_sub hl [2, 3, 0, 1] rfl, by show _ = _; rw [erm, ← hx1]; first | (rw [if_pos ⟨of_decide_eq_true (by assumption), by omega⟩]; done) | (rw [if_neg (fun q => by first | exact absurd q.1 (of_decide_eq_false (by assumption)) | omega)]), by omega⟩
      · refine lv_aload_n hx hb dX5_earliest_32 rfl (lv_at hl 0 rfl) ?_
        refine va_get (D := D) (ci := 5) (v := .ref (gd 16)) (C := RX5) (T := TX5) (N := 26) hx hb hts iX5 hown hZ.1 hP 0 m0 rfl 18 (by decide) (hts (.fieldLink RX5 56 "TapeRoboticsModel" "deadline" "[I") (by decide +kernel)) (fun _ h9 => h9) rfl dX5_earliest_33 ?_
        refine lv_iload_n hx hb dX5_earliest_36 rfl (lv_at hl 2 rfl) ?_
        refine va_iald hx hb hZ.1 hP 16 0 m16 rfl (vp_in_nI (show j < 60 by omega) (by omega)) dX5_earliest_37 ?_
        rw [nI_clamp (show j < 2 ^ 31 by omega)]
        refine lv_goto (tgt := 42) hx hb dX5_earliest_38 (by decide) ?_
        refine lv_istore_n (lv' := [(2, .int (nI (dl j))), (0, .ref (gd 0)), (1, .int (nI (t9))), (3, .int (nI (j)))]) hx hb dX5_earliest_42 rfl hl (by decide) rfl (fun ls hl => ?_)
        refine lv_iinc (v := nI (j + 1)) (lv' := [(3, .int (nI (j + 1))), (2, .int (nI (dl j))), (0, .ref (gd 0)), (1, .int (nI (t9)))]) hx hb dX5_earliest_43 hl (k := 3) rfl (zinc 1 _) (by decide) rfl (fun ls hl => ?_)
        refine lv_goto (tgt := 5) hx hb dX5_earliest_46 (by decide) ?_
        exact ih5 (j + 1, dl j) ls (by first | omega | (dsimp only; omega)) ⟨lv_sub hl [2, 3, 0, 1] rfl, by show _ = _; rw [erm, ← hx1]; first | (rw [if_pos ⟨of_decide_eq_true (by assumption), by omega⟩]; done) | (rw [if_neg (fun q => by first | exact absurd q.1 (of_decide_eq_false (by assumption)) | omega)]), by omega⟩

set_option maxHeartbeats 4000000 in
set_option maxRecDepth 100000 in
theorem c_X5_unlabelled (l : Launch) (D : va_G) (cA : Nat → ClassId) (ws : va_W) {gd : Nat → Nat} {n : Nat} {tr : Nat → Nat} {le : Nat → Nat} {sl : Nat → Nat} {mo : Nat → Option Nat} {la : Nat → Bool} {fc : Nat → Nat} {sf : Nat → Int32} {bf : Nat → Int32} {nd : Nat} {mk : Nat → Nat} {ck : Nat → Int32} {ct : Nat → Nat} {hd : Nat → Option Nat} {pf : Nat → Int32} {nj : Nat} {jt : Nat → Int32} {jf : Nat → Nat} {dl : Nat → Nat} {fin : Nat → Bool} {my : Nat} {fls : Nat → Int32} {fod : Nat → Int32} {fle : Nat → Int32} {fro : Nat → Int32} {th : Nat} (hm : mL cA ws gd n tr le sl mo la fc sf bf nd mk ck ct hd pf nj jt jf dl fin my fls fod fle fro th) (hn8 : n ≤ 8) : Met l yX5_unlabelled wsX5_unlabelled ({ frames := 0, cells := 0, slots := 0, locals := 0 }) (va_Pc [.ref (gd 0)] (zS D cA ws)) (vp_Si (fun r => r = nI (cnt (fun i => !la i) n))) 0 0 zF := by
  refine zOpen (cc := cX5_unlabelled) (maxL := 3) (ret := (some .int)) (own := RX5) (by decide) rfl rfl (Nat.le_of_ble_eq_true rfl) ?_
  intro p e s m below meth c ls hx hb hr hml hts hown hlocks hnm ⟨hZ, hP⟩ hl
  have iX5 : ∀ w ∈ wsX50, w ∈ wsX5_unlabelled := by decide +kernel
  have hl : lv_has ls 3 [(0, .ref (gd 0))] := hl
  have hm0 := hm
  obtain ⟨m0, m1, m2, m3, m4, m5, m6, m7, m8, m9, m10, m11, m12, m13, m14, m15, m16, m17, m18, m19, m20, m21⟩ := hm
  refine lv_iconst (v := nI (0)) hx hb dX5_unlabelled_0 (by decide) ?_
  refine lv_istore_n (lv' := [(1, .int (nI (0))), (0, .ref (gd 0))]) hx hb dX5_unlabelled_1 rfl hl (by decide) rfl (fun ls hl => ?_)
  refine lv_iconst (v := nI (0)) hx hb dX5_unlabelled_2 (by decide) ?_
  refine lv_istore_n (lv' := [(2, .int (nI (0))), (1, .int (nI (0))), (0, .ref (gd 0))]) hx hb dX5_unlabelled_3 rfl hl (by decide) rfl (fun ls hl => ?_)
  refine z_loop (α := Nat × Nat) (fun v => n - v.1) (fun v ls => lv_has ls 3 [(0, .ref (gd 0)), (2, .int (nI (v.1))), (1, .int (nI (v.2)))] ∧ v.2 = cnt (fun q9 => !la q9) v.1 ∧ v.1 ≤ n ∧ v.2 ≤ v.1) (fun _ => []) (0, 0) ⟨lv_sub hl [2, 0, 1] rfl, rfl, Nat.zero_le _, Nat.le_refl _⟩ ?_
  intro v ih4 ls hv
  obtain ⟨i, x⟩ := v
  obtain ⟨hl, hI⟩ := hv
  have hl : lv_has ls 3 [(0, .ref (gd 0)), (2, .int (nI (i))), (1, .int (nI (x)))] := hl
  have hI : x = cnt (fun q9 => !la q9) i ∧ i ≤ n ∧ x ≤ i := hI
  obtain ⟨hx1, hin, hxi⟩ := hI
  refine lv_iload_n hx hb dX5_unlabelled_4 rfl (lv_at hl 1 rfl) ?_
  refine lv_aload_n hx hb dX5_unlabelled_5 rfl (lv_at hl 0 rfl) ?_
  refine va_get (D := D) (ci := 5) (v := .int (nI (n))) (C := RX5) (T := TX5) (N := 26) hx hb hts iX5 hown hZ.1 hP 0 m0 rfl 0 (by decide) (hts (.fieldLink RX5 78 "TapeRoboticsModel" "tapes" "I") (by decide +kernel)) (fun _ h9 => h9) rfl dX5_unlabelled_6 ?_
  refine zc_ge (tgt := 35) hx hb (by omega) (by omega) dX5_unlabelled_9 (by decide) (fun c_1 => ?_) (fun c_1 => ?_)
  · refine lv_iload_n hx hb dX5_unlabelled_35 rfl (lv_at hl 2 rfl) ?_
    exact zr_i hx hb hr hlocks (by rw [hx1, show i = n by omega]) dX5_unlabelled_36
  · refine lv_iload_n hx hb dX5_unlabelled_12 rfl (lv_at hl 2 rfl) ?_
    refine lv_aload_n hx hb dX5_unlabelled_13 rfl (lv_at hl 0 rfl) ?_
    refine va_get (D := D) (ci := 5) (v := .ref (gd 5)) (C := RX5) (T := TX5) (N := 26) hx hb hts iX5 hown hZ.1 hP 0 m0 rfl 5 (by decide) (hts (.fieldLink RX5 22 "TapeRoboticsModel" "lost" "[Z") (by decide +kernel)) (fun _ h9 => h9) rfl dX5_unlabelled_14 ?_
    refine lv_iload_n hx hb dX5_unlabelled_17 rfl (lv_at hl 1 rfl) ?_
    refine va_zald hx hb hZ.1 hP 5 3 m5 rfl (vp_in_nI (show i < 8 by omega) (by omega)) dX5_unlabelled_18 ?_
    rw [nI_clamp (show i < 2 ^ 31 by omega)]
    refine zb_eq (tgt := 26) hx hb dX5_unlabelled_19 (by decide) (fun c_2 => ?_) (fun c_2 => ?_)
    · refine lv_iconst (v := nI (0)) hx hb dX5_unlabelled_26 (by decide) ?_
      refine zo_add hx hb dX5_unlabelled_27 ?_
      refine lv_istore_n (lv' := [(1, .int (nI (x + 0))), (0, .ref (gd 0)), (2, .int (nI (i)))]) hx hb dX5_unlabelled_28 rfl hl (by decide) rfl (fun ls hl => ?_)
      refine lv_iinc (v := nI (i + 1)) (lv' := [(2, .int (nI (i + 1))), (1, .int (nI (x + 0))), (0, .ref (gd 0))]) hx hb dX5_unlabelled_29 hl (k := 2) rfl (zinc 1 _) (by decide) rfl (fun ls hl => ?_)
      refine lv_goto (tgt := 4) hx hb dX5_unlabelled_32 (by decide) ?_
      exact ih4 (i + 1, x + 0) ls (by first | omega | (dsimp only; omega)) ⟨lv_sub hl [2, 0, 1] rfl, by show _ = _; rw [cnt, ← hx1, show (!la i) = false by assumption]; rfl, by omega, by omega⟩
    · refine lv_iconst (v := nI (1)) hx hb dX5_unlabelled_22 (by decide) ?_
      refine lv_goto (tgt := 27) hx hb dX5_unlabelled_23 (by decide) ?_
      refine zo_add hx hb dX5_unlabelled_27 ?_
      refine lv_istore_n (lv' := [(1, .int (nI (x + 1))), (0, .ref (gd 0)), (2, .int (nI (i)))]) hx hb dX5_unlabelled_28 rfl hl (by decide) rfl (fun ls hl => ?_)
      refine lv_iinc (v := nI (i + 1)) (lv' := [(2, .int (nI (i + 1))), (1, .int (nI (x + 1))), (0, .ref (gd 0))]) hx hb dX5_unlabelled_29 hl (k := 2) rfl (zinc 1 _) (by decide) rfl (fun ls hl => ?_)
      refine lv_goto (tgt := 4) hx hb dX5_unlabelled_32 (by decide) ?_
      exact ih4 (i + 1, x + 1) ls (by first | omega | (dsimp only; omega)) ⟨lv_sub hl [2, 0, 1] rfl, by show _ = _; rw [cnt, ← hx1, show (!la i) = true by assumption]; rfl, by omega, by omega⟩

