set_option maxHeartbeats 4000000 in
set_option maxRecDepth 100000 in
theorem c_X4_isFree (l : Launch) (D : va_G) (cA : Nat → ClassId) (ws : va_W) (k0 h0 ta n da nd jj oo : Nat) (hk : ws[k0]? = some (h0, zTR ta n da nd jj oo)) (kt : Nat) (T : Nat → Nat) (hkt : ws[kt]? = some (ta, zRefs cA 1 8 (rng n T))) (hn8 : n ≤ 8) (PT : Nat → Nat) (tr le sl : Nat → Nat) (mo : Nat → Option Nat) (la : Nat → Bool) (fc : Nat → Nat) (Bd : Nat → Nat) (hT : ∀ i, i < n → ws[PT i]? = some (T i, zTape i (tr i) (le i) (sl i) (mo i) (la i) (fc i) (Bd i))) (hsl : ∀ i, i < n → sl i < 12) (g : Nat) (hg : g < 2 ^ 31) : Met l yX4_isFree wsX4_isFree ({ frames := 0, cells := 0, slots := 0, locals := 0 }) (va_Pc [.ref h0, .int (nI (g))] (zS D cA ws)) (vp_Si (fun r => r = bI (fre sl g n))) 0 0 zF := by
  refine zOpen (cc := cX4_isFree) (maxL := 6) (ret := (some .boolean)) (own := RX4) (by decide) rfl rfl (Nat.le_of_ble_eq_true rfl) ?_
  intro p e s m below meth c ls hx hb hr hml hts hown hlocks hnm ⟨hZ, hP⟩ hl
  have iX4 : ∀ w ∈ wsX40, w ∈ wsX4_isFree := by decide +kernel
  have iX3 : ∀ w ∈ wsX30, w ∈ wsX4_isFree := by decide +kernel
  have hl : lv_has ls 6 [(0, .ref h0), (1, .int (nI (g)))] := hl
  refine lv_aload_n hx hb dX4_isFree_0 rfl (lv_at hl 0 rfl) ?_
  refine va_get (D := D) (ci := 4) (v := .ref ta) (C := RX4) (T := TX4) (N := 6) hx hb hts iX4 hown hZ.1 hP k0 hk rfl 0 (by decide) (hts (.fieldLink RX4 11 "TapeRobotics" "tapes" "[LTapeRobotics$Tape;") (by decide +kernel)) (fun _ h9 => h9) rfl dX4_isFree_1 ?_
  refine lv_astore_n (lv' := [(2, .ref ta), (0, .ref h0), (1, .int (nI (g)))]) hx hb dX4_isFree_4 rfl hl (by decide) rfl (fun ls hl => ?_)
  refine lv_aload_n hx hb dX4_isFree_5 rfl (lv_at hl 0 rfl) ?_
  refine va_alen (v := nI (8)) hx hb hZ.1 hP kt 1 hkt rfl rfl dX4_isFree_6 ?_
  refine lv_istore_n (lv' := [(3, .int (nI (8))), (2, .ref ta), (0, .ref h0), (1, .int (nI (g)))]) hx hb dX4_isFree_7 rfl hl (by decide) rfl (fun ls hl => ?_)
  refine lv_iconst (v := nI (0)) hx hb dX4_isFree_8 (by decide) ?_
  refine lv_istore (lv' := [(4, .int (nI (0))), (3, .int (nI (8))), (2, .ref ta), (0, .ref h0), (1, .int (nI (g)))]) hx hb dX4_isFree_9 hl (by decide) rfl (fun ls hl => ?_)
  refine z_loop (α := Nat) (fun v => 8 - v) (fun v ls => lv_has ls 6 [(0, .ref h0), (1, .int (nI (g))), (2, .ref ta), (3, .int (nI (8))), (4, .int (nI (v)))] ∧ (∀ k, k < v → k < n → sl k ≠ g) ∧ v ≤ 8) (fun _ => []) (0) ⟨lv_sub hl [3, 4, 2, 1, 0] rfl, (fun k h => absurd h (Nat.not_lt_zero k)), Nat.zero_le _⟩ ?_
  intro v ih11 ls hv
  obtain ⟨i, rfl⟩ : ∃ z, z = v := ⟨_, rfl⟩
  obtain ⟨hl, hI⟩ := hv
  have hl : lv_has ls 6 [(0, .ref h0), (1, .int (nI (g))), (2, .ref ta), (3, .int (nI (8))), (4, .int (nI (i)))] := hl
  have hI : (∀ k, k < i → k < n → sl k ≠ g) ∧ i ≤ 8 := hI
  obtain ⟨hno, hi8⟩ := hI
  refine lv_iload hx hb dX4_isFree_11 (lv_at hl 4 rfl) ?_
  refine lv_iload_n hx hb dX4_isFree_13 rfl (lv_at hl 3 rfl) ?_
  refine zc_ge (tgt := 45) hx hb (by omega) (by omega) dX4_isFree_14 (by decide) (fun c_1 => ?_) (fun c_1 => ?_)
  · refine lv_iconst (v := bI (true)) hx hb dX4_isFree_45 (by decide) ?_
    exact zr_z hx hb hr hlocks (by rw [fre_y n (fun k hk => hno k (by omega) hk)]) dX4_isFree_46
  · by_cases hin : i < n
    · refine lv_aload_n hx hb dX4_isFree_17 rfl (lv_at hl 2 rfl) ?_
      refine lv_iload hx hb dX4_isFree_18 (lv_at hl 4 rfl) ?_
      refine va_aldq hx hb hZ.1 hP kt 1 hkt rfl (vp_in_nI (show i < 8 by omega) (by omega)) dX4_isFree_20 ?_
      rw [nI_clamp (show i < 2 ^ 31 by omega)]
      refine zx_v (b := .ref (T i)) (by rw [rng_in hin]; rfl) ?_
      refine lv_astore (lv' := [(5, .ref (T i)), (0, .ref h0), (1, .int (nI (g))), (2, .ref ta), (3, .int (nI (8))), (4, .int (nI (i)))]) hx hb dX4_isFree_21 hl (by decide) rfl (fun ls hl => ?_)
      refine lv_aload hx hb dX4_isFree_23 (lv_at hl 0 rfl) ?_
      refine lv_ifnull hx hb dX4_isFree_25 ?_
      have hsi := hsl i hin
      refine lv_aload hx hb dX4_isFree_28 (lv_at hl 0 rfl) ?_
      refine va_getN (D := D) (ci := 3) (v := .int (nI (sl i))) (C := RX3) (T := TX3) (N := 8) hx hb hts iX3 hown hZ.1 hP (PT i) (hT i hin) rfl 3 (by decide) (va_Nw.use rfl (hZ.2 (.fieldLinkNest RX4 82 RX3 "slot" "I" "TapeRobotics") (List.mem_of_getElem? (i := 47) rfl))) (fun _ h9 => h9) rfl dX4_isFree_30 ?_
      refine lv_iload_n hx hb dX4_isFree_33 rfl (lv_at hl 2 rfl) ?_
      refine zc_ne (tgt := 39) hx hb (by omega) (by omega) dX4_isFree_34 (by decide) (fun c_2 => ?_) (fun c_2 => ?_)
      · refine lv_iinc (v := nI (i + 1)) (lv' := [(4, .int (nI (i + 1))), (5, .ref (T i)), (0, .ref h0), (1, .int (nI (g))), (2, .ref ta), (3, .int (nI (8)))]) hx hb dX4_isFree_39 hl (k := 5) rfl (zinc 1 _) (by decide) rfl (fun ls hl => ?_)
        refine lv_goto (tgt := 11) hx hb dX4_isFree_42 (by decide) ?_
        exact ih11 (i + 1) ls (by first | omega | (dsimp only; omega)) ⟨lv_sub hl [2, 3, 4, 5, 0] rfl, (fun k h1 h2 => by
              by_cases e9 : k = i
              · rw [e9]; assumption
              · exact hno k (by omega) h2), by omega⟩
      · refine lv_iconst (v := bI (false)) hx hb dX4_isFree_37 (by decide) ?_
        exact zr_z hx hb hr hlocks (by rw [fre_n (by assumption) n hin]) dX4_isFree_38
    · refine lv_aload_n hx hb dX4_isFree_17 rfl (lv_at hl 2 rfl) ?_
      refine lv_iload hx hb dX4_isFree_18 (lv_at hl 4 rfl) ?_
      refine va_aldq hx hb hZ.1 hP kt 1 hkt rfl (vp_in_nI (show i < 8 by omega) (by omega)) dX4_isFree_20 ?_
      rw [nI_clamp (show i < 2 ^ 31 by omega)]
      refine zx_v (b := .null) (by rw [rng_out hin]; rfl) ?_
      refine lv_astoreN (lv' := [(5, .null), (0, .ref h0), (1, .int (nI (g))), (2, .ref ta), (3, .int (nI (8))), (4, .int (nI (i)))]) hx hb dX4_isFree_21 hl (by decide) rfl (fun ls hl => ?_)
      refine lv_aloadN hx hb dX4_isFree_23 (lv_at hl 0 rfl) ?_
      refine lv_ifnullN (tgt := 39) hx hb dX4_isFree_25 (by decide) ?_
      refine lv_iinc (v := nI (i + 1)) (lv' := [(4, .int (nI (i + 1))), (5, .null), (0, .ref h0), (1, .int (nI (g))), (2, .ref ta), (3, .int (nI (8)))]) hx hb dX4_isFree_39 hl (k := 5) rfl (zinc 1 _) (by decide) rfl (fun ls hl => ?_)
      refine lv_goto (tgt := 11) hx hb dX4_isFree_42 (by decide) ?_
      exact ih11 (i + 1) ls (by first | omega | (dsimp only; omega)) ⟨lv_sub hl [2, 3, 4, 5, 0] rfl, (fun k h1 h2 => hno k (by omega) h2), by omega⟩

set_option maxHeartbeats 4000000 in
set_option maxRecDepth 100000 in
theorem c_X4_lowestFreeSlot (l : Launch) (D : va_G) (cA : Nat → ClassId) (ws : va_W) (k0 h0 ta n da nd jj oo : Nat) (hk : ws[k0]? = some (h0, zTR ta n da nd jj oo)) (kt : Nat) (T : Nat → Nat) (hkt : ws[kt]? = some (ta, zRefs cA 1 8 (rng n T))) (hn8 : n ≤ 8) (PT : Nat → Nat) (tr le sl : Nat → Nat) (mo : Nat → Option Nat) (la : Nat → Bool) (fc : Nat → Nat) (Bd : Nat → Nat) (hT : ∀ i, i < n → ws[PT i]? = some (T i, zTape i (tr i) (le i) (sl i) (mo i) (la i) (fc i) (Bd i))) (hsl : ∀ i, i < n → sl i < 12) : Met l yX4_lowestFreeSlot wsX4_lowestFreeSlot ({ frames := 1, cells := 0, slots := 0, locals := 25 }) (va_Pc [.ref h0] (zS D cA ws)) (vp_Si (fun r => r = nI (fstF (fun g => fre sl g n) 12))) 0 0 zF := by
  refine zOpen (cc := cX4_lowestFreeSlot) (maxL := 2) (ret := (some .int)) (own := RX4) (by decide) rfl rfl (Nat.le_of_ble_eq_true rfl) ?_
  intro p e s m below meth c ls hx hb hr hml hts hown hlocks hnm ⟨hZ, hP⟩ hl
  have hl : lv_has ls 2 [(0, .ref h0)] := hl
  refine lv_iconst (v := nI (0)) hx hb dX4_lowestFreeSlot_0 (by decide) ?_
  refine lv_istore_n (lv' := [(1, .int (nI (0))), (0, .ref h0)]) hx hb dX4_lowestFreeSlot_1 rfl hl (by decide) rfl (fun ls hl => ?_)
  refine z_loop (α := Nat) (fun v => 12 - v) (fun v ls => lv_has ls 2 [(0, .ref h0), (1, .int (nI (v)))] ∧ (∀ k, k < v → fre sl k n = false) ∧ v ≤ 12) (fun _ => []) (0) ⟨lv_sub hl [1, 0] rfl, (fun k h => absurd h (Nat.not_lt_zero k)), Nat.zero_le _⟩ ?_
  intro v ih2 ls hv
  obtain ⟨g, rfl⟩ : ∃ z, z = v := ⟨_, rfl⟩
  obtain ⟨hl, hI⟩ := hv
  have hl : lv_has ls 2 [(0, .ref h0), (1, .int (nI (g)))] := hl
  have hI : (∀ k, k < g → fre sl k n = false) ∧ g ≤ 12 := hI
  obtain ⟨hno, hg12⟩ := hI
  refine lv_iload_n hx hb dX4_lowestFreeSlot_2 rfl (lv_at hl 1 rfl) ?_
  refine lv_bipush (v := nI (12)) hx hb dX4_lowestFreeSlot_3 (by decide) ?_
  refine zc_ge (tgt := 22) hx hb (by omega) (by omega) dX4_lowestFreeSlot_5 (by decide) (fun c_1 => ?_) (fun c_1 => ?_)
  · refine lv_iload_n hx hb dX4_lowestFreeSlot_22 rfl (lv_at hl 1 rfl) ?_
    exact zr_i hx hb hr hlocks (by rw [fstF_eq 12 hg12 hno (fun h9 => by first | assumption | omega)]) dX4_lowestFreeSlot_23
  · refine lv_aload_n hx hb dX4_lowestFreeSlot_8 rfl (lv_at hl 0 rfl) ?_
    refine lv_iload_n hx hb dX4_lowestFreeSlot_9 rfl (lv_at hl 1 rfl) ?_
    refine zk_V_i (n := 1) (As := [.int (nI (g))]) (rest := []) hx hb hml hts hown hZ hP (c_X4_isFree l D cA _ k0 h0 ta n da nd jj oo hk kt T hkt hn8 PT tr le sl mo la fc Bd hT hsl g (by omega)) gX4_lowestFreeSlot_X4_isFree rfl rfl ⟨rfl, rfl⟩ ⟨by decide +kernel, Nat.le_of_ble_eq_true rfl, Nat.le_of_ble_eq_true rfl⟩ hk rfl hl.1 rfl (Nat.le_of_ble_eq_true rfl) ⟨Nat.zero_le _, Nat.zero_le _⟩ rfl dX4_lowestFreeSlot_10 (fun r_2 hr_3 => ?_)
    obtain rfl := show r_2 = _ from hr_3
    refine zb_ne (tgt := 22) hx hb dX4_lowestFreeSlot_13 (by decide) (fun c_4 => ?_) (fun c_4 => ?_)
    · refine lv_iload_n hx hb dX4_lowestFreeSlot_22 rfl (lv_at hl 1 rfl) ?_
      exact zr_i hx hb hr hlocks (by rw [fstF_eq 12 hg12 hno (fun h9 => by first | assumption | omega)]) dX4_lowestFreeSlot_23
    · refine lv_iinc (v := nI (g + 1)) (lv' := [(1, .int (nI (g + 1))), (0, .ref h0)]) hx hb dX4_lowestFreeSlot_16 hl (k := 1) rfl (zinc 1 _) (by decide) rfl (fun ls hl => ?_)
      refine lv_goto (tgt := 2) hx hb dX4_lowestFreeSlot_19 (by decide) ?_
      exact ih2 (g + 1) ls (by first | omega | (dsimp only; omega)) ⟨lv_sub hl [1, 0] rfl, (fun k h1 => by
            by_cases e9 : k = g
            · rw [e9]; assumption
            · exact hno k (by omega)), by omega⟩

set_option maxHeartbeats 4000000 in
set_option maxRecDepth 100000 in
theorem c_X4_highestSlotWithTape (l : Launch) (D : va_G) (cA : Nat → ClassId) (ws : va_W) (k0 h0 ta n da nd jj oo : Nat) (hk : ws[k0]? = some (h0, zTR ta n da nd jj oo)) (kt : Nat) (T : Nat → Nat) (hkt : ws[kt]? = some (ta, zRefs cA 1 8 (rng n T))) (hn8 : n ≤ 8) (PT : Nat → Nat) (tr le sl : Nat → Nat) (mo : Nat → Option Nat) (la : Nat → Bool) (fc : Nat → Nat) (Bd : Nat → Nat) (hT : ∀ i, i < n → ws[PT i]? = some (T i, zTape i (tr i) (le i) (sl i) (mo i) (la i) (fc i) (Bd i))) (hsl : ∀ i, i < n → sl i < 12) (hmo : ∀ i j, i < n → mo i = some j → j < 2 ^ 31) : Met l yX4_highestSlotWithTape wsX4_highestSlotWithTape ({ frames := 1, cells := 0, slots := 0, locals := 21 }) (va_Pc [.ref h0] (zS D cA ws)) (vp_Si (fun r => r = nI (hiS sl mo n))) 0 0 zF := by
  refine zOpen (cc := cX4_highestSlotWithTape) (maxL := 6) (ret := (some .int)) (own := RX4) (by decide) rfl rfl (Nat.le_of_ble_eq_true rfl) ?_
  intro p e s m below meth c ls hx hb hr hml hts hown hlocks hnm ⟨hZ, hP⟩ hl
  have iX4 : ∀ w ∈ wsX40, w ∈ wsX4_highestSlotWithTape := by decide +kernel
  have iX3 : ∀ w ∈ wsX30, w ∈ wsX4_highestSlotWithTape := by decide +kernel
  have hl : lv_has ls 6 [(0, .ref h0)] := hl
  refine lv_iconst (v := nI (0)) hx hb dX4_highestSlotWithTape_0 (by decide) ?_
  refine lv_istore_n (lv' := [(1, .int (nI (0))), (0, .ref h0)]) hx hb dX4_highestSlotWithTape_1 rfl hl (by decide) rfl (fun ls hl => ?_)
  refine lv_aload_n hx hb dX4_highestSlotWithTape_2 rfl (lv_at hl 1 rfl) ?_
  refine va_get (D := D) (ci := 4) (v := .ref ta) (C := RX4) (T := TX4) (N := 6) hx hb hts iX4 hown hZ.1 hP k0 hk rfl 0 (by decide) (hts (.fieldLink RX4 11 "TapeRobotics" "tapes" "[LTapeRobotics$Tape;") (by decide +kernel)) (fun _ h9 => h9) rfl dX4_highestSlotWithTape_3 ?_
  refine lv_astore_n (lv' := [(2, .ref ta), (1, .int (nI (0))), (0, .ref h0)]) hx hb dX4_highestSlotWithTape_6 rfl hl (by decide) rfl (fun ls hl => ?_)
  refine lv_aload_n hx hb dX4_highestSlotWithTape_7 rfl (lv_at hl 0 rfl) ?_
  refine va_alen (v := nI (8)) hx hb hZ.1 hP kt 1 hkt rfl rfl dX4_highestSlotWithTape_8 ?_
  refine lv_istore_n (lv' := [(3, .int (nI (8))), (2, .ref ta), (1, .int (nI (0))), (0, .ref h0)]) hx hb dX4_highestSlotWithTape_9 rfl hl (by decide) rfl (fun ls hl => ?_)
  refine lv_iconst (v := nI (0)) hx hb dX4_highestSlotWithTape_10 (by decide) ?_
  refine lv_istore (lv' := [(4, .int (nI (0))), (3, .int (nI (8))), (2, .ref ta), (1, .int (nI (0))), (0, .ref h0)]) hx hb dX4_highestSlotWithTape_11 hl (by decide) rfl (fun ls hl => ?_)
  refine z_loop (α := Nat × Nat) (fun v => 8 - v.1) (fun v ls => lv_has ls 6 [(0, .ref h0), (2, .ref ta), (3, .int (nI (8))), (4, .int (nI (v.1))), (1, .int (nI (v.2)))] ∧ v.2 = hiS sl mo (min v.1 n) ∧ v.1 ≤ 8) (fun _ => []) (0, 0) ⟨lv_sub hl [4, 2, 1, 0, 3] rfl, by rw [Nat.zero_min]; rfl, Nat.zero_le _⟩ ?_
  intro v ih13 ls hv
  obtain ⟨i, x⟩ := v
  obtain ⟨hl, hI⟩ := hv
  have hl : lv_has ls 6 [(0, .ref h0), (2, .ref ta), (3, .int (nI (8))), (4, .int (nI (i))), (1, .int (nI (x)))] := hl
  have hI : x = hiS sl mo (min i n) ∧ i ≤ 8 := hI
  obtain ⟨hx1, hi8⟩ := hI
  have hx12 : x < 12 := by rw [hx1]; exact hiS_lt _ (fun k hk9 => hsl k (by omega)) (by omega)
  refine lv_iload hx hb dX4_highestSlotWithTape_13 (lv_at hl 3 rfl) ?_
  refine lv_iload_n hx hb dX4_highestSlotWithTape_15 rfl (lv_at hl 2 rfl) ?_
  refine zc_ge (tgt := 54) hx hb (by omega) (by omega) dX4_highestSlotWithTape_16 (by decide) (fun c_1 => ?_) (fun c_1 => ?_)
  · refine lv_iload_n hx hb dX4_highestSlotWithTape_54 rfl (lv_at hl 4 rfl) ?_
    exact zr_i hx hb hr hlocks (by rw [hx1, Nat.min_eq_right (by omega)]) dX4_highestSlotWithTape_55
  · by_cases hin : i < n
    · refine lv_aload_n hx hb dX4_highestSlotWithTape_19 rfl (lv_at hl 1 rfl) ?_
      refine lv_iload hx hb dX4_highestSlotWithTape_20 (lv_at hl 3 rfl) ?_
      refine va_aldq hx hb hZ.1 hP kt 1 hkt rfl (vp_in_nI (show i < 8 by omega) (by omega)) dX4_highestSlotWithTape_22 ?_
      rw [nI_clamp (show i < 2 ^ 31 by omega)]
      refine zx_v (b := .ref (T i)) (by rw [rng_in hin]; rfl) ?_
      refine lv_astore (lv' := [(5, .ref (T i)), (0, .ref h0), (2, .ref ta), (3, .int (nI (8))), (4, .int (nI (i))), (1, .int (nI (x)))]) hx hb dX4_highestSlotWithTape_23 hl (by decide) rfl (fun ls hl => ?_)
      refine lv_aload hx hb dX4_highestSlotWithTape_25 (lv_at hl 0 rfl) ?_
      refine lv_ifnull hx hb dX4_highestSlotWithTape_27 ?_
      have hsi := hsl i hin
      refine lv_aload hx hb dX4_highestSlotWithTape_30 (lv_at hl 0 rfl) ?_
      refine zk_VN_i (n := 0) (As := []) (rest := []) hx hb hml hts hown hZ hP (c_X3_isInDrive l D cA _ (PT i) (T i) i (tr i) (le i) (sl i) (fc i) (Bd i) ((mo i)) (la i) (hT i hin) (hmo i · hin)) ggX4_highestSlotWithTape_X3_isInDrive (List.mem_of_getElem? (i := 2) rfl) (by decide +kernel) rfl ⟨rfl, rfl⟩ ⟨by decide +kernel, Nat.le_of_ble_eq_true rfl, Nat.le_of_ble_eq_true rfl⟩ (hT i hin) rfl hl.1 rfl (Nat.le_of_ble_eq_true rfl) ⟨Nat.zero_le _, Nat.zero_le _⟩ rfl dX4_highestSlotWithTape_32 (fun r_2 hr_3 => ?_)
      obtain rfl := show r_2 = _ from hr_3
      refine zb_ne (tgt := 48) hx hb dX4_highestSlotWithTape_35 (by decide) (fun c_4 => ?_) (fun c_4 => ?_)
      · refine lv_iinc (v := nI (i + 1)) (lv' := [(4, .int (nI (i + 1))), (5, .ref (T i)), (0, .ref h0), (2, .ref ta), (3, .int (nI (8))), (1, .int (nI (x)))]) hx hb dX4_highestSlotWithTape_48 hl (k := 4) rfl (zinc 1 _) (by decide) rfl (fun ls hl => ?_)
        refine lv_goto (tgt := 13) hx hb dX4_highestSlotWithTape_51 (by decide) ?_
        exact ih13 (i + 1, x) ls (by first | omega | (dsimp only; omega)) ⟨lv_sub hl [2, 3, 4, 0, 5] rfl, by show _ = _; rw [(min_in hin).1, (min_in hin).2, hiS, if_pos (by assumption)]; rw [(min_in hin).2] at hx1; exact hx1, by omega⟩
      · refine lv_iload_n hx hb dX4_highestSlotWithTape_38 rfl (lv_at hl 5 rfl) ?_
        refine lv_aload hx hb dX4_highestSlotWithTape_39 (lv_at hl 0 rfl) ?_
        refine va_getN (D := D) (ci := 3) (v := .int (nI (sl i))) (C := RX3) (T := TX3) (N := 8) hx hb hts iX3 hown hZ.1 hP (PT i) (hT i hin) rfl 3 (by decide) (va_Nw.use rfl (hZ.2 (.fieldLinkNest RX4 82 RX3 "slot" "I" "TapeRobotics") (List.mem_of_getElem? (i := 47) rfl))) (fun _ h9 => h9) rfl dX4_highestSlotWithTape_41 ?_
        refine va_mmax hx hb (hml.trans hl.1.symm) hown (hts (.methodLink RX4 257 Lib.Math.max.name) (by decide +kernel)) (hts (.static Lib.Math.max.name) (by decide +kernel)) (hts (.initialized "java/lang/Math") (by decide +kernel)) (hts (.code Lib.Math.max.name Lib.Math.max.code 2 (some .int)) (by decide +kernel)) (Nat.le_of_ble_eq_true rfl) (Nat.le_of_ble_eq_true rfl) (Nat.le_of_ble_eq_true rfl) (Nat.le_of_ble_eq_true rfl) dX4_highestSlotWithTape_44 ?_
        refine zx_val (zm_max (by omega) (by omega)) ?_
        refine lv_istore_n (lv' := [(1, .int (nI (max x (sl i)))), (5, .ref (T i)), (0, .ref h0), (2, .ref ta), (3, .int (nI (8))), (4, .int (nI (i)))]) hx hb dX4_highestSlotWithTape_47 rfl hl (by decide) rfl (fun ls hl => ?_)
        refine lv_iinc (v := nI (i + 1)) (lv' := [(4, .int (nI (i + 1))), (1, .int (nI (max x (sl i)))), (5, .ref (T i)), (0, .ref h0), (2, .ref ta), (3, .int (nI (8)))]) hx hb dX4_highestSlotWithTape_48 hl (k := 5) rfl (zinc 1 _) (by decide) rfl (fun ls hl => ?_)
        refine lv_goto (tgt := 13) hx hb dX4_highestSlotWithTape_51 (by decide) ?_
        exact ih13 (i + 1, max x (sl i)) ls (by first | omega | (dsimp only; omega)) ⟨lv_sub hl [3, 4, 5, 0, 1] rfl, by show _ = _; rw [(min_in hin).1, (min_in hin).2, hiS, if_neg (by rw [show (mo i).isSome = false by assumption]; exact Bool.noConfusion)]; rw [(min_in hin).2] at hx1; rw [← hx1], by omega⟩
    · refine lv_aload_n hx hb dX4_highestSlotWithTape_19 rfl (lv_at hl 1 rfl) ?_
      refine lv_iload hx hb dX4_highestSlotWithTape_20 (lv_at hl 3 rfl) ?_
      refine va_aldq hx hb hZ.1 hP kt 1 hkt rfl (vp_in_nI (show i < 8 by omega) (by omega)) dX4_highestSlotWithTape_22 ?_
      rw [nI_clamp (show i < 2 ^ 31 by omega)]
      refine zx_v (b := .null) (by rw [rng_out hin]; rfl) ?_
      refine lv_astoreN (lv' := [(5, .null), (0, .ref h0), (2, .ref ta), (3, .int (nI (8))), (4, .int (nI (i))), (1, .int (nI (x)))]) hx hb dX4_highestSlotWithTape_23 hl (by decide) rfl (fun ls hl => ?_)
      refine lv_aloadN hx hb dX4_highestSlotWithTape_25 (lv_at hl 0 rfl) ?_
      refine lv_ifnullN (tgt := 48) hx hb dX4_highestSlotWithTape_27 (by decide) ?_
      refine lv_iinc (v := nI (i + 1)) (lv' := [(4, .int (nI (i + 1))), (5, .null), (0, .ref h0), (2, .ref ta), (3, .int (nI (8))), (1, .int (nI (x)))]) hx hb dX4_highestSlotWithTape_48 hl (k := 4) rfl (zinc 1 _) (by decide) rfl (fun ls hl => ?_)
      refine lv_goto (tgt := 13) hx hb dX4_highestSlotWithTape_51 (by decide) ?_
      exact ih13 (i + 1, x) ls (by first | omega | (dsimp only; omega)) ⟨lv_sub hl [2, 3, 4, 0, 5] rfl, by show _ = _; rw [min_out hin]; exact hx1, by omega⟩

set_option maxHeartbeats 4000000 in
set_option maxRecDepth 100000 in
theorem c_X4_countWithoutLabels (l : Launch) (D : va_G) (cA : Nat → ClassId) (ws : va_W) (k0 h0 ta n da nd jj oo : Nat) (hk : ws[k0]? = some (h0, zTR ta n da nd jj oo)) (kt : Nat) (T : Nat → Nat) (hkt : ws[kt]? = some (ta, zRefs cA 1 8 (rng n T))) (hn8 : n ≤ 8) (PT : Nat → Nat) (tr le sl : Nat → Nat) (mo : Nat → Option Nat) (la : Nat → Bool) (fc : Nat → Nat) (Bd : Nat → Nat) (hT : ∀ i, i < n → ws[PT i]? = some (T i, zTape i (tr i) (le i) (sl i) (mo i) (la i) (fc i) (Bd i)))  : Met l yX4_countWithoutLabels wsX4_countWithoutLabels ({ frames := 0, cells := 0, slots := 0, locals := 0 }) (va_Pc [.ref h0] (zS D cA ws)) (vp_Si (fun r => r = nI (cnt (fun i => !la i) n))) 0 0 zF := by
  refine zOpen (cc := cX4_countWithoutLabels) (maxL := 6) (ret := (some .int)) (own := RX4) (by decide) rfl rfl (Nat.le_of_ble_eq_true rfl) ?_
  intro p e s m below meth c ls hx hb hr hml hts hown hlocks hnm ⟨hZ, hP⟩ hl
  have iX4 : ∀ w ∈ wsX40, w ∈ wsX4_countWithoutLabels := by decide +kernel
  have iX3 : ∀ w ∈ wsX30, w ∈ wsX4_countWithoutLabels := by decide +kernel
  have hl : lv_has ls 6 [(0, .ref h0)] := hl
  refine lv_iconst (v := nI (0)) hx hb dX4_countWithoutLabels_0 (by decide) ?_
  refine lv_istore_n (lv' := [(1, .int (nI (0))), (0, .ref h0)]) hx hb dX4_countWithoutLabels_1 rfl hl (by decide) rfl (fun ls hl => ?_)
  refine lv_aload_n hx hb dX4_countWithoutLabels_2 rfl (lv_at hl 1 rfl) ?_
  refine va_get (D := D) (ci := 4) (v := .ref ta) (C := RX4) (T := TX4) (N := 6) hx hb hts iX4 hown hZ.1 hP k0 hk rfl 0 (by decide) (hts (.fieldLink RX4 11 "TapeRobotics" "tapes" "[LTapeRobotics$Tape;") (by decide +kernel)) (fun _ h9 => h9) rfl dX4_countWithoutLabels_3 ?_
  refine lv_astore_n (lv' := [(2, .ref ta), (1, .int (nI (0))), (0, .ref h0)]) hx hb dX4_countWithoutLabels_6 rfl hl (by decide) rfl (fun ls hl => ?_)
  refine lv_aload_n hx hb dX4_countWithoutLabels_7 rfl (lv_at hl 0 rfl) ?_
  refine va_alen (v := nI (8)) hx hb hZ.1 hP kt 1 hkt rfl rfl dX4_countWithoutLabels_8 ?_
  refine lv_istore_n (lv' := [(3, .int (nI (8))), (2, .ref ta), (1, .int (nI (0))), (0, .ref h0)]) hx hb dX4_countWithoutLabels_9 rfl hl (by decide) rfl (fun ls hl => ?_)
  refine lv_iconst (v := nI (0)) hx hb dX4_countWithoutLabels_10 (by decide) ?_
  refine lv_istore (lv' := [(4, .int (nI (0))), (3, .int (nI (8))), (2, .ref ta), (1, .int (nI (0))), (0, .ref h0)]) hx hb dX4_countWithoutLabels_11 hl (by decide) rfl (fun ls hl => ?_)
  refine z_loop (α := Nat × Nat) (fun v => 8 - v.1) (fun v ls => lv_has ls 6 [(0, .ref h0), (2, .ref ta), (3, .int (nI (8))), (4, .int (nI (v.1))), (1, .int (nI (v.2)))] ∧ v.2 = cnt (fun q9 => !la q9) (min v.1 n) ∧ v.1 ≤ 8) (fun _ => []) (0, 0) ⟨lv_sub hl [4, 2, 1, 0, 3] rfl, by rw [Nat.zero_min]; rfl, Nat.zero_le _⟩ ?_
  intro v ih13 ls hv
  obtain ⟨i, x⟩ := v
  obtain ⟨hl, hI⟩ := hv
  have hl : lv_has ls 6 [(0, .ref h0), (2, .ref ta), (3, .int (nI (8))), (4, .int (nI (i))), (1, .int (nI (x)))] := hl
  have hI : x = cnt (fun q9 => !la q9) (min i n) ∧ i ≤ 8 := hI
  obtain ⟨hx1, hi8⟩ := hI
  refine lv_iload hx hb dX4_countWithoutLabels_13 (lv_at hl 3 rfl) ?_
  refine lv_iload_n hx hb dX4_countWithoutLabels_15 rfl (lv_at hl 2 rfl) ?_
  refine zc_ge (tgt := 47) hx hb (by omega) (by omega) dX4_countWithoutLabels_16 (by decide) (fun c_1 => ?_) (fun c_1 => ?_)
  · refine lv_iload_n hx hb dX4_countWithoutLabels_47 rfl (lv_at hl 4 rfl) ?_
    exact zr_i hx hb hr hlocks (by rw [hx1, Nat.min_eq_right (by omega)]) dX4_countWithoutLabels_48
  · by_cases hin : i < n
    · refine lv_aload_n hx hb dX4_countWithoutLabels_19 rfl (lv_at hl 1 rfl) ?_
      refine lv_iload hx hb dX4_countWithoutLabels_20 (lv_at hl 3 rfl) ?_
      refine va_aldq hx hb hZ.1 hP kt 1 hkt rfl (vp_in_nI (show i < 8 by omega) (by omega)) dX4_countWithoutLabels_22 ?_
      rw [nI_clamp (show i < 2 ^ 31 by omega)]
      refine zx_v (b := .ref (T i)) (by rw [rng_in hin]; rfl) ?_
      refine lv_astore (lv' := [(5, .ref (T i)), (0, .ref h0), (2, .ref ta), (3, .int (nI (8))), (4, .int (nI (i))), (1, .int (nI (x)))]) hx hb dX4_countWithoutLabels_23 hl (by decide) rfl (fun ls hl => ?_)
      refine lv_aload hx hb dX4_countWithoutLabels_25 (lv_at hl 0 rfl) ?_
      refine lv_ifnull hx hb dX4_countWithoutLabels_27 ?_
      refine lv_aload hx hb dX4_countWithoutLabels_30 (lv_at hl 0 rfl) ?_
      refine va_getN (D := D) (ci := 3) (v := .int (bI (la i))) (C := RX3) (T := TX3) (N := 8) hx hb hts iX3 hown hZ.1 hP (PT i) (hT i hin) rfl 5 (by decide) (va_Nw.use rfl (hZ.2 (.fieldLinkNest RX4 122 RX3 "hasLabel" "Z" "TapeRobotics") (List.mem_of_getElem? (i := 49) rfl))) (fun _ h9 => h9) rfl dX4_countWithoutLabels_32 ?_
      refine zb_ne (tgt := 41) hx hb dX4_countWithoutLabels_35 (by decide) (fun c_2 => ?_) (fun c_2 => ?_)
      · refine lv_iinc (v := nI (i + 1)) (lv' := [(4, .int (nI (i + 1))), (5, .ref (T i)), (0, .ref h0), (2, .ref ta), (3, .int (nI (8))), (1, .int (nI (x)))]) hx hb dX4_countWithoutLabels_41 hl (k := 4) rfl (zinc 1 _) (by decide) rfl (fun ls hl => ?_)
        refine lv_goto (tgt := 13) hx hb dX4_countWithoutLabels_44 (by decide) ?_
        exact ih13 (i + 1, x) ls (by first | omega | (dsimp only; omega)) ⟨lv_sub hl [2, 3, 4, 0, 5] rfl, by show _ = _; rw [(min_in hin).1, (min_in hin).2, cnt, show la i = true by assumption]; rw [(min_in hin).2] at hx1; exact hx1, by omega⟩
      · refine lv_iinc (v := nI (x + 1)) (lv' := [(1, .int (nI (x + 1))), (5, .ref (T i)), (0, .ref h0), (2, .ref ta), (3, .int (nI (8))), (4, .int (nI (i)))]) hx hb dX4_countWithoutLabels_38 hl (k := 5) rfl (zinc 1 _) (by decide) rfl (fun ls hl => ?_)
        refine lv_iinc (v := nI (i + 1)) (lv' := [(4, .int (nI (i + 1))), (1, .int (nI (x + 1))), (5, .ref (T i)), (0, .ref h0), (2, .ref ta), (3, .int (nI (8)))]) hx hb dX4_countWithoutLabels_41 hl (k := 5) rfl (zinc 1 _) (by decide) rfl (fun ls hl => ?_)
        refine lv_goto (tgt := 13) hx hb dX4_countWithoutLabels_44 (by decide) ?_
        exact ih13 (i + 1, x + 1) ls (by first | omega | (dsimp only; omega)) ⟨lv_sub hl [3, 4, 5, 0, 1] rfl, by show _ = _; rw [(min_in hin).1, (min_in hin).2, cnt, show la i = false by assumption]; rw [(min_in hin).2] at hx1; rw [← hx1]; rfl, by omega⟩
    · refine lv_aload_n hx hb dX4_countWithoutLabels_19 rfl (lv_at hl 1 rfl) ?_
      refine lv_iload hx hb dX4_countWithoutLabels_20 (lv_at hl 3 rfl) ?_
      refine va_aldq hx hb hZ.1 hP kt 1 hkt rfl (vp_in_nI (show i < 8 by omega) (by omega)) dX4_countWithoutLabels_22 ?_
      rw [nI_clamp (show i < 2 ^ 31 by omega)]
      refine zx_v (b := .null) (by rw [rng_out hin]; rfl) ?_
      refine lv_astoreN (lv' := [(5, .null), (0, .ref h0), (2, .ref ta), (3, .int (nI (8))), (4, .int (nI (i))), (1, .int (nI (x)))]) hx hb dX4_countWithoutLabels_23 hl (by decide) rfl (fun ls hl => ?_)
      refine lv_aloadN hx hb dX4_countWithoutLabels_25 (lv_at hl 0 rfl) ?_
      refine lv_ifnullN (tgt := 41) hx hb dX4_countWithoutLabels_27 (by decide) ?_
      refine lv_iinc (v := nI (i + 1)) (lv' := [(4, .int (nI (i + 1))), (5, .null), (0, .ref h0), (2, .ref ta), (3, .int (nI (8))), (1, .int (nI (x)))]) hx hb dX4_countWithoutLabels_41 hl (k := 4) rfl (zinc 1 _) (by decide) rfl (fun ls hl => ?_)
      refine lv_goto (tgt := 13) hx hb dX4_countWithoutLabels_44 (by decide) ?_
      exact ih13 (i + 1, x) ls (by first | omega | (dsimp only; omega)) ⟨lv_sub hl [2, 3, 4, 0, 5] rfl, by show _ = _; rw [min_out hin]; exact hx1, by omega⟩
