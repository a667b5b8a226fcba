theorem vnarB (b : Bool) : vp_nar .boolean (bI b) = bI b := by cases b <;> rfl
theorem fre_cnt {sl : Nat → Nat} : ∀ (n m : Nat), cnt (fun g => !fre sl g n) m ≤ n
  | 0, m => by
    rw [show cnt (fun g => !fre sl g 0) m = cnt (fun _ => false) m from rfl]
    have h : ∀ m, cnt (fun _ => false) m = 0 := by
      intro m; induction m with
      | zero => rfl
      | succ m ih => rw [cnt, ih]; rfl
    rw [h]; exact Nat.le_refl _
  | n + 1, m => by
    have ih := fre_cnt (sl := sl) n m
    have h : ∀ m, cnt (fun g => !fre sl g (n + 1)) m ≤ cnt (fun g => !fre sl g n) m + if sl n < m then 1 else 0 := by
      intro m; induction m with
      | zero => rw [if_neg (Nat.not_lt_zero _)]; exact Nat.le_refl _
      | succ m ih2 =>
        rw [cnt, cnt]
        by_cases e : sl n = m
        · rw [if_neg (show ¬ sl n < m by omega)] at ih2
          rw [if_pos (show sl n < m + 1 by omega)]
          split <;> split <;> omega
        · have e2 : (!fre sl m (n + 1)) = !fre sl m n := by
            rw [fre]; have : (sl n == m) = false := by simp [e]
            rw [this]; simp
          rw [e2]
          by_cases e3 : sl n < m
          · rw [if_pos e3] at ih2; rw [if_pos (show sl n < m + 1 by omega)]; omega
          · rw [if_neg e3] at ih2; rw [if_neg (show ¬ sl n < m + 1 by omega)]; omega
    have h2 := h m
    split at h2 <;> omega
/-- there are more slots than tapes -/
theorem fre_ex {sl : Nat → Nat} {n m : Nat} (h : n < m) : ∃ g, g < m ∧ fre sl g n = true := by
  refine Decidable.byContradiction fun q => ?_
  have h1 : ∀ g, g < m → (!fre sl g n) = true := fun g hg => by
    cases hf : fre sl g n with
    | false => rfl
    | true => exact absurd ⟨g, hg, hf⟩ q
  have h2 := cnt_congr (p := fun g => !fre sl g n) (q := fun _ => true) m h1
  have h3 := fre_cnt (sl := sl) n m
  rw [h2, cnt_all] at h3
  omega
theorem fstF_lt {f : Nat → Bool} {k : Nat} : ∀ (n : Nat), k < n → f k = true → fstF f n ≤ k
  | 0, h, _ => absurd h (Nat.not_lt_zero k)
  | n + 1, h, hf => by
    rw [fstF]
    by_cases e : k < n
    · have h1 := fstF_lt n e hf
      rw [if_pos (by omega)]; exact h1
    · have e2 : k = n := by omega
      subst e2
      by_cases e3 : fstF f k < k
      · rw [if_pos e3]; omega
      · rw [if_neg e3, if_pos hf]; exact Nat.le_refl _
theorem fst12 {sl : Nat → Nat} {n : Nat} (h : n ≤ 8) : fstF (fun g => fre sl g n) 12 < 12 := by
  obtain ⟨g, hg, hf⟩ := fre_ex (sl := sl) (n := n) (m := 12) (by omega)
  have := fstF_lt (f := fun g => fre sl g n) 12 hg hf
  omega
set_option maxHeartbeats 4000000 in
set_option maxRecDepth 100000 in
theorem c_X5_tape_ok (l : Launch) (D : va_G) (cA : Nat → ClassId) (sz : Nat) (ws : va_W) {gd : Nat → Nat} {n : Nat} {tr : Nat → Nat} {le : Nat → Nat} {sl : Nat → Nat} {mo : Nat → Option Nat} {la : Nat → Bool} {fc : Nat → Nat} {sf : Nat → Int32} {bf : Nat → Int32} {nd : Nat} {mk : Nat → Nat} {ck : Nat → Int32} {ct : Nat → Nat} {hd : Nat → Option Nat} {pf : Nat → Int32} {nj : Nat} {jt : Nat → Int32} {jf : Nat → Nat} {dl : Nat → Nat} {fin : Nat → Bool} {my : Nat} {fls : Nat → Int32} {fod : Nat → Int32} {fle : Nat → Int32} {fro : Nat → Int32} {th : Nat} {bo : Nat → Nat → Nat} {pq : Nat → Int32} {fw : Nat → Int32} {dn : Nat} (hm : mL cA ws gd n tr le sl mo la fc sf bf nd mk ck ct hd pf nj jt jf dl fin my fls fod fle fro th) (hI : zI n tr le sl mo fc bo nd mk ct hd pq nj fw jf dl) (hM : mI n la fc bo nd ck ct hd pq pf nj fw jt fin sf bf dn) (a b : Nat) (hn : n < 8) (ha : 1 ≤ a ∧ a ≤ 8) (hb9 : 4 ≤ b ∧ b ≤ 200) : Met l yX5_tape wsX5_tape ({ frames := 1, cells := 0, slots := 0, locals := 22 }) (va_Pc [.ref (gd 0), .int (nI (a)), .int (nI (b))] (zM D cA (ws) sz)) (va_Qi (fun (r : Int32) (u : va_W) => r = nI n ∧ mKeep ws u ∧ mL cA u gd (n + 1) (va_up tr n a) (va_up le n b) (va_up sl n (fstF (fun g => fre sl g n) 12)) (va_up mo n none) la fc sf bf nd mk ck ct hd pf nj jt jf dl fin my fls fod fle fro 0) (fun u => zB D (va_A (ws) sz) (u)) (va_A (ws) sz)) 0 0 (va_A (ws) sz) := by
  refine zOpen (cc := cX5_tape) (maxL := 4) (ret := (some .int)) (own := RX5) (by decide) rfl rfl (Nat.le_of_ble_eq_true rfl) ?_
  intro p e s m below meth c ls hx hb hr hml hts hown hlocks hnm ⟨hZ, hP, hD0, hsz⟩ hl
  subst hsz
  have hD := hD0.self (sz := s.heap.size)
  generalize hAe : va_A (ws) s.heap.size = A at hD ⊢
  have hA : ∀ q : Nat, s.heap.size ≤ q → A q := fun q h => by rw [← hAe]; exact Or.inr h
  have hS : va_S A s.heap s.heap [] := va_S.rf
  have iX5 : ∀ w ∈ wsX50, w ∈ wsX5_tape := by decide +kernel
  have hl : lv_has ls 4 [(0, .ref (gd 0)), (1, .int (nI (a))), (2, .int (nI (b)))] := hl
  have hm0 := hm
  have hI0 := hI
  have hM0 := hM
  obtain ⟨hn8, hd3, hj60, hIT, hID, hIJ, hIdl, hIw⟩ := hI
  obtain ⟨hM1, hM2, hM3, hM4, hM5, hM6, hM7⟩ := hM
  obtain ⟨m0, m1, m2, m3, m4, m5, m6, m7, m8, m9, m10, m11, m12, m13, m14, m15, m16, m17, m18, m19, m20, m21⟩ := hm
  have hfc10 : ∀ i, i < n → fc i ≤ 10 := fun i hi => (hIT i hi).2.2.2.2.2.2.1
  have hsl12 : ∀ i, i < n → sl i < 12 := fun i hi => (hIT i hi).2.2.2.2.1
  have hH8 : ∀ j, j < nd → ∀ t, hd j = some t → t < 8 := fun j hj t h => by have := ((hID j hj).2.2.2 t h).1; omega
  have hmo3 : ∀ i, i < n → ∀ j, mo i = some j → j < nd := fun i hi j h => ((hIT i hi).2.2.2.2.2.1 j h).1
  have hfw : ∀ k, k < nj → fw k = if fin k then -1 else jt k := fun k hk => (hM5 k hk).1
  obtain ⟨g9, hg9, hff⟩ := fre_ex (sl := sl) (n := n) (m := 12) (by omega)
  refine lv_aload_n hx hb dX5_tape_0 rfl (lv_at hl 0 rfl) ?_
  refine lv_iload_n hx hb dX5_tape_1 rfl (lv_at hl 1 rfl) ?_
  refine lv_iconst (v := nI (1)) hx hb dX5_tape_2 (by decide) ?_
  refine lv_bipush (v := nI (8)) hx hb dX5_tape_3 (by decide) ?_
  refine zk_S_i (n := 3) (As := [.int (nI (a)), .int (nI (1)), .int (nI (8))]) (rest := [.ref (gd 0)]) hx hb hml hts hown hZ hP (c_X5_isIn l D cA _ (nI (a)) (nI (1)) (nI (8))) gX5_tape_X5_isIn rfl ⟨rfl, rfl⟩ ⟨by decide +kernel, Nat.le_of_ble_eq_true rfl, Nat.le_of_ble_eq_true rfl⟩ hl.1 rfl (Nat.le_of_ble_eq_true rfl) ⟨Nat.le_of_ble_eq_true rfl, Nat.le_of_ble_eq_true rfl⟩ rfl dX5_tape_5 (fun r_1 hr_2 => ?_)
  obtain rfl := show r_1 = _ from hr_2
  refine zx_val (y := bI (true)) (by rw [show (decide (nI (1) ≤ nI (a)) && decide (nI (a) ≤ nI (8))) = _ from isin_rg (by omega) (by omega)]; rw [rg_in (by omega) ha.1 ha.2]; rfl) ?_
  refine zb_eq (tgt := 26) hx hb dX5_tape_8 (by decide) (fun c_3 => Bool.noConfusion c_3) (fun c_3 => ?_)
  refine lv_iload_n hx hb dX5_tape_11 rfl (lv_at hl 2 rfl) ?_
  refine lv_iconst (v := nI (4)) hx hb dX5_tape_12 (by decide) ?_
  refine lv_sipush (v := nI (200)) hx hb dX5_tape_13 (by decide) ?_
  refine zk_S_i (n := 3) (As := [.int (nI (b)), .int (nI (4)), .int (nI (200))]) (rest := [.ref (gd 0)]) hx hb hml hts hown hZ hP (c_X5_isIn l D cA _ (nI (b)) (nI (4)) (nI (200))) gX5_tape_X5_isIn rfl ⟨rfl, rfl⟩ ⟨by decide +kernel, Nat.le_of_ble_eq_true rfl, Nat.le_of_ble_eq_true rfl⟩ hl.1 rfl (Nat.le_of_ble_eq_true rfl) ⟨Nat.le_of_ble_eq_true rfl, Nat.le_of_ble_eq_true rfl⟩ rfl dX5_tape_16 (fun r_4 hr_5 => ?_)
  obtain rfl := show r_4 = _ from hr_5
  refine zx_val (y := bI (true)) (by rw [show (decide (nI (4) ≤ nI (b)) && decide (nI (b) ≤ nI (200))) = _ from isin_rg (by omega) (by omega)]; rw [rg_in (by omega) hb9.1 hb9.2]; rfl) ?_
  refine zb_eq (tgt := 26) hx hb dX5_tape_19 (by decide) (fun c_6 => Bool.noConfusion c_6) (fun c_6 => ?_)
  refine lv_iconst (v := nI (1)) hx hb dX5_tape_22 (by decide) ?_
  refine lv_goto (tgt := 27) hx hb dX5_tape_23 (by decide) ?_
  refine lv_aload_n hx hb dX5_tape_27 rfl (lv_at hl 0 rfl) ?_
  refine va_get (D := D) (ci := 5) (v := .int (nI (n))) (C := RX5) (T := TX5) (N := 26) hx hb hts iX5 hown hZ.1 hP 0 m0 rfl 0 (by decide) (hts (.fieldLink RX5 78 "TapeRoboticsModel" "tapes" "I") (by decide +kernel)) (fun _ h9 => h9) rfl dX5_tape_28 ?_
  refine lv_bipush (v := nI (8)) hx hb dX5_tape_31 (by decide) ?_
  refine zc_ge (tgt := 40) hx hb (by omega) (by omega) dX5_tape_33 (by decide) (fun c_7 => False.elim (by omega)) (fun c_7 => ?_)
  refine lv_iconst (v := nI (1)) hx hb dX5_tape_36 (by decide) ?_
  refine lv_goto (tgt := 41) hx hb dX5_tape_37 (by decide) ?_
  refine zw_V_i (n := 2) (mc := 0) (ms := 0) (As := [.int (bI (true)), .int (bI (true))]) (rest := []) (w1 := fun u : Unit => ws.set 0 (gd 0, zMod gd n nd nj my 0)) hx hb hml hts hown hZ hP hD hS hA (c_X5_mayBoth l D cA _ _ gd n nd nj my th true true (m0)) gX5_tape_X5_mayBoth rfl rfl ⟨rfl, rfl⟩ ⟨by decide +kernel, Nat.le_of_ble_eq_true rfl, Nat.le_of_ble_eq_true rfl⟩ m0 rfl hl.1 rfl (Nat.le_of_ble_eq_true rfl) ⟨Nat.le_of_ble_eq_true rfl, Nat.le_of_ble_eq_true rfl⟩ rfl dX5_tape_41 (fun r_8 u_10 H locs hr_9 hP hD hS hz_10 => ?_)
  obtain rfl := show r_8 = _ from hr_9
  have hP : va_P D vwCl (ws.set 0 (gd 0, zMod gd n nd nj my 0)) H := hP
  have hD : va_D A (ws.set 0 (gd 0, zMod gd n nd nj my 0)) := hD
  refine zb_ne (tgt := 49) hx hb dX5_tape_44 (by decide) (fun c_11 => ?_) (fun c_11 => Bool.noConfusion c_11)
  refine lv_iconst (v := nI (0)) hx hb dX5_tape_49 (by decide) ?_
  refine lv_istore_n (lv' := [(3, .int (nI (0))), (0, .ref (gd 0)), (1, .int (nI (a))), (2, .int (nI (b)))]) hx hb dX5_tape_50 rfl hl (by decide) rfl (fun ls hl => ?_)
  refine z_loop (α := Nat) (fun v => 12 - v) (fun v ls => lv_has ls 4 [(0, .ref (gd 0)), (1, .int (nI (a))), (2, .int (nI (b))), (3, .int (nI (v)))] ∧ (∀ k, k < v → fre sl k n = false) ∧ v ≤ g9) (fun _ => []) (0) ⟨lv_sub hl [1, 2, 3, 0] rfl, (fun k h => absurd h (Nat.not_lt_zero k)), Nat.zero_le _⟩ ?_
  intro v ih51 ls hv
  obtain ⟨g, rfl⟩ : ∃ z, z = v := ⟨_, rfl⟩
  obtain ⟨hl, hI⟩ := hv
  have hl : lv_has ls 4 [(0, .ref (gd 0)), (1, .int (nI (a))), (2, .int (nI (b))), (3, .int (nI (g)))] := hl
  have hI : (∀ k, k < g → fre sl k n = false) ∧ g ≤ g9 := hI
  obtain ⟨hgf, hg⟩ := hI
  refine lv_aload_n hx hb dX5_tape_51 rfl (lv_at hl 0 rfl) ?_
  refine lv_iload_n hx hb dX5_tape_52 rfl (lv_at hl 3 rfl) ?_
  refine zk_V_i (n := 1) (As := [.int (nI (g))]) (rest := []) hx hb hml hts hown hZ hP (c_X5_isFree l D cA _ ((mL_0 hm0 n nd nj my 0)) hn8 hsl12 g (by omega)) gX5_tape_X5_isFree rfl rfl ⟨rfl, rfl⟩ ⟨by decide +kernel, Nat.le_of_ble_eq_true rfl, Nat.le_of_ble_eq_true rfl⟩ (zset_s m0) rfl hl.1 rfl (Nat.le_of_ble_eq_true rfl) ⟨Nat.le_of_ble_eq_true rfl, Nat.le_of_ble_eq_true rfl⟩ rfl dX5_tape_53 (fun r_12 hr_13 => ?_)
  obtain rfl := show r_12 = _ from hr_13
  refine zb_ne (tgt := 65) hx hb dX5_tape_56 (by decide) (fun c_14 => ?_) (fun c_14 => ?_)
  · have hgv : g = (fstF (fun g => fre sl g n) 12) := (fstF_eq (f := fun g => fre sl g n) 12 (by omega) hgf (fun _ => by assumption)).symm
    have hl : lv_has ls 4 [(0, .ref (gd 0)), (1, .int (nI (a))), (2, .int (nI (b))), (3, .int (nI (g)))] := hl
    refine lv_aload_n hx hb dX5_tape_65 rfl (lv_at hl 0 rfl) ?_
    refine va_get (D := D) (ci := 5) (v := .ref (gd 1)) (C := RX5) (T := TX5) (N := 26) hx hb hts iX5 hown hZ.1 hP 0 (zset_s m0) rfl 1 (by decide) (hts (.fieldLink RX5 7 "TapeRoboticsModel" "tracks" "[I") (by decide +kernel)) (fun _ h9 => h9) rfl dX5_tape_66 ?_
    refine lv_aload_n hx hb dX5_tape_69 rfl (lv_at hl 0 rfl) ?_
    refine va_get (D := D) (ci := 5) (v := .int (nI (n))) (C := RX5) (T := TX5) (N := 26) hx hb hts iX5 hown hZ.1 hP 0 (zset_s m0) rfl 0 (by decide) (hts (.fieldLink RX5 78 "TapeRoboticsModel" "tapes" "I") (by decide +kernel)) (fun _ h9 => h9) rfl dX5_tape_70 ?_
    refine lv_iload_n hx hb dX5_tape_73 rfl (lv_at hl 1 rfl) ?_
    refine va_iast hx hb hZ.1 hP hD hS 1 0 (zset_n m1 (by decide)) rfl (vp_in_nI (show n < 8 by omega) (by omega)) dX5_tape_74 (fun H locs hP hD hS => ?_)
    rw [nI_clamp (show n < 2 ^ 31 by omega)] at hP hD
    rw [upd_nI] at hP hD
    have hP : va_P D vwCl ((ws.set 0 (gd 0, zMod gd n nd nj my 0)).set 1 (gd 1, zInts cA 8 (fun k => nI ((va_up tr n a) k)))) H := hP
    have hD : va_D A ((ws.set 0 (gd 0, zMod gd n nd nj my 0)).set 1 (gd 1, zInts cA 8 (fun k => nI ((va_up tr n a) k)))) := hD
    refine lv_aload_n hx hb dX5_tape_75 rfl (lv_at hl 0 rfl) ?_
    refine va_get (D := D) (ci := 5) (v := .ref (gd 2)) (C := RX5) (T := TX5) (N := 26) hx hb hts iX5 hown hZ.1 hP 0 (zset_n (zset_s m0) (by decide)) rfl 2 (by decide) (hts (.fieldLink RX5 13 "TapeRoboticsModel" "length" "[I") (by decide +kernel)) (fun _ h9 => h9) rfl dX5_tape_76 ?_
    refine lv_aload_n hx hb dX5_tape_79 rfl (lv_at hl 0 rfl) ?_
    refine va_get (D := D) (ci := 5) (v := .int (nI (n))) (C := RX5) (T := TX5) (N := 26) hx hb hts iX5 hown hZ.1 hP 0 (zset_n (zset_s m0) (by decide)) rfl 0 (by decide) (hts (.fieldLink RX5 78 "TapeRoboticsModel" "tapes" "I") (by decide +kernel)) (fun _ h9 => h9) rfl dX5_tape_80 ?_
    refine lv_iload_n hx hb dX5_tape_83 rfl (lv_at hl 2 rfl) ?_
    refine va_iast hx hb hZ.1 hP hD hS 2 0 (zset_n (zset_n m2 (by decide)) (by decide)) rfl (vp_in_nI (show n < 8 by omega) (by omega)) dX5_tape_84 (fun H locs hP hD hS => ?_)
    rw [nI_clamp (show n < 2 ^ 31 by omega)] at hP hD
    rw [upd_nI] at hP hD
    have hP : va_P D vwCl (((ws.set 0 (gd 0, zMod gd n nd nj my 0)).set 1 (gd 1, zInts cA 8 (fun k => nI ((va_up tr n a) k)))).set 2 (gd 2, zInts cA 8 (fun k => nI ((va_up le n b) k)))) H := hP
    have hD : va_D A (((ws.set 0 (gd 0, zMod gd n nd nj my 0)).set 1 (gd 1, zInts cA 8 (fun k => nI ((va_up tr n a) k)))).set 2 (gd 2, zInts cA 8 (fun k => nI ((va_up le n b) k)))) := hD
    refine lv_aload_n hx hb dX5_tape_85 rfl (lv_at hl 0 rfl) ?_
    refine va_get (D := D) (ci := 5) (v := .ref (gd 3)) (C := RX5) (T := TX5) (N := 26) hx hb hts iX5 hown hZ.1 hP 0 (zset_n (zset_n (zset_s m0) (by decide)) (by decide)) rfl 3 (by decide) (hts (.fieldLink RX5 16 "TapeRoboticsModel" "slot" "[I") (by decide +kernel)) (fun _ h9 => h9) rfl dX5_tape_86 ?_
    refine lv_aload_n hx hb dX5_tape_89 rfl (lv_at hl 0 rfl) ?_
    refine va_get (D := D) (ci := 5) (v := .int (nI (n))) (C := RX5) (T := TX5) (N := 26) hx hb hts iX5 hown hZ.1 hP 0 (zset_n (zset_n (zset_s m0) (by decide)) (by decide)) rfl 0 (by decide) (hts (.fieldLink RX5 78 "TapeRoboticsModel" "tapes" "I") (by decide +kernel)) (fun _ h9 => h9) rfl dX5_tape_90 ?_
    refine lv_iload_n hx hb dX5_tape_93 rfl (lv_at hl 3 rfl) ?_
    refine va_iast hx hb hZ.1 hP hD hS 3 0 (zset_n (zset_n (zset_n m3 (by decide)) (by decide)) (by decide)) rfl (vp_in_nI (show n < 8 by omega) (by omega)) dX5_tape_94 (fun H locs hP hD hS => ?_)
    rw [nI_clamp (show n < 2 ^ 31 by omega)] at hP hD
    rw [upd_nI] at hP hD
    have hP : va_P D vwCl ((((ws.set 0 (gd 0, zMod gd n nd nj my 0)).set 1 (gd 1, zInts cA 8 (fun k => nI ((va_up tr n a) k)))).set 2 (gd 2, zInts cA 8 (fun k => nI ((va_up le n b) k)))).set 3 (gd 3, zInts cA 8 (fun k => nI ((va_up sl n g) k)))) H := hP
    have hD : va_D A ((((ws.set 0 (gd 0, zMod gd n nd nj my 0)).set 1 (gd 1, zInts cA 8 (fun k => nI ((va_up tr n a) k)))).set 2 (gd 2, zInts cA 8 (fun k => nI ((va_up le n b) k)))).set 3 (gd 3, zInts cA 8 (fun k => nI ((va_up sl n g) k)))) := hD
    refine lv_aload_n hx hb dX5_tape_95 rfl (lv_at hl 0 rfl) ?_
    refine va_get (D := D) (ci := 5) (v := .ref (gd 4)) (C := RX5) (T := TX5) (N := 26) hx hb hts iX5 hown hZ.1 hP 0 (zset_n (zset_n (zset_n (zset_s m0) (by decide)) (by decide)) (by decide)) rfl 4 (by decide) (hts (.fieldLink RX5 19 "TapeRoboticsModel" "mounted" "[I") (by decide +kernel)) (fun _ h9 => h9) rfl dX5_tape_96 ?_
    refine lv_aload_n hx hb dX5_tape_99 rfl (lv_at hl 0 rfl) ?_
    refine va_get (D := D) (ci := 5) (v := .int (nI (n))) (C := RX5) (T := TX5) (N := 26) hx hb hts iX5 hown hZ.1 hP 0 (zset_n (zset_n (zset_n (zset_s m0) (by decide)) (by decide)) (by decide)) rfl 0 (by decide) (hts (.fieldLink RX5 78 "TapeRoboticsModel" "tapes" "I") (by decide +kernel)) (fun _ h9 => h9) rfl dX5_tape_100 ?_
    refine lv_iconst (v := (-1)) hx hb dX5_tape_103 (by decide) ?_
    refine va_iast hx hb hZ.1 hP hD hS 4 0 (zset_n (zset_n (zset_n (zset_n m4 (by decide)) (by decide)) (by decide)) (by decide)) rfl (vp_in_nI (show n < 8 by omega) (by omega)) dX5_tape_104 (fun H locs hP hD hS => ?_)
    rw [nI_clamp (show n < 2 ^ 31 by omega)] at hP hD
    rw [show (-1) = oI none from rfl, upd_oI] at hP hD
    have hP : va_P D vwCl (((((ws.set 0 (gd 0, zMod gd n nd nj my 0)).set 1 (gd 1, zInts cA 8 (fun k => nI ((va_up tr n a) k)))).set 2 (gd 2, zInts cA 8 (fun k => nI ((va_up le n b) k)))).set 3 (gd 3, zInts cA 8 (fun k => nI ((va_up sl n g) k)))).set 4 (gd 4, zInts cA 8 (fun i => oI ((va_up mo n none) i)))) H := hP
    have hD : va_D A (((((ws.set 0 (gd 0, zMod gd n nd nj my 0)).set 1 (gd 1, zInts cA 8 (fun k => nI ((va_up tr n a) k)))).set 2 (gd 2, zInts cA 8 (fun k => nI ((va_up le n b) k)))).set 3 (gd 3, zInts cA 8 (fun k => nI ((va_up sl n g) k)))).set 4 (gd 4, zInts cA 8 (fun i => oI ((va_up mo n none) i)))) := hD
    refine lv_aload_n hx hb dX5_tape_105 rfl (lv_at hl 0 rfl) ?_
    refine lv_dup hx hb dX5_tape_106 rfl ?_
    refine va_get (D := D) (ci := 5) (v := .int (nI (n))) (C := RX5) (T := TX5) (N := 26) hx hb hts iX5 hown hZ.1 hP 0 (zset_n (zset_n (zset_n (zset_n (zset_s m0) (by decide)) (by decide)) (by decide)) (by decide)) rfl 0 (by decide) (hts (.fieldLink RX5 78 "TapeRoboticsModel" "tapes" "I") (by decide +kernel)) (fun _ h9 => h9) rfl dX5_tape_107 ?_
    refine lv_iconst (v := nI (1)) hx hb dX5_tape_110 (by decide) ?_
    refine zo_add hx hb dX5_tape_111 ?_
    refine va_put (D := D) (ci := 5) (v := .int (nI (n + 1))) (ty := .int) (C := RX5) (T := TX5) (N := 26) hx hb hts iX5 tyX5 tyX5_ok nmX5 hown hZ.1 hP hD hS 0 (zset_n (zset_n (zset_n (zset_n (zset_s m0) (by decide)) (by decide)) (by decide)) (by decide)) rfl 0 (by decide) (hts (.fieldLink RX5 78 "TapeRoboticsModel" "tapes" "I") (by decide +kernel)) (fun _ h9 => h9) rfl (by decide +kernel) rfl rfl (Nat.le_of_ble_eq_true rfl) dX5_tape_112 (fun H locs hP hD hS => ?_)
    have hP : va_P D vwCl ((((((ws.set 0 (gd 0, zMod gd n nd nj my 0)).set 1 (gd 1, zInts cA 8 (fun k => nI ((va_up tr n a) k)))).set 2 (gd 2, zInts cA 8 (fun k => nI ((va_up le n b) k)))).set 3 (gd 3, zInts cA 8 (fun k => nI ((va_up sl n g) k)))).set 4 (gd 4, zInts cA 8 (fun i => oI ((va_up mo n none) i)))).set 0 (gd 0, zMod gd (n + 1) nd nj my 0)) H := hP
    have hD : va_D A ((((((ws.set 0 (gd 0, zMod gd n nd nj my 0)).set 1 (gd 1, zInts cA 8 (fun k => nI ((va_up tr n a) k)))).set 2 (gd 2, zInts cA 8 (fun k => nI ((va_up le n b) k)))).set 3 (gd 3, zInts cA 8 (fun k => nI ((va_up sl n g) k)))).set 4 (gd 4, zInts cA 8 (fun i => oI ((va_up mo n none) i)))).set 0 (gd 0, zMod gd (n + 1) nd nj my 0)) := hD
    refine lv_aload_n hx hb dX5_tape_115 rfl (lv_at hl 0 rfl) ?_
    refine va_get (D := D) (ci := 5) (v := .int (nI (n + 1))) (C := RX5) (T := TX5) (N := 26) hx hb hts iX5 hown hZ.1 hP 0 (zset_s (zset_n (zset_n (zset_n (zset_n (zset_s m0) (by decide)) (by decide)) (by decide)) (by decide))) rfl 0 (by decide) (hts (.fieldLink RX5 78 "TapeRoboticsModel" "tapes" "I") (by decide +kernel)) (fun _ h9 => h9) rfl dX5_tape_116 ?_
    refine lv_iconst (v := nI (1)) hx hb dX5_tape_119 (by decide) ?_
    refine lv_isub hx hb dX5_tape_120 ?_
    refine zx_val (y := nI (n)) (by rw [pk_sub (by omega), Nat.add_sub_cancel]) ?_
    exact zr_qi (S := va_W) (w1 := fun u => u) ((((((ws.set 0 (gd 0, zMod gd n nd nj my 0)).set 1 (gd 1, zInts cA 8 (fun k => nI ((va_up tr n a) k)))).set 2 (gd 2, zInts cA 8 (fun k => nI ((va_up le n b) k)))).set 3 (gd 3, zInts cA 8 (fun k => nI ((va_up sl n g) k)))).set 4 (gd 4, zInts cA 8 (fun i => oI ((va_up mo n none) i)))).set 0 (gd 0, zMod gd (n + 1) nd nj my 0)) hx hb hr hlocks (⟨rfl, (mKeep_set (mKeep_set (mKeep_set (mKeep_set (mKeep_set (mKeep_set mKeep_rf (by decide)) (by decide)) (by decide)) (by decide)) (by decide)) (by decide)), (by rw [← hgv]; exact (mL_0 (mL_4 (mL_3 (mL_2 (mL_1 (mL_0 hm0 n nd nj my 0) ((va_up tr n a))) ((va_up le n b))) ((va_up sl n g))) ((va_up mo n none))) (n + 1) nd nj my 0))⟩) hP hD hS (rfl) dX5_tape_121
  · refine lv_iinc (v := nI (g + 1)) (lv' := [(3, .int (nI (g + 1))), (0, .ref (gd 0)), (1, .int (nI (a))), (2, .int (nI (b)))]) hx hb dX5_tape_59 hl (k := 3) rfl (zinc 1 _) (by decide) rfl (fun ls hl => ?_)
    refine lv_goto (tgt := 51) hx hb dX5_tape_62 (by decide) ?_
    exact ih51 (g + 1) ls (by first | omega | (dsimp only; omega)) ⟨lv_sub hl [1, 2, 3, 0] rfl, (fun k h1 => by
          have h1 : k < g + 1 := h1
          by_cases e9 : k = g
          · rw [e9]; assumption
          · exact hgf k (by first | omega | (dsimp only; omega))), by
          have h9 : g ≠ g9 := (fun q => by have h8 := hff; rw [← q] at h8; rw [show fre sl g n = false by assumption] at h8; cases h8)
          show g + 1 ≤ g9; omega⟩

set_option maxHeartbeats 4000000 in
set_option maxRecDepth 100000 in
theorem c_X5_tape_no (l : Launch) (D : va_G) (cA : Nat → ClassId) (sz : Nat) (ws : va_W) {gd : Nat → Nat} {n : Nat} {tr : Nat → Nat} {le : Nat → Nat} {sl : Nat → Nat} {mo : Nat → Option Nat} {la : Nat → Bool} {fc : Nat → Nat} {sf : Nat → Int32} {bf : Nat → Int32} {nd : Nat} {mk : Nat → Nat} {ck : Nat → Int32} {ct : Nat → Nat} {hd : Nat → Option Nat} {pf : Nat → Int32} {nj : Nat} {jt : Nat → Int32} {jf : Nat → Nat} {dl : Nat → Nat} {fin : Nat → Bool} {my : Nat} {fls : Nat → Int32} {fod : Nat → Int32} {fle : Nat → Int32} {fro : Nat → Int32} {th : Nat} {bo : Nat → Nat → Nat} {pq : Nat → Int32} {fw : Nat → Int32} {dn : Nat} (hm : mL cA ws gd n tr le sl mo la fc sf bf nd mk ck ct hd pf nj jt jf dl fin my fls fod fle fro th) (hI : zI n tr le sl mo fc bo nd mk ct hd pq nj fw jf dl) (hM : mI n la fc bo nd ck ct hd pq pf nj fw jt fin sf bf dn) (v0 : Int32) (v1 : Int32) (h0 : (k2 (rg v0 1 8) (rg v1 4 200) (fun _ _ => decide (n < 8))) ≠ 0) : Met l yX5_tape wsX5_tape ({ frames := 1, cells := 0, slots := 0, locals := 22 }) (va_Pc [.ref (gd 0), .int (v0), .int (v1)] (zM D cA (ws) sz)) (va_Qi (fun (r : Int32) (u : va_W) => mKeep ws u ∧ mL cA u gd n tr le sl mo la fc sf bf nd mk ck ct hd pf nj jt jf dl fin my fls fod fle fro (k2 (rg v0 1 8) (rg v1 4 200) (fun _ _ => decide (n < 8)))) (fun u => zB D (va_A (ws) sz) (u)) (va_A (ws) sz)) 0 0 (va_A (ws) sz) := by
  refine zOpen (cc := cX5_tape) (maxL := 4) (ret := (some .int)) (own := RX5) (by decide) rfl rfl (Nat.le_of_ble_eq_true rfl) ?_
  intro p e s m below meth c ls hx hb hr hml hts hown hlocks hnm ⟨hZ, hP, hD0, hsz⟩ hl
  subst hsz
  have hD := hD0.self (sz := s.heap.size)
  generalize hAe : va_A (ws) s.heap.size = A at hD ⊢
  have hA : ∀ q : Nat, s.heap.size ≤ q → A q := fun q h => by rw [← hAe]; exact Or.inr h
  have hS : va_S A s.heap s.heap [] := va_S.rf
  have iX5 : ∀ w ∈ wsX50, w ∈ wsX5_tape := by decide +kernel
  have hl : lv_has ls 4 [(0, .ref (gd 0)), (1, .int (v0)), (2, .int (v1))] := hl
  have hm0 := hm
  have hI0 := hI
  have hM0 := hM
  obtain ⟨hn8, hd3, hj60, hIT, hID, hIJ, hIdl, hIw⟩ := hI
  obtain ⟨hM1, hM2, hM3, hM4, hM5, hM6, hM7⟩ := hM
  obtain ⟨m0, m1, m2, m3, m4, m5, m6, m7, m8, m9, m10, m11, m12, m13, m14, m15, m16, m17, m18, m19, m20, m21⟩ := hm
  have hfc10 : ∀ i, i < n → fc i ≤ 10 := fun i hi => (hIT i hi).2.2.2.2.2.2.1
  have hsl12 : ∀ i, i < n → sl i < 12 := fun i hi => (hIT i hi).2.2.2.2.1
  have hH8 : ∀ j, j < nd → ∀ t, hd j = some t → t < 8 := fun j hj t h => by have := ((hID j hj).2.2.2 t h).1; omega
  have hmo3 : ∀ i, i < n → ∀ j, mo i = some j → j < nd := fun i hi j h => ((hIT i hi).2.2.2.2.2.1 j h).1
  have hfw : ∀ k, k < nj → fw k = if fin k then -1 else jt k := fun k hk => (hM5 k hk).1
  rcases k2_no h0 with ⟨ho, hK⟩ | ⟨a, ho, hq, hK⟩ | ⟨a, b, ho, hq, hc, hK⟩
  · refine lv_aload_n hx hb dX5_tape_0 rfl (lv_at hl 0 rfl) ?_
    refine lv_iload_n hx hb dX5_tape_1 rfl (lv_at hl 1 rfl) ?_
    refine lv_iconst (v := nI (1)) hx hb dX5_tape_2 (by decide) ?_
    refine lv_bipush (v := nI (8)) hx hb dX5_tape_3 (by decide) ?_
    refine zk_S_i (n := 3) (As := [.int (v0), .int (nI (1)), .int (nI (8))]) (rest := [.ref (gd 0)]) hx hb hml hts hown hZ hP (c_X5_isIn l D cA _ v0 (nI (1)) (nI (8))) gX5_tape_X5_isIn rfl ⟨rfl, rfl⟩ ⟨by decide +kernel, Nat.le_of_ble_eq_true rfl, Nat.le_of_ble_eq_true rfl⟩ hl.1 rfl (Nat.le_of_ble_eq_true rfl) ⟨Nat.le_of_ble_eq_true rfl, Nat.le_of_ble_eq_true rfl⟩ rfl dX5_tape_5 (fun r_1 hr_2 => ?_)
    obtain rfl := show r_1 = _ from hr_2
    refine zx_val (y := bI (false)) (by rw [show (decide (nI (1) ≤ v0) && decide (v0 ≤ nI (8))) = _ from isin_rg (by omega) (by omega)]; rw [ho]; rfl) ?_
    refine zb_eq (tgt := 26) hx hb dX5_tape_8 (by decide) (fun c_3 => ?_) (fun c_3 => Bool.noConfusion c_3)
    refine lv_iconst (v := nI (0)) hx hb dX5_tape_26 (by decide) ?_
    refine lv_aload_n hx hb dX5_tape_27 rfl (lv_at hl 0 rfl) ?_
    refine va_get (D := D) (ci := 5) (v := .int (nI (n))) (C := RX5) (T := TX5) (N := 26) hx hb hts iX5 hown hZ.1 hP 0 m0 rfl 0 (by decide) (hts (.fieldLink RX5 78 "TapeRoboticsModel" "tapes" "I") (by decide +kernel)) (fun _ h9 => h9) rfl dX5_tape_28 ?_
    refine lv_bipush (v := nI (8)) hx hb dX5_tape_31 (by decide) ?_
    refine zc_ge (tgt := 40) hx hb (by omega) (by omega) dX5_tape_33 (by decide) (fun c_4 => ?_) (fun c_4 => ?_)
    · refine lv_iconst (v := nI (0)) hx hb dX5_tape_40 (by decide) ?_
      refine zw_V_i (n := 2) (mc := 0) (ms := 0) (As := [.int (bI (false)), .int (bI (false))]) (rest := []) (w1 := fun u : Unit => ws.set 0 (gd 0, zMod gd n nd nj my 1)) hx hb hml hts hown hZ hP hD hS hA (c_X5_mayBoth l D cA _ _ gd n nd nj my th false false (m0)) gX5_tape_X5_mayBoth rfl rfl ⟨rfl, rfl⟩ ⟨by decide +kernel, Nat.le_of_ble_eq_true rfl, Nat.le_of_ble_eq_true rfl⟩ m0 rfl hl.1 rfl (Nat.le_of_ble_eq_true rfl) ⟨Nat.le_of_ble_eq_true rfl, Nat.le_of_ble_eq_true rfl⟩ rfl dX5_tape_41 (fun r_5 u_7 H locs hr_6 hP hD hS hz_7 => ?_)
      obtain rfl := show r_5 = _ from hr_6
      have hP : va_P D vwCl (ws.set 0 (gd 0, zMod gd n nd nj my 1)) H := hP
      have hD : va_D A (ws.set 0 (gd 0, zMod gd n nd nj my 1)) := hD
      refine zb_ne (tgt := 49) hx hb dX5_tape_44 (by decide) (fun c_8 => Bool.noConfusion c_8) (fun c_8 => ?_)
      refine lv_iconst (v := nI (0)) hx hb dX5_tape_47 (by decide) ?_
      exact zr_qi (S := va_W) (w1 := fun u => u) (ws.set 0 (gd 0, zMod gd n nd nj my 1)) hx hb hr hlocks (⟨(mKeep_set mKeep_rf (by decide)), (by rw [hK]; exact (mL_0 hm0 n nd nj my 1))⟩) hP hD hS (rfl) dX5_tape_48
    · refine lv_iconst (v := nI (1)) hx hb dX5_tape_36 (by decide) ?_
      refine lv_goto (tgt := 41) hx hb dX5_tape_37 (by decide) ?_
      refine zw_V_i (n := 2) (mc := 0) (ms := 0) (As := [.int (bI (false)), .int (bI (true))]) (rest := []) (w1 := fun u : Unit => ws.set 0 (gd 0, zMod gd n nd nj my 1)) hx hb hml hts hown hZ hP hD hS hA (c_X5_mayBoth l D cA _ _ gd n nd nj my th false true (m0)) gX5_tape_X5_mayBoth rfl rfl ⟨rfl, rfl⟩ ⟨by decide +kernel, Nat.le_of_ble_eq_true rfl, Nat.le_of_ble_eq_true rfl⟩ m0 rfl hl.1 rfl (Nat.le_of_ble_eq_true rfl) ⟨Nat.le_of_ble_eq_true rfl, Nat.le_of_ble_eq_true rfl⟩ rfl dX5_tape_41 (fun r_9 u_11 H locs hr_10 hP hD hS hz_11 => ?_)
      obtain rfl := show r_9 = _ from hr_10
      have hP : va_P D vwCl (ws.set 0 (gd 0, zMod gd n nd nj my 1)) H := hP
      have hD : va_D A (ws.set 0 (gd 0, zMod gd n nd nj my 1)) := hD
      refine zb_ne (tgt := 49) hx hb dX5_tape_44 (by decide) (fun c_12 => Bool.noConfusion c_12) (fun c_12 => ?_)
      refine lv_iconst (v := nI (0)) hx hb dX5_tape_47 (by decide) ?_
      exact zr_qi (S := va_W) (w1 := fun u => u) (ws.set 0 (gd 0, zMod gd n nd nj my 1)) hx hb hr hlocks (⟨(mKeep_set mKeep_rf (by decide)), (by rw [hK]; exact (mL_0 hm0 n nd nj my 1))⟩) hP hD hS (rfl) dX5_tape_48
  · refine lv_aload_n hx hb dX5_tape_0 rfl (lv_at hl 0 rfl) ?_
    refine lv_iload_n hx hb dX5_tape_1 rfl (lv_at hl 1 rfl) ?_
    refine lv_iconst (v := nI (1)) hx hb dX5_tape_2 (by decide) ?_
    refine lv_bipush (v := nI (8)) hx hb dX5_tape_3 (by decide) ?_
    refine zk_S_i (n := 3) (As := [.int (v0), .int (nI (1)), .int (nI (8))]) (rest := [.ref (gd 0)]) hx hb hml hts hown hZ hP (c_X5_isIn l D cA _ v0 (nI (1)) (nI (8))) gX5_tape_X5_isIn rfl ⟨rfl, rfl⟩ ⟨by decide +kernel, Nat.le_of_ble_eq_true rfl, Nat.le_of_ble_eq_true rfl⟩ hl.1 rfl (Nat.le_of_ble_eq_true rfl) ⟨Nat.le_of_ble_eq_true rfl, Nat.le_of_ble_eq_true rfl⟩ rfl dX5_tape_5 (fun r_13 hr_14 => ?_)
    obtain rfl := show r_13 = _ from hr_14
    refine zx_val (y := bI (true)) (by rw [show (decide (nI (1) ≤ v0) && decide (v0 ≤ nI (8))) = _ from isin_rg (by omega) (by omega)]; rw [ho]; rfl) ?_
    refine zb_eq (tgt := 26) hx hb dX5_tape_8 (by decide) (fun c_15 => Bool.noConfusion c_15) (fun c_15 => ?_)
    refine lv_iload_n hx hb dX5_tape_11 rfl (lv_at hl 2 rfl) ?_
    refine lv_iconst (v := nI (4)) hx hb dX5_tape_12 (by decide) ?_
    refine lv_sipush (v := nI (200)) hx hb dX5_tape_13 (by decide) ?_
    refine zk_S_i (n := 3) (As := [.int (v1), .int (nI (4)), .int (nI (200))]) (rest := [.ref (gd 0)]) hx hb hml hts hown hZ hP (c_X5_isIn l D cA _ v1 (nI (4)) (nI (200))) gX5_tape_X5_isIn rfl ⟨rfl, rfl⟩ ⟨by decide +kernel, Nat.le_of_ble_eq_true rfl, Nat.le_of_ble_eq_true rfl⟩ hl.1 rfl (Nat.le_of_ble_eq_true rfl) ⟨Nat.le_of_ble_eq_true rfl, Nat.le_of_ble_eq_true rfl⟩ rfl dX5_tape_16 (fun r_16 hr_17 => ?_)
    obtain rfl := show r_16 = _ from hr_17
    refine zx_val (y := bI (false)) (by rw [show (decide (nI (4) ≤ v1) && decide (v1 ≤ nI (200))) = _ from isin_rg (by omega) (by omega)]; rw [hq]; rfl) ?_
    refine zb_eq (tgt := 26) hx hb dX5_tape_19 (by decide) (fun c_18 => ?_) (fun c_18 => Bool.noConfusion c_18)
    refine lv_iconst (v := nI (0)) hx hb dX5_tape_26 (by decide) ?_
    refine lv_aload_n hx hb dX5_tape_27 rfl (lv_at hl 0 rfl) ?_
    refine va_get (D := D) (ci := 5) (v := .int (nI (n))) (C := RX5) (T := TX5) (N := 26) hx hb hts iX5 hown hZ.1 hP 0 m0 rfl 0 (by decide) (hts (.fieldLink RX5 78 "TapeRoboticsModel" "tapes" "I") (by decide +kernel)) (fun _ h9 => h9) rfl dX5_tape_28 ?_
    refine lv_bipush (v := nI (8)) hx hb dX5_tape_31 (by decide) ?_
    refine zc_ge (tgt := 40) hx hb (by omega) (by omega) dX5_tape_33 (by decide) (fun c_19 => ?_) (fun c_19 => ?_)
    · refine lv_iconst (v := nI (0)) hx hb dX5_tape_40 (by decide) ?_
      refine zw_V_i (n := 2) (mc := 0) (ms := 0) (As := [.int (bI (false)), .int (bI (false))]) (rest := []) (w1 := fun u : Unit => ws.set 0 (gd 0, zMod gd n nd nj my 1)) hx hb hml hts hown hZ hP hD hS hA (c_X5_mayBoth l D cA _ _ gd n nd nj my th false false (m0)) gX5_tape_X5_mayBoth rfl rfl ⟨rfl, rfl⟩ ⟨by decide +kernel, Nat.le_of_ble_eq_true rfl, Nat.le_of_ble_eq_true rfl⟩ m0 rfl hl.1 rfl (Nat.le_of_ble_eq_true rfl) ⟨Nat.le_of_ble_eq_true rfl, Nat.le_of_ble_eq_true rfl⟩ rfl dX5_tape_41 (fun r_20 u_22 H locs hr_21 hP hD hS hz_22 => ?_)
      obtain rfl := show r_20 = _ from hr_21
      have hP : va_P D vwCl (ws.set 0 (gd 0, zMod gd n nd nj my 1)) H := hP
      have hD : va_D A (ws.set 0 (gd 0, zMod gd n nd nj my 1)) := hD
      refine zb_ne (tgt := 49) hx hb dX5_tape_44 (by decide) (fun c_23 => Bool.noConfusion c_23) (fun c_23 => ?_)
      refine lv_iconst (v := nI (0)) hx hb dX5_tape_47 (by decide) ?_
      exact zr_qi (S := va_W) (w1 := fun u => u) (ws.set 0 (gd 0, zMod gd n nd nj my 1)) hx hb hr hlocks (⟨(mKeep_set mKeep_rf (by decide)), (by rw [hK]; exact (mL_0 hm0 n nd nj my 1))⟩) hP hD hS (rfl) dX5_tape_48
    · refine lv_iconst (v := nI (1)) hx hb dX5_tape_36 (by decide) ?_
      refine lv_goto (tgt := 41) hx hb dX5_tape_37 (by decide) ?_
      refine zw_V_i (n := 2) (mc := 0) (ms := 0) (As := [.int (bI (false)), .int (bI (true))]) (rest := []) (w1 := fun u : Unit => ws.set 0 (gd 0, zMod gd n nd nj my 1)) hx hb hml hts hown hZ hP hD hS hA (c_X5_mayBoth l D cA _ _ gd n nd nj my th false true (m0)) gX5_tape_X5_mayBoth rfl rfl ⟨rfl, rfl⟩ ⟨by decide +kernel, Nat.le_of_ble_eq_true rfl, Nat.le_of_ble_eq_true rfl⟩ m0 rfl hl.1 rfl (Nat.le_of_ble_eq_true rfl) ⟨Nat.le_of_ble_eq_true rfl, Nat.le_of_ble_eq_true rfl⟩ rfl dX5_tape_41 (fun r_24 u_26 H locs hr_25 hP hD hS hz_26 => ?_)
      obtain rfl := show r_24 = _ from hr_25
      have hP : va_P D vwCl (ws.set 0 (gd 0, zMod gd n nd nj my 1)) H := hP
      have hD : va_D A (ws.set 0 (gd 0, zMod gd n nd nj my 1)) := hD
      refine zb_ne (tgt := 49) hx hb dX5_tape_44 (by decide) (fun c_27 => Bool.noConfusion c_27) (fun c_27 => ?_)
      refine lv_iconst (v := nI (0)) hx hb dX5_tape_47 (by decide) ?_
      exact zr_qi (S := va_W) (w1 := fun u => u) (ws.set 0 (gd 0, zMod gd n nd nj my 1)) hx hb hr hlocks (⟨(mKeep_set mKeep_rf (by decide)), (by rw [hK]; exact (mL_0 hm0 n nd nj my 1))⟩) hP hD hS (rfl) dX5_tape_48
  · have hc9 := of_decide_eq_false hc
    refine lv_aload_n hx hb dX5_tape_0 rfl (lv_at hl 0 rfl) ?_
    refine lv_iload_n hx hb dX5_tape_1 rfl (lv_at hl 1 rfl) ?_
    refine lv_iconst (v := nI (1)) hx hb dX5_tape_2 (by decide) ?_
    refine lv_bipush (v := nI (8)) hx hb dX5_tape_3 (by decide) ?_
    refine zk_S_i (n := 3) (As := [.int (v0), .int (nI (1)), .int (nI (8))]) (rest := [.ref (gd 0)]) hx hb hml hts hown hZ hP (c_X5_isIn l D cA _ v0 (nI (1)) (nI (8))) gX5_tape_X5_isIn rfl ⟨rfl, rfl⟩ ⟨by decide +kernel, Nat.le_of_ble_eq_true rfl, Nat.le_of_ble_eq_true rfl⟩ hl.1 rfl (Nat.le_of_ble_eq_true rfl) ⟨Nat.le_of_ble_eq_true rfl, Nat.le_of_ble_eq_true rfl⟩ rfl dX5_tape_5 (fun r_28 hr_29 => ?_)
    obtain rfl := show r_28 = _ from hr_29
    refine zx_val (y := bI (true)) (by rw [show (decide (nI (1) ≤ v0) && decide (v0 ≤ nI (8))) = _ from isin_rg (by omega) (by omega)]; rw [ho]; rfl) ?_
    refine zb_eq (tgt := 26) hx hb dX5_tape_8 (by decide) (fun c_30 => Bool.noConfusion c_30) (fun c_30 => ?_)
    refine lv_iload_n hx hb dX5_tape_11 rfl (lv_at hl 2 rfl) ?_
    refine lv_iconst (v := nI (4)) hx hb dX5_tape_12 (by decide) ?_
    refine lv_sipush (v := nI (200)) hx hb dX5_tape_13 (by decide) ?_
    refine zk_S_i (n := 3) (As := [.int (v1), .int (nI (4)), .int (nI (200))]) (rest := [.ref (gd 0)]) hx hb hml hts hown hZ hP (c_X5_isIn l D cA _ v1 (nI (4)) (nI (200))) gX5_tape_X5_isIn rfl ⟨rfl, rfl⟩ ⟨by decide +kernel, Nat.le_of_ble_eq_true rfl, Nat.le_of_ble_eq_true rfl⟩ hl.1 rfl (Nat.le_of_ble_eq_true rfl) ⟨Nat.le_of_ble_eq_true rfl, Nat.le_of_ble_eq_true rfl⟩ rfl dX5_tape_16 (fun r_31 hr_32 => ?_)
    obtain rfl := show r_31 = _ from hr_32
    refine zx_val (y := bI (true)) (by rw [show (decide (nI (4) ≤ v1) && decide (v1 ≤ nI (200))) = _ from isin_rg (by omega) (by omega)]; rw [hq]; rfl) ?_
    refine zb_eq (tgt := 26) hx hb dX5_tape_19 (by decide) (fun c_33 => Bool.noConfusion c_33) (fun c_33 => ?_)
    refine lv_iconst (v := nI (1)) hx hb dX5_tape_22 (by decide) ?_
    refine lv_goto (tgt := 27) hx hb dX5_tape_23 (by decide) ?_
    refine lv_aload_n hx hb dX5_tape_27 rfl (lv_at hl 0 rfl) ?_
    refine va_get (D := D) (ci := 5) (v := .int (nI (n))) (C := RX5) (T := TX5) (N := 26) hx hb hts iX5 hown hZ.1 hP 0 m0 rfl 0 (by decide) (hts (.fieldLink RX5 78 "TapeRoboticsModel" "tapes" "I") (by decide +kernel)) (fun _ h9 => h9) rfl dX5_tape_28 ?_
    refine lv_bipush (v := nI (8)) hx hb dX5_tape_31 (by decide) ?_
    refine zc_ge (tgt := 40) hx hb (by omega) (by omega) dX5_tape_33 (by decide) (fun c_34 => ?_) (fun c_34 => False.elim (by omega))
    refine lv_iconst (v := nI (0)) hx hb dX5_tape_40 (by decide) ?_
    refine zw_V_i (n := 2) (mc := 0) (ms := 0) (As := [.int (bI (true)), .int (bI (false))]) (rest := []) (w1 := fun u : Unit => ws.set 0 (gd 0, zMod gd n nd nj my 2)) hx hb hml hts hown hZ hP hD hS hA (c_X5_mayBoth l D cA _ _ gd n nd nj my th true false (m0)) gX5_tape_X5_mayBoth rfl rfl ⟨rfl, rfl⟩ ⟨by decide +kernel, Nat.le_of_ble_eq_true rfl, Nat.le_of_ble_eq_true rfl⟩ m0 rfl hl.1 rfl (Nat.le_of_ble_eq_true rfl) ⟨Nat.le_of_ble_eq_true rfl, Nat.le_of_ble_eq_true rfl⟩ rfl dX5_tape_41 (fun r_35 u_37 H locs hr_36 hP hD hS hz_37 => ?_)
    obtain rfl := show r_35 = _ from hr_36
    have hP : va_P D vwCl (ws.set 0 (gd 0, zMod gd n nd nj my 2)) H := hP
    have hD : va_D A (ws.set 0 (gd 0, zMod gd n nd nj my 2)) := hD
    refine zb_ne (tgt := 49) hx hb dX5_tape_44 (by decide) (fun c_38 => Bool.noConfusion c_38) (fun c_38 => ?_)
    refine lv_iconst (v := nI (0)) hx hb dX5_tape_47 (by decide) ?_
    exact zr_qi (S := va_W) (w1 := fun u => u) (ws.set 0 (gd 0, zMod gd n nd nj my 2)) hx hb hr hlocks (⟨(mKeep_set mKeep_rf (by decide)), (by rw [hK]; exact (mL_0 hm0 n nd nj my 2))⟩) hP hD hS (rfl) dX5_tape_48

set_option maxHeartbeats 4000000 in
set_option maxRecDepth 100000 in
theorem c_X5_drive_ok (l : Launch) (D : va_G) (cA : Nat → ClassId) (sz : Nat) (ws : va_W) {gd : Nat → Nat} {n : Nat} {tr : Nat → Nat} {le : Nat → Nat} {sl : Nat → Nat} {mo : Nat → Option Nat} {la : Nat → Bool} {fc : Nat → Nat} {sf : Nat → Int32} {bf : Nat → Int32} {nd : Nat} {mk : Nat → Nat} {ck : Nat → Int32} {ct : Nat → Nat} {hd : Nat → Option Nat} {pf : Nat → Int32} {nj : Nat} {jt : Nat → Int32} {jf : Nat → Nat} {dl : Nat → Nat} {fin : Nat → Bool} {my : Nat} {fls : Nat → Int32} {fod : Nat → Int32} {fle : Nat → Int32} {fro : Nat → Int32} {th : Nat} {bo : Nat → Nat → Nat} {pq : Nat → Int32} {fw : Nat → Int32} {dn : Nat} (hm : mL cA ws gd n tr le sl mo la fc sf bf nd mk ck ct hd pf nj jt jf dl fin my fls fod fle fro th) (hI : zI n tr le sl mo fc bo nd mk ct hd pq nj fw jf dl) (hM : mI n la fc bo nd ck ct hd pq pf nj fw jt fin sf bf dn) (a : Nat) (hn : nd < 3) (ha : a ≤ 1) : Met l yX5_drive wsX5_drive ({ frames := 1, cells := 0, slots := 0, locals := 22 }) (va_Pc [.ref (gd 0), .int (nI (a))] (zM D cA (ws) sz)) (va_Qi (fun (r : Int32) (u : va_W) => r = nI nd ∧ mKeep ws u ∧ mL cA u gd n tr le sl mo la fc sf bf (nd + 1) (va_up mk nd a) ck ct (va_up hd nd none) pf nj jt jf dl fin my fls fod fle fro 0) (fun u => zB D (va_A (ws) sz) (u)) (va_A (ws) sz)) 0 0 (va_A (ws) sz) := by
  refine zOpen (cc := cX5_drive) (maxL := 2) (ret := (some .int)) (own := RX5) (by decide) rfl rfl (Nat.le_of_ble_eq_true rfl) ?_
  intro p e s m below meth c ls hx hb hr hml hts hown hlocks hnm ⟨hZ, hP, hD0, hsz⟩ hl
  subst hsz
  have hD := hD0.self (sz := s.heap.size)
  generalize hAe : va_A (ws) s.heap.size = A at hD ⊢
  have hA : ∀ q : Nat, s.heap.size ≤ q → A q := fun q h => by rw [← hAe]; exact Or.inr h
  have hS : va_S A s.heap s.heap [] := va_S.rf
  have iX5 : ∀ w ∈ wsX50, w ∈ wsX5_drive := by decide +kernel
  have hl : lv_has ls 2 [(0, .ref (gd 0)), (1, .int (nI (a)))] := hl
  have hm0 := hm
  have hI0 := hI
  have hM0 := hM
  obtain ⟨hn8, hd3, hj60, hIT, hID, hIJ, hIdl, hIw⟩ := hI
  obtain ⟨hM1, hM2, hM3, hM4, hM5, hM6, hM7⟩ := hM
  obtain ⟨m0, m1, m2, m3, m4, m5, m6, m7, m8, m9, m10, m11, m12, m13, m14, m15, m16, m17, m18, m19, m20, m21⟩ := hm
  have hfc10 : ∀ i, i < n → fc i ≤ 10 := fun i hi => (hIT i hi).2.2.2.2.2.2.1
  have hsl12 : ∀ i, i < n → sl i < 12 := fun i hi => (hIT i hi).2.2.2.2.1
  have hH8 : ∀ j, j < nd → ∀ t, hd j = some t → t < 8 := fun j hj t h => by have := ((hID j hj).2.2.2 t h).1; omega
  have hmo3 : ∀ i, i < n → ∀ j, mo i = some j → j < nd := fun i hi j h => ((hIT i hi).2.2.2.2.2.1 j h).1
  have hfw : ∀ k, k < nj → fw k = if fin k then -1 else jt k := fun k hk => (hM5 k hk).1
  refine lv_aload_n hx hb dX5_drive_0 rfl (lv_at hl 0 rfl) ?_
  refine lv_iload_n hx hb dX5_drive_1 rfl (lv_at hl 1 rfl) ?_
  refine lv_iconst (v := nI (0)) hx hb dX5_drive_2 (by decide) ?_
  refine lv_iconst (v := nI (1)) hx hb dX5_drive_3 (by decide) ?_
  refine zk_S_i (n := 3) (As := [.int (nI (a)), .int (nI (0)), .int (nI (1))]) (rest := [.ref (gd 0)]) hx hb hml hts hown hZ hP (c_X5_isIn l D cA _ (nI (a)) (nI (0)) (nI (1))) gX5_drive_X5_isIn rfl ⟨rfl, rfl⟩ ⟨by decide +kernel, Nat.le_of_ble_eq_true rfl, Nat.le_of_ble_eq_true rfl⟩ hl.1 rfl (Nat.le_of_ble_eq_true rfl) ⟨Nat.le_of_ble_eq_true rfl, Nat.le_of_ble_eq_true rfl⟩ rfl dX5_drive_4 (fun r_1 hr_2 => ?_)
  obtain rfl := show r_1 = _ from hr_2
  refine zx_val (y := bI (true)) (by rw [show (decide (nI (0) ≤ nI (a)) && decide (nI (a) ≤ nI (1))) = _ from isin_rg (by omega) (by omega), rg_0]; rw [ix_in (by omega) (by omega)]; rfl) ?_
  refine lv_aload_n hx hb dX5_drive_7 rfl (lv_at hl 0 rfl) ?_
  refine va_get (D := D) (ci := 5) (v := .int (nI (nd))) (C := RX5) (T := TX5) (N := 26) hx hb hts iX5 hown hZ.1 hP 0 m0 rfl 9 (by decide) (hts (.fieldLink RX5 85 "TapeRoboticsModel" "drives" "I") (by decide +kernel)) (fun _ h9 => h9) rfl dX5_drive_8 ?_
  refine lv_iconst (v := nI (3)) hx hb dX5_drive_11 (by decide) ?_
  refine zc_ge (tgt := 19) hx hb (by omega) (by omega) dX5_drive_12 (by decide) (fun c_3 => False.elim (by omega)) (fun c_3 => ?_)
  refine lv_iconst (v := nI (1)) hx hb dX5_drive_15 (by decide) ?_
  refine lv_goto (tgt := 20) hx hb dX5_drive_16 (by decide) ?_
  refine zw_V_i (n := 2) (mc := 0) (ms := 0) (As := [.int (bI (true)), .int (bI (true))]) (rest := []) (w1 := fun u : Unit => ws.set 0 (gd 0, zMod gd n nd nj my 0)) hx hb hml hts hown hZ hP hD hS hA (c_X5_mayBoth l D cA _ _ gd n nd nj my th true true (m0)) gX5_drive_X5_mayBoth rfl rfl ⟨rfl, rfl⟩ ⟨by decide +kernel, Nat.le_of_ble_eq_true rfl, Nat.le_of_ble_eq_true rfl⟩ m0 rfl hl.1 rfl (Nat.le_of_ble_eq_true rfl) ⟨Nat.le_of_ble_eq_true rfl, Nat.le_of_ble_eq_true rfl⟩ rfl dX5_drive_20 (fun r_4 u_6 H locs hr_5 hP hD hS hz_6 => ?_)
  obtain rfl := show r_4 = _ from hr_5
  have hP : va_P D vwCl (ws.set 0 (gd 0, zMod gd n nd nj my 0)) H := hP
  have hD : va_D A (ws.set 0 (gd 0, zMod gd n nd nj my 0)) := hD
  refine zb_ne (tgt := 28) hx hb dX5_drive_23 (by decide) (fun c_7 => ?_) (fun c_7 => Bool.noConfusion c_7)
  refine lv_aload_n hx hb dX5_drive_28 rfl (lv_at hl 0 rfl) ?_
  refine va_get (D := D) (ci := 5) (v := .ref (gd 9)) (C := RX5) (T := TX5) (N := 26) hx hb hts iX5 hown hZ.1 hP 0 (zset_s m0) rfl 10 (by decide) (hts (.fieldLink RX5 35 "TapeRoboticsModel" "make" "[I") (by decide +kernel)) (fun _ h9 => h9) rfl dX5_drive_29 ?_
  refine lv_aload_n hx hb dX5_drive_32 rfl (lv_at hl 0 rfl) ?_
  refine va_get (D := D) (ci := 5) (v := .int (nI (nd))) (C := RX5) (T := TX5) (N := 26) hx hb hts iX5 hown hZ.1 hP 0 (zset_s m0) rfl 9 (by decide) (hts (.fieldLink RX5 85 "TapeRoboticsModel" "drives" "I") (by decide +kernel)) (fun _ h9 => h9) rfl dX5_drive_33 ?_
  refine lv_iload_n hx hb dX5_drive_36 rfl (lv_at hl 1 rfl) ?_
  refine va_iast hx hb hZ.1 hP hD hS 9 0 (zset_n m9 (by decide)) rfl (vp_in_nI (show nd < 3 by omega) (by omega)) dX5_drive_37 (fun H locs hP hD hS => ?_)
  rw [nI_clamp (show nd < 2 ^ 31 by omega)] at hP hD
  rw [upd_nI] at hP hD
  have hP : va_P D vwCl ((ws.set 0 (gd 0, zMod gd n nd nj my 0)).set 9 (gd 9, zInts cA 3 (fun k => nI ((va_up mk nd a) k)))) H := hP
  have hD : va_D A ((ws.set 0 (gd 0, zMod gd n nd nj my 0)).set 9 (gd 9, zInts cA 3 (fun k => nI ((va_up mk nd a) k)))) := hD
  refine lv_aload_n hx hb dX5_drive_38 rfl (lv_at hl 0 rfl) ?_
  refine va_get (D := D) (ci := 5) (v := .ref (gd 12)) (C := RX5) (T := TX5) (N := 26) hx hb hts iX5 hown hZ.1 hP 0 (zset_n (zset_s m0) (by decide)) rfl 13 (by decide) (hts (.fieldLink RX5 44 "TapeRoboticsModel" "held" "[I") (by decide +kernel)) (fun _ h9 => h9) rfl dX5_drive_39 ?_
  refine lv_aload_n hx hb dX5_drive_42 rfl (lv_at hl 0 rfl) ?_
  refine va_get (D := D) (ci := 5) (v := .int (nI (nd))) (C := RX5) (T := TX5) (N := 26) hx hb hts iX5 hown hZ.1 hP 0 (zset_n (zset_s m0) (by decide)) rfl 9 (by decide) (hts (.fieldLink RX5 85 "TapeRoboticsModel" "drives" "I") (by decide +kernel)) (fun _ h9 => h9) rfl dX5_drive_43 ?_
  refine lv_iconst (v := (-1)) hx hb dX5_drive_46 (by decide) ?_
  refine va_iast hx hb hZ.1 hP hD hS 12 0 (zset_n (zset_n m12 (by decide)) (by decide)) rfl (vp_in_nI (show nd < 3 by omega) (by omega)) dX5_drive_47 (fun H locs hP hD hS => ?_)
  rw [nI_clamp (show nd < 2 ^ 31 by omega)] at hP hD
  rw [show (-1) = oI none from rfl, upd_oI] at hP hD
  have hP : va_P D vwCl (((ws.set 0 (gd 0, zMod gd n nd nj my 0)).set 9 (gd 9, zInts cA 3 (fun k => nI ((va_up mk nd a) k)))).set 12 (gd 12, zInts cA 3 (fun i => oI ((va_up hd nd none) i)))) H := hP
  have hD : va_D A (((ws.set 0 (gd 0, zMod gd n nd nj my 0)).set 9 (gd 9, zInts cA 3 (fun k => nI ((va_up mk nd a) k)))).set 12 (gd 12, zInts cA 3 (fun i => oI ((va_up hd nd none) i)))) := hD
  refine lv_aload_n hx hb dX5_drive_48 rfl (lv_at hl 0 rfl) ?_
  refine lv_dup hx hb dX5_drive_49 rfl ?_
  refine va_get (D := D) (ci := 5) (v := .int (nI (nd))) (C := RX5) (T := TX5) (N := 26) hx hb hts iX5 hown hZ.1 hP 0 (zset_n (zset_n (zset_s m0) (by decide)) (by decide)) rfl 9 (by decide) (hts (.fieldLink RX5 85 "TapeRoboticsModel" "drives" "I") (by decide +kernel)) (fun _ h9 => h9) rfl dX5_drive_50 ?_
  refine lv_iconst (v := nI (1)) hx hb dX5_drive_53 (by decide) ?_
  refine zo_add hx hb dX5_drive_54 ?_
  refine va_put (D := D) (ci := 5) (v := .int (nI (nd + 1))) (ty := .int) (C := RX5) (T := TX5) (N := 26) hx hb hts iX5 tyX5 tyX5_ok nmX5 hown hZ.1 hP hD hS 0 (zset_n (zset_n (zset_s m0) (by decide)) (by decide)) rfl 9 (by decide) (hts (.fieldLink RX5 85 "TapeRoboticsModel" "drives" "I") (by decide +kernel)) (fun _ h9 => h9) rfl (by decide +kernel) rfl rfl (Nat.le_of_ble_eq_true rfl) dX5_drive_55 (fun H locs hP hD hS => ?_)
  have hP : va_P D vwCl ((((ws.set 0 (gd 0, zMod gd n nd nj my 0)).set 9 (gd 9, zInts cA 3 (fun k => nI ((va_up mk nd a) k)))).set 12 (gd 12, zInts cA 3 (fun i => oI ((va_up hd nd none) i)))).set 0 (gd 0, zMod gd n (nd + 1) nj my 0)) H := hP
  have hD : va_D A ((((ws.set 0 (gd 0, zMod gd n nd nj my 0)).set 9 (gd 9, zInts cA 3 (fun k => nI ((va_up mk nd a) k)))).set 12 (gd 12, zInts cA 3 (fun i => oI ((va_up hd nd none) i)))).set 0 (gd 0, zMod gd n (nd + 1) nj my 0)) := hD
  refine lv_aload_n hx hb dX5_drive_58 rfl (lv_at hl 0 rfl) ?_
  refine va_get (D := D) (ci := 5) (v := .int (nI (nd + 1))) (C := RX5) (T := TX5) (N := 26) hx hb hts iX5 hown hZ.1 hP 0 (zset_s (zset_n (zset_n (zset_s m0) (by decide)) (by decide))) rfl 9 (by decide) (hts (.fieldLink RX5 85 "TapeRoboticsModel" "drives" "I") (by decide +kernel)) (fun _ h9 => h9) rfl dX5_drive_59 ?_
  refine lv_iconst (v := nI (1)) hx hb dX5_drive_62 (by decide) ?_
  refine lv_isub hx hb dX5_drive_63 ?_
  refine zx_val (y := nI (nd)) (by rw [pk_sub (by omega), Nat.add_sub_cancel]) ?_
  exact zr_qi (S := va_W) (w1 := fun u => u) ((((ws.set 0 (gd 0, zMod gd n nd nj my 0)).set 9 (gd 9, zInts cA 3 (fun k => nI ((va_up mk nd a) k)))).set 12 (gd 12, zInts cA 3 (fun i => oI ((va_up hd nd none) i)))).set 0 (gd 0, zMod gd n (nd + 1) nj my 0)) hx hb hr hlocks (⟨rfl, (mKeep_set (mKeep_set (mKeep_set (mKeep_set mKeep_rf (by decide)) (by decide)) (by decide)) (by decide)), (mL_0 (mL_12 (mL_9 (mL_0 hm0 n nd nj my 0) ((va_up mk nd a))) ((va_up hd nd none))) n (nd + 1) nj my 0)⟩) hP hD hS (rfl) dX5_drive_64

set_option maxHeartbeats 4000000 in
set_option maxRecDepth 100000 in
theorem c_X5_drive_no (l : Launch) (D : va_G) (cA : Nat → ClassId) (sz : Nat) (ws : va_W) {gd : Nat → Nat} {n : Nat} {tr : Nat → Nat} {le : Nat → Nat} {sl : Nat → Nat} {mo : Nat → Option Nat} {la : Nat → Bool} {fc : Nat → Nat} {sf : Nat → Int32} {bf : Nat → Int32} {nd : Nat} {mk : Nat → Nat} {ck : Nat → Int32} {ct : Nat → Nat} {hd : Nat → Option Nat} {pf : Nat → Int32} {nj : Nat} {jt : Nat → Int32} {jf : Nat → Nat} {dl : Nat → Nat} {fin : Nat → Bool} {my : Nat} {fls : Nat → Int32} {fod : Nat → Int32} {fle : Nat → Int32} {fro : Nat → Int32} {th : Nat} {bo : Nat → Nat → Nat} {pq : Nat → Int32} {fw : Nat → Int32} {dn : Nat} (hm : mL cA ws gd n tr le sl mo la fc sf bf nd mk ck ct hd pf nj jt jf dl fin my fls fod fle fro th) (hI : zI n tr le sl mo fc bo nd mk ct hd pq nj fw jf dl) (hM : mI n la fc bo nd ck ct hd pq pf nj fw jt fin sf bf dn) (v0 : Int32) (h0 : (kS (ix v0 2) (fun _ => decide (nd < 3))) ≠ 0) : Met l yX5_drive wsX5_drive ({ frames := 1, cells := 0, slots := 0, locals := 22 }) (va_Pc [.ref (gd 0), .int (v0)] (zM D cA (ws) sz)) (va_Qi (fun (r : Int32) (u : va_W) => mKeep ws u ∧ mL cA u gd n tr le sl mo la fc sf bf nd mk ck ct hd pf nj jt jf dl fin my fls fod fle fro (kS (ix v0 2) (fun _ => decide (nd < 3)))) (fun u => zB D (va_A (ws) sz) (u)) (va_A (ws) sz)) 0 0 (va_A (ws) sz) := by
  refine zOpen (cc := cX5_drive) (maxL := 2) (ret := (some .int)) (own := RX5) (by decide) rfl rfl (Nat.le_of_ble_eq_true rfl) ?_
  intro p e s m below meth c ls hx hb hr hml hts hown hlocks hnm ⟨hZ, hP, hD0, hsz⟩ hl
  subst hsz
  have hD := hD0.self (sz := s.heap.size)
  generalize hAe : va_A (ws) s.heap.size = A at hD ⊢
  have hA : ∀ q : Nat, s.heap.size ≤ q → A q := fun q h => by rw [← hAe]; exact Or.inr h
  have hS : va_S A s.heap s.heap [] := va_S.rf
  have iX5 : ∀ w ∈ wsX50, w ∈ wsX5_drive := by decide +kernel
  have hl : lv_has ls 2 [(0, .ref (gd 0)), (1, .int (v0))] := hl
  have hm0 := hm
  have hI0 := hI
  have hM0 := hM
  obtain ⟨hn8, hd3, hj60, hIT, hID, hIJ, hIdl, hIw⟩ := hI
  obtain ⟨hM1, hM2, hM3, hM4, hM5, hM6, hM7⟩ := hM
  obtain ⟨m0, m1, m2, m3, m4, m5, m6, m7, m8, m9, m10, m11, m12, m13, m14, m15, m16, m17, m18, m19, m20, m21⟩ := hm
  have hfc10 : ∀ i, i < n → fc i ≤ 10 := fun i hi => (hIT i hi).2.2.2.2.2.2.1
  have hsl12 : ∀ i, i < n → sl i < 12 := fun i hi => (hIT i hi).2.2.2.2.1
  have hH8 : ∀ j, j < nd → ∀ t, hd j = some t → t < 8 := fun j hj t h => by have := ((hID j hj).2.2.2 t h).1; omega
  have hmo3 : ∀ i, i < n → ∀ j, mo i = some j → j < nd := fun i hi j h => ((hIT i hi).2.2.2.2.2.1 j h).1
  have hfw : ∀ k, k < nj → fw k = if fin k then -1 else jt k := fun k hk => (hM5 k hk).1
  rcases kS_no h0 with ⟨ho, hK⟩ | ⟨a, ho, hc, hK⟩
  · refine lv_aload_n hx hb dX5_drive_0 rfl (lv_at hl 0 rfl) ?_
    refine lv_iload_n hx hb dX5_drive_1 rfl (lv_at hl 1 rfl) ?_
    refine lv_iconst (v := nI (0)) hx hb dX5_drive_2 (by decide) ?_
    refine lv_iconst (v := nI (1)) hx hb dX5_drive_3 (by decide) ?_
    refine zk_S_i (n := 3) (As := [.int (v0), .int (nI (0)), .int (nI (1))]) (rest := [.ref (gd 0)]) hx hb hml hts hown hZ hP (c_X5_isIn l D cA _ v0 (nI (0)) (nI (1))) gX5_drive_X5_isIn rfl ⟨rfl, rfl⟩ ⟨by decide +kernel, Nat.le_of_ble_eq_true rfl, Nat.le_of_ble_eq_true rfl⟩ hl.1 rfl (Nat.le_of_ble_eq_true rfl) ⟨Nat.le_of_ble_eq_true rfl, Nat.le_of_ble_eq_true rfl⟩ rfl dX5_drive_4 (fun r_1 hr_2 => ?_)
    obtain rfl := show r_1 = _ from hr_2
    refine zx_val (y := bI (false)) (by rw [show (decide (nI (0) ≤ v0) && decide (v0 ≤ nI (1))) = _ from isin_rg (by omega) (by omega), rg_0]; rw [ho]; rfl) ?_
    refine lv_aload_n hx hb dX5_drive_7 rfl (lv_at hl 0 rfl) ?_
    refine va_get (D := D) (ci := 5) (v := .int (nI (nd))) (C := RX5) (T := TX5) (N := 26) hx hb hts iX5 hown hZ.1 hP 0 m0 rfl 9 (by decide) (hts (.fieldLink RX5 85 "TapeRoboticsModel" "drives" "I") (by decide +kernel)) (fun _ h9 => h9) rfl dX5_drive_8 ?_
    refine lv_iconst (v := nI (3)) hx hb dX5_drive_11 (by decide) ?_
    refine zc_ge (tgt := 19) hx hb (by omega) (by omega) dX5_drive_12 (by decide) (fun c_3 => ?_) (fun c_3 => ?_)
    · refine lv_iconst (v := nI (0)) hx hb dX5_drive_19 (by decide) ?_
      refine zw_V_i (n := 2) (mc := 0) (ms := 0) (As := [.int (bI (false)), .int (bI (false))]) (rest := []) (w1 := fun u : Unit => ws.set 0 (gd 0, zMod gd n nd nj my 1)) hx hb hml hts hown hZ hP hD hS hA (c_X5_mayBoth l D cA _ _ gd n nd nj my th false false (m0)) gX5_drive_X5_mayBoth rfl rfl ⟨rfl, rfl⟩ ⟨by decide +kernel, Nat.le_of_ble_eq_true rfl, Nat.le_of_ble_eq_true rfl⟩ m0 rfl hl.1 rfl (Nat.le_of_ble_eq_true rfl) ⟨Nat.le_of_ble_eq_true rfl, Nat.le_of_ble_eq_true rfl⟩ rfl dX5_drive_20 (fun r_4 u_6 H locs hr_5 hP hD hS hz_6 => ?_)
      obtain rfl := show r_4 = _ from hr_5
      have hP : va_P D vwCl (ws.set 0 (gd 0, zMod gd n nd nj my 1)) H := hP
      have hD : va_D A (ws.set 0 (gd 0, zMod gd n nd nj my 1)) := hD
      refine zb_ne (tgt := 28) hx hb dX5_drive_23 (by decide) (fun c_7 => Bool.noConfusion c_7) (fun c_7 => ?_)
      refine lv_iconst (v := nI (0)) hx hb dX5_drive_26 (by decide) ?_
      exact zr_qi (S := va_W) (w1 := fun u => u) (ws.set 0 (gd 0, zMod gd n nd nj my 1)) hx hb hr hlocks (⟨(mKeep_set mKeep_rf (by decide)), (by rw [hK]; exact (mL_0 hm0 n nd nj my 1))⟩) hP hD hS (rfl) dX5_drive_27
    · refine lv_iconst (v := nI (1)) hx hb dX5_drive_15 (by decide) ?_
      refine lv_goto (tgt := 20) hx hb dX5_drive_16 (by decide) ?_
      refine zw_V_i (n := 2) (mc := 0) (ms := 0) (As := [.int (bI (false)), .int (bI (true))]) (rest := []) (w1 := fun u : Unit => ws.set 0 (gd 0, zMod gd n nd nj my 1)) hx hb hml hts hown hZ hP hD hS hA (c_X5_mayBoth l D cA _ _ gd n nd nj my th false true (m0)) gX5_drive_X5_mayBoth rfl rfl ⟨rfl, rfl⟩ ⟨by decide +kernel, Nat.le_of_ble_eq_true rfl, Nat.le_of_ble_eq_true rfl⟩ m0 rfl hl.1 rfl (Nat.le_of_ble_eq_true rfl) ⟨Nat.le_of_ble_eq_true rfl, Nat.le_of_ble_eq_true rfl⟩ rfl dX5_drive_20 (fun r_8 u_10 H locs hr_9 hP hD hS hz_10 => ?_)
      obtain rfl := show r_8 = _ from hr_9
      have hP : va_P D vwCl (ws.set 0 (gd 0, zMod gd n nd nj my 1)) H := hP
      have hD : va_D A (ws.set 0 (gd 0, zMod gd n nd nj my 1)) := hD
      refine zb_ne (tgt := 28) hx hb dX5_drive_23 (by decide) (fun c_11 => Bool.noConfusion c_11) (fun c_11 => ?_)
      refine lv_iconst (v := nI (0)) hx hb dX5_drive_26 (by decide) ?_
      exact zr_qi (S := va_W) (w1 := fun u => u) (ws.set 0 (gd 0, zMod gd n nd nj my 1)) hx hb hr hlocks (⟨(mKeep_set mKeep_rf (by decide)), (by rw [hK]; exact (mL_0 hm0 n nd nj my 1))⟩) hP hD hS (rfl) dX5_drive_27
  · have hc9 := of_decide_eq_false hc
    refine lv_aload_n hx hb dX5_drive_0 rfl (lv_at hl 0 rfl) ?_
    refine lv_iload_n hx hb dX5_drive_1 rfl (lv_at hl 1 rfl) ?_
    refine lv_iconst (v := nI (0)) hx hb dX5_drive_2 (by decide) ?_
    refine lv_iconst (v := nI (1)) hx hb dX5_drive_3 (by decide) ?_
    refine zk_S_i (n := 3) (As := [.int (v0), .int (nI (0)), .int (nI (1))]) (rest := [.ref (gd 0)]) hx hb hml hts hown hZ hP (c_X5_isIn l D cA _ v0 (nI (0)) (nI (1))) gX5_drive_X5_isIn rfl ⟨rfl, rfl⟩ ⟨by decide +kernel, Nat.le_of_ble_eq_true rfl, Nat.le_of_ble_eq_true rfl⟩ hl.1 rfl (Nat.le_of_ble_eq_true rfl) ⟨Nat.le_of_ble_eq_true rfl, Nat.le_of_ble_eq_true rfl⟩ rfl dX5_drive_4 (fun r_12 hr_13 => ?_)
    obtain rfl := show r_12 = _ from hr_13
    refine zx_val (y := bI (true)) (by rw [show (decide (nI (0) ≤ v0) && decide (v0 ≤ nI (1))) = _ from isin_rg (by omega) (by omega), rg_0]; rw [ho]; rfl) ?_
    refine lv_aload_n hx hb dX5_drive_7 rfl (lv_at hl 0 rfl) ?_
    refine va_get (D := D) (ci := 5) (v := .int (nI (nd))) (C := RX5) (T := TX5) (N := 26) hx hb hts iX5 hown hZ.1 hP 0 m0 rfl 9 (by decide) (hts (.fieldLink RX5 85 "TapeRoboticsModel" "drives" "I") (by decide +kernel)) (fun _ h9 => h9) rfl dX5_drive_8 ?_
    refine lv_iconst (v := nI (3)) hx hb dX5_drive_11 (by decide) ?_
    refine zc_ge (tgt := 19) hx hb (by omega) (by omega) dX5_drive_12 (by decide) (fun c_14 => ?_) (fun c_14 => False.elim (by omega))
    refine lv_iconst (v := nI (0)) hx hb dX5_drive_19 (by decide) ?_
    refine zw_V_i (n := 2) (mc := 0) (ms := 0) (As := [.int (bI (true)), .int (bI (false))]) (rest := []) (w1 := fun u : Unit => ws.set 0 (gd 0, zMod gd n nd nj my 2)) hx hb hml hts hown hZ hP hD hS hA (c_X5_mayBoth l D cA _ _ gd n nd nj my th true false (m0)) gX5_drive_X5_mayBoth rfl rfl ⟨rfl, rfl⟩ ⟨by decide +kernel, Nat.le_of_ble_eq_true rfl, Nat.le_of_ble_eq_true rfl⟩ m0 rfl hl.1 rfl (Nat.le_of_ble_eq_true rfl) ⟨Nat.le_of_ble_eq_true rfl, Nat.le_of_ble_eq_true rfl⟩ rfl dX5_drive_20 (fun r_15 u_17 H locs hr_16 hP hD hS hz_17 => ?_)
    obtain rfl := show r_15 = _ from hr_16
    have hP : va_P D vwCl (ws.set 0 (gd 0, zMod gd n nd nj my 2)) H := hP
    have hD : va_D A (ws.set 0 (gd 0, zMod gd n nd nj my 2)) := hD
    refine zb_ne (tgt := 28) hx hb dX5_drive_23 (by decide) (fun c_18 => Bool.noConfusion c_18) (fun c_18 => ?_)
    refine lv_iconst (v := nI (0)) hx hb dX5_drive_26 (by decide) ?_
    exact zr_qi (S := va_W) (w1 := fun u => u) (ws.set 0 (gd 0, zMod gd n nd nj my 2)) hx hb hr hlocks (⟨(mKeep_set mKeep_rf (by decide)), (by rw [hK]; exact (mL_0 hm0 n nd nj my 2))⟩) hP hD hS (rfl) dX5_drive_27

set_option maxHeartbeats 4000000 in
set_option maxRecDepth 100000 in
theorem c_X5_carry_ok (l : Launch) (D : va_G) (cA : Nat → ClassId) (sz : Nat) (ws : va_W) {gd : Nat → Nat} {n : Nat} {tr : Nat → Nat} {le : Nat → Nat} {sl : Nat → Nat} {mo : Nat → Option Nat} {la : Nat → Bool} {fc : Nat → Nat} {sf : Nat → Int32} {bf : Nat → Int32} {nd : Nat} {mk : Nat → Nat} {ck : Nat → Int32} {ct : Nat → Nat} {hd : Nat → Option Nat} {pf : Nat → Int32} {nj : Nat} {jt : Nat → Int32} {jf : Nat → Nat} {dl : Nat → Nat} {fin : Nat → Bool} {my : Nat} {fls : Nat → Int32} {fod : Nat → Int32} {fle : Nat → Int32} {fro : Nat → Int32} {th : Nat} {bo : Nat → Nat → Nat} {pq : Nat → Int32} {fw : Nat → Int32} {dn : Nat} (hm : mL cA ws gd n tr le sl mo la fc sf bf nd mk ck ct hd pf nj jt jf dl fin my fls fod fle fro th) (hI : zI n tr le sl mo fc bo nd mk ct hd pq nj fw jf dl) (hM : mI n la fc bo nd ck ct hd pq pf nj fw jt fin sf bf dn) (t g : Nat) (htn : t < n) (hg : g < 12) (hmt : mo t = none) (hf : fre sl g n = true) : Met l yX5_carry wsX5_carry ({ frames := 2, cells := 0, slots := 0, locals := 43 }) (va_Pc [.ref (gd 0), .int (nI (t)), .int (nI (g))] (zM D cA (ws) sz)) (va_Qi (fun (r : Int32) (u : va_W) => r = nI (sl t) ∧ mKeep ws u ∧ mL cA u gd n tr le (va_up sl t g) mo la fc sf bf nd mk ck ct hd pf nj jt jf dl fin my fls fod fle fro 0) (fun u => zB D (va_A (ws) sz) (u)) (va_A (ws) sz)) 0 0 (va_A (ws) sz) := by
  refine zOpen (cc := cX5_carry) (maxL := 5) (ret := (some .int)) (own := RX5) (by decide) rfl rfl (Nat.le_of_ble_eq_true rfl) ?_
  intro p e s m below meth c ls hx hb hr hml hts hown hlocks hnm ⟨hZ, hP, hD0, hsz⟩ hl
  subst hsz
  have hD := hD0.self (sz := s.heap.size)
  generalize hAe : va_A (ws) s.heap.size = A at hD ⊢
  have hA : ∀ q : Nat, s.heap.size ≤ q → A q := fun q h => by rw [← hAe]; exact Or.inr h
  have hS : va_S A s.heap s.heap [] := va_S.rf
  have iX5 : ∀ w ∈ wsX50, w ∈ wsX5_carry := by decide +kernel
  have hl : lv_has ls 5 [(0, .ref (gd 0)), (1, .int (nI (t))), (2, .int (nI (g)))] := hl
  have hm0 := hm
  have hI0 := hI
  have hM0 := hM
  obtain ⟨hn8, hd3, hj60, hIT, hID, hIJ, hIdl, hIw⟩ := hI
  obtain ⟨hM1, hM2, hM3, hM4, hM5, hM6, hM7⟩ := hM
  obtain ⟨m0, m1, m2, m3, m4, m5, m6, m7, m8, m9, m10, m11, m12, m13, m14, m15, m16, m17, m18, m19, m20, m21⟩ := hm
  have hfc10 : ∀ i, i < n → fc i ≤ 10 := fun i hi => (hIT i hi).2.2.2.2.2.2.1
  have hsl12 : ∀ i, i < n → sl i < 12 := fun i hi => (hIT i hi).2.2.2.2.1
  have hH8 : ∀ j, j < nd → ∀ t, hd j = some t → t < 8 := fun j hj t h => by have := ((hID j hj).2.2.2 t h).1; omega
  have hmo3 : ∀ i, i < n → ∀ j, mo i = some j → j < nd := fun i hi j h => ((hIT i hi).2.2.2.2.2.1 j h).1
  have hfw : ∀ k, k < nj → fw k = if fin k then -1 else jt k := fun k hk => (hM5 k hk).1
  refine lv_aload_n hx hb dX5_carry_0 rfl (lv_at hl 0 rfl) ?_
  refine lv_iload_n hx hb dX5_carry_1 rfl (lv_at hl 1 rfl) ?_
  refine zk_V_i (n := 1) (As := [.int (nI (t))]) (rest := []) hx hb hml hts hown hZ hP (c_X5_isTape l D cA _ hm0 (by omega) (nI (t))) gX5_carry_X5_isTape rfl rfl ⟨rfl, rfl⟩ ⟨by decide +kernel, Nat.le_of_ble_eq_true rfl, Nat.le_of_ble_eq_true rfl⟩ m0 rfl hl.1 rfl (Nat.le_of_ble_eq_true rfl) ⟨Nat.le_of_ble_eq_true rfl, Nat.le_of_ble_eq_true rfl⟩ rfl dX5_carry_2 (fun r_1 hr_2 => ?_)
  obtain rfl := show r_1 = _ from hr_2
  refine zx_val (y := bI (true)) (by rw [ix_in (by omega) htn]; rfl) ?_
  refine zb_eq (tgt := 22) hx hb dX5_carry_5 (by decide) (fun c_3 => Bool.noConfusion c_3) (fun c_3 => ?_)
  refine lv_iload_n hx hb dX5_carry_8 rfl (lv_at hl 2 rfl) ?_
  refine lv_iconst (v := nI (0)) hx hb dX5_carry_9 (by decide) ?_
  refine lv_bipush (v := nI (11)) hx hb dX5_carry_10 (by decide) ?_
  refine zk_S_i (n := 3) (As := [.int (nI (g)), .int (nI (0)), .int (nI (11))]) (rest := []) hx hb hml hts hown hZ hP (c_X5_isIn l D cA _ (nI (g)) (nI (0)) (nI (11))) gX5_carry_X5_isIn rfl ⟨rfl, rfl⟩ ⟨by decide +kernel, Nat.le_of_ble_eq_true rfl, Nat.le_of_ble_eq_true rfl⟩ hl.1 rfl (Nat.le_of_ble_eq_true rfl) ⟨Nat.le_of_ble_eq_true rfl, Nat.le_of_ble_eq_true rfl⟩ rfl dX5_carry_12 (fun r_4 hr_5 => ?_)
  obtain rfl := show r_4 = _ from hr_5
  refine zx_val (y := bI (true)) (by rw [show (decide (nI (0) ≤ nI (g)) && decide (nI (g) ≤ nI (11))) = _ from isin_rg (by omega) (by omega), rg_0]; rw [ix_in (by omega) (by omega)]; rfl) ?_
  refine zb_eq (tgt := 22) hx hb dX5_carry_15 (by decide) (fun c_6 => Bool.noConfusion c_6) (fun c_6 => ?_)
  refine lv_iconst (v := nI (1)) hx hb dX5_carry_18 (by decide) ?_
  refine lv_goto (tgt := 23) hx hb dX5_carry_19 (by decide) ?_
  refine lv_istore_n (lv' := [(3, .int (nI (1))), (0, .ref (gd 0)), (1, .int (nI (t))), (2, .int (nI (g)))]) hx hb dX5_carry_23 rfl hl (by decide) rfl (fun ls hl => ?_)
  refine lv_aload_n hx hb dX5_carry_24 rfl (lv_at hl 1 rfl) ?_
  refine lv_iload_n hx hb dX5_carry_25 rfl (lv_at hl 0 rfl) ?_
  refine lv_iload_n hx hb dX5_carry_26 rfl (lv_at hl 0 rfl) ?_
  refine zf_eq (tgt := 52) hx hb (by omega) dX5_carry_27 (by decide) (fun c_7 => False.elim (by omega)) (fun c_7 => ?_)
  refine lv_aload_n hx hb dX5_carry_30 rfl (lv_at hl 1 rfl) ?_
  refine va_get (D := D) (ci := 5) (v := .ref (gd 4)) (C := RX5) (T := TX5) (N := 26) hx hb hts iX5 hown hZ.1 hP 0 m0 rfl 4 (by decide) (hts (.fieldLink RX5 19 "TapeRoboticsModel" "mounted" "[I") (by decide +kernel)) (fun _ h9 => h9) rfl dX5_carry_31 ?_
  refine lv_iload_n hx hb dX5_carry_34 rfl (lv_at hl 2 rfl) ?_
  refine va_iald hx hb hZ.1 hP 4 0 m4 rfl (vp_in_nI (show t < 8 by omega) (by omega)) dX5_carry_35 ?_
  rw [nI_clamp (show t < 2 ^ 31 by omega)]
  refine zx_val (y := (-1)) (by rw [hmt]; rfl) ?_
  refine lv_iconst (v := (-1)) hx hb dX5_carry_36 (by decide) ?_
  refine lv_icmp_ne (tgt := 52) hx hb dX5_carry_37 (by decide) (fun c_8 => absurd rfl c_8) (fun c_8 => ?_)
  refine lv_aload_n hx hb dX5_carry_40 rfl (lv_at hl 1 rfl) ?_
  refine lv_iload_n hx hb dX5_carry_41 rfl (lv_at hl 3 rfl) ?_
  refine zk_V_i (n := 1) (As := [.int (nI (g))]) (rest := [.int (nI (1)), .ref (gd 0)]) hx hb hml hts hown hZ hP (c_X5_isFree l D cA _ hm0 hn8 hsl12 g (by omega)) gX5_carry_X5_isFree rfl rfl ⟨rfl, rfl⟩ ⟨by decide +kernel, Nat.le_of_ble_eq_true rfl, Nat.le_of_ble_eq_true rfl⟩ m0 rfl hl.1 rfl (Nat.le_of_ble_eq_true rfl) ⟨Nat.le_of_ble_eq_true rfl, Nat.le_of_ble_eq_true rfl⟩ rfl dX5_carry_42 (fun r_9 hr_10 => ?_)
  obtain rfl := show r_9 = _ from hr_10
  refine zx_val (y := bI (true)) (by rw [hf]) ?_
  refine zb_eq (tgt := 52) hx hb dX5_carry_45 (by decide) (fun c_11 => Bool.noConfusion c_11) (fun c_11 => ?_)
  refine lv_iconst (v := nI (1)) hx hb dX5_carry_48 (by decide) ?_
  refine lv_goto (tgt := 53) hx hb dX5_carry_49 (by decide) ?_
  refine zw_V_i (n := 2) (mc := 0) (ms := 0) (As := [.int (bI (true)), .int (bI (true))]) (rest := []) (w1 := fun u : Unit => ws.set 0 (gd 0, zMod gd n nd nj my 0)) hx hb hml hts hown hZ hP hD hS hA (c_X5_mayBoth l D cA _ _ gd n nd nj my th true true (m0)) gX5_carry_X5_mayBoth rfl rfl ⟨rfl, rfl⟩ ⟨by decide +kernel, Nat.le_of_ble_eq_true rfl, Nat.le_of_ble_eq_true rfl⟩ m0 rfl hl.1 rfl (Nat.le_of_ble_eq_true rfl) ⟨Nat.le_of_ble_eq_true rfl, Nat.le_of_ble_eq_true rfl⟩ rfl dX5_carry_53 (fun r_12 u_14 H locs hr_13 hP hD hS hz_14 => ?_)
  obtain rfl := show r_12 = _ from hr_13
  have hP : va_P D vwCl (ws.set 0 (gd 0, zMod gd n nd nj my 0)) H := hP
  have hD : va_D A (ws.set 0 (gd 0, zMod gd n nd nj my 0)) := hD
  refine zb_ne (tgt := 61) hx hb dX5_carry_56 (by decide) (fun c_15 => ?_) (fun c_15 => Bool.noConfusion c_15)
  refine lv_aload_n hx hb dX5_carry_61 rfl (lv_at hl 1 rfl) ?_
  refine va_get (D := D) (ci := 5) (v := .ref (gd 3)) (C := RX5) (T := TX5) (N := 26) hx hb hts iX5 hown hZ.1 hP 0 (zset_s m0) rfl 3 (by decide) (hts (.fieldLink RX5 16 "TapeRoboticsModel" "slot" "[I") (by decide +kernel)) (fun _ h9 => h9) rfl dX5_carry_62 ?_
  refine lv_iload_n hx hb dX5_carry_65 rfl (lv_at hl 2 rfl) ?_
  refine va_iald hx hb hZ.1 hP 3 0 (zset_n m3 (by decide)) rfl (vp_in_nI (show t < 8 by omega) (by omega)) dX5_carry_66 ?_
  rw [nI_clamp (show t < 2 ^ 31 by omega)]
  refine lv_istore (lv' := [(4, .int (nI (sl t))), (3, .int (nI (1))), (0, .ref (gd 0)), (1, .int (nI (t))), (2, .int (nI (g)))]) hx hb dX5_carry_67 hl (by decide) rfl (fun ls hl => ?_)
  refine lv_aload_n hx hb dX5_carry_69 rfl (lv_at hl 2 rfl) ?_
  refine va_get (D := D) (ci := 5) (v := .ref (gd 3)) (C := RX5) (T := TX5) (N := 26) hx hb hts iX5 hown hZ.1 hP 0 (zset_s m0) rfl 3 (by decide) (hts (.fieldLink RX5 16 "TapeRoboticsModel" "slot" "[I") (by decide +kernel)) (fun _ h9 => h9) rfl dX5_carry_70 ?_
  refine lv_iload_n hx hb dX5_carry_73 rfl (lv_at hl 3 rfl) ?_
  refine lv_iload_n hx hb dX5_carry_74 rfl (lv_at hl 4 rfl) ?_
  refine va_iast hx hb hZ.1 hP hD hS 3 0 (zset_n m3 (by decide)) rfl (vp_in_nI (show t < 8 by omega) (by omega)) dX5_carry_75 (fun H locs hP hD hS => ?_)
  rw [nI_clamp (show t < 2 ^ 31 by omega)] at hP hD
  rw [upd_nI] at hP hD
  have hP : va_P D vwCl ((ws.set 0 (gd 0, zMod gd n nd nj my 0)).set 3 (gd 3, zInts cA 8 (fun k => nI ((va_up sl t g) k)))) H := hP
  have hD : va_D A ((ws.set 0 (gd 0, zMod gd n nd nj my 0)).set 3 (gd 3, zInts cA 8 (fun k => nI ((va_up sl t g) k)))) := hD
  refine lv_iload hx hb dX5_carry_76 (lv_at hl 0 rfl) ?_
  exact zr_qi (S := va_W) (w1 := fun u => u) ((ws.set 0 (gd 0, zMod gd n nd nj my 0)).set 3 (gd 3, zInts cA 8 (fun k => nI ((va_up sl t g) k)))) hx hb hr hlocks (⟨rfl, (mKeep_set (mKeep_set mKeep_rf (by decide)) (by decide)), (mL_3 (mL_0 hm0 n nd nj my 0) ((va_up sl t g)))⟩) hP hD hS (rfl) dX5_carry_78

set_option maxHeartbeats 4000000 in
set_option maxRecDepth 100000 in
theorem c_X5_carry_no (l : Launch) (D : va_G) (cA : Nat → ClassId) (sz : Nat) (ws : va_W) {gd : Nat → Nat} {n : Nat} {tr : Nat → Nat} {le : Nat → Nat} {sl : Nat → Nat} {mo : Nat → Option Nat} {la : Nat → Bool} {fc : Nat → Nat} {sf : Nat → Int32} {bf : Nat → Int32} {nd : Nat} {mk : Nat → Nat} {ck : Nat → Int32} {ct : Nat → Nat} {hd : Nat → Option Nat} {pf : Nat → Int32} {nj : Nat} {jt : Nat → Int32} {jf : Nat → Nat} {dl : Nat → Nat} {fin : Nat → Bool} {my : Nat} {fls : Nat → Int32} {fod : Nat → Int32} {fle : Nat → Int32} {fro : Nat → Int32} {th : Nat} {bo : Nat → Nat → Nat} {pq : Nat → Int32} {fw : Nat → Int32} {dn : Nat} (hm : mL cA ws gd n tr le sl mo la fc sf bf nd mk ck ct hd pf nj jt jf dl fin my fls fod fle fro th) (hI : zI n tr le sl mo fc bo nd mk ct hd pq nj fw jf dl) (hM : mI n la fc bo nd ck ct hd pq pf nj fw jt fin sf bf dn) (v0 : Int32) (v1 : Int32) (h0 : (k2 (ix v0 n) (ix v1 12) (fun t g => !(mo t).isSome && fre sl g n)) ≠ 0) : Met l yX5_carry wsX5_carry ({ frames := 2, cells := 0, slots := 0, locals := 43 }) (va_Pc [.ref (gd 0), .int (v0), .int (v1)] (zM D cA (ws) sz)) (va_Qi (fun (r : Int32) (u : va_W) => mKeep ws u ∧ mL cA u gd n tr le sl mo la fc sf bf nd mk ck ct hd pf nj jt jf dl fin my fls fod fle fro (k2 (ix v0 n) (ix v1 12) (fun t g => !(mo t).isSome && fre sl g n))) (fun u => zB D (va_A (ws) sz) (u)) (va_A (ws) sz)) 0 0 (va_A (ws) sz) := by
  refine zOpen (cc := cX5_carry) (maxL := 5) (ret := (some .int)) (own := RX5) (by decide) rfl rfl (Nat.le_of_ble_eq_true rfl) ?_
  intro p e s m below meth c ls hx hb hr hml hts hown hlocks hnm ⟨hZ, hP, hD0, hsz⟩ hl
  subst hsz
  have hD := hD0.self (sz := s.heap.size)
  generalize hAe : va_A (ws) s.heap.size = A at hD ⊢
  have hA : ∀ q : Nat, s.heap.size ≤ q → A q := fun q h => by rw [← hAe]; exact Or.inr h
  have hS : va_S A s.heap s.heap [] := va_S.rf
  have iX5 : ∀ w ∈ wsX50, w ∈ wsX5_carry := by decide +kernel
  have hl : lv_has ls 5 [(0, .ref (gd 0)), (1, .int (v0)), (2, .int (v1))] := hl
  have hm0 := hm
  have hI0 := hI
  have hM0 := hM
  obtain ⟨hn8, hd3, hj60, hIT, hID, hIJ, hIdl, hIw⟩ := hI
  obtain ⟨hM1, hM2, hM3, hM4, hM5, hM6, hM7⟩ := hM
  obtain ⟨m0, m1, m2, m3, m4, m5, m6, m7, m8, m9, m10, m11, m12, m13, m14, m15, m16, m17, m18, m19, m20, m21⟩ := hm
  have hfc10 : ∀ i, i < n → fc i ≤ 10 := fun i hi => (hIT i hi).2.2.2.2.2.2.1
  have hsl12 : ∀ i, i < n → sl i < 12 := fun i hi => (hIT i hi).2.2.2.2.1
  have hH8 : ∀ j, j < nd → ∀ t, hd j = some t → t < 8 := fun j hj t h => by have := ((hID j hj).2.2.2 t h).1; omega
  have hmo3 : ∀ i, i < n → ∀ j, mo i = some j → j < nd := fun i hi j h => ((hIT i hi).2.2.2.2.2.1 j h).1
  have hfw : ∀ k, k < nj → fw k = if fin k then -1 else jt k := fun k hk => (hM5 k hk).1
  rcases k2_no h0 with ⟨ho, hK⟩ | ⟨a, ho, hq, hK⟩ | ⟨t, g, ho, hq, hc, hK⟩
  · refine lv_aload_n hx hb dX5_carry_0 rfl (lv_at hl 0 rfl) ?_
    refine lv_iload_n hx hb dX5_carry_1 rfl (lv_at hl 1 rfl) ?_
    refine zk_V_i (n := 1) (As := [.int (v0)]) (rest := []) hx hb hml hts hown hZ hP (c_X5_isTape l D cA _ hm0 (by omega) v0) gX5_carry_X5_isTape rfl rfl ⟨rfl, rfl⟩ ⟨by decide +kernel, Nat.le_of_ble_eq_true rfl, Nat.le_of_ble_eq_true rfl⟩ m0 rfl hl.1 rfl (Nat.le_of_ble_eq_true rfl) ⟨Nat.le_of_ble_eq_true rfl, Nat.le_of_ble_eq_true rfl⟩ rfl dX5_carry_2 (fun r_1 hr_2 => ?_)
    obtain rfl := show r_1 = _ from hr_2
    refine zx_val (y := bI (false)) (by rw [ho]; rfl) ?_
    refine zb_eq (tgt := 22) hx hb dX5_carry_5 (by decide) (fun c_3 => ?_) (fun c_3 => Bool.noConfusion c_3)
    refine lv_iconst (v := nI (0)) hx hb dX5_carry_22 (by decide) ?_
    refine lv_istore_n (lv' := [(3, .int (nI (0))), (0, .ref (gd 0)), (1, .int (v0)), (2, .int (v1))]) hx hb dX5_carry_23 rfl hl (by decide) rfl (fun ls hl => ?_)
    refine lv_aload_n hx hb dX5_carry_24 rfl (lv_at hl 1 rfl) ?_
    refine lv_iload_n hx hb dX5_carry_25 rfl (lv_at hl 0 rfl) ?_
    refine lv_iload_n hx hb dX5_carry_26 rfl (lv_at hl 0 rfl) ?_
    refine zf_eq (tgt := 52) hx hb (by omega) dX5_carry_27 (by decide) (fun c_4 => ?_) (fun c_4 => False.elim (by omega))
    refine lv_iconst (v := nI (0)) hx hb dX5_carry_52 (by decide) ?_
    refine zw_V_i (n := 2) (mc := 0) (ms := 0) (As := [.int (bI (false)), .int (bI (false))]) (rest := []) (w1 := fun u : Unit => ws.set 0 (gd 0, zMod gd n nd nj my 1)) hx hb hml hts hown hZ hP hD hS hA (c_X5_mayBoth l D cA _ _ gd n nd nj my th false false (m0)) gX5_carry_X5_mayBoth rfl rfl ⟨rfl, rfl⟩ ⟨by decide +kernel, Nat.le_of_ble_eq_true rfl, Nat.le_of_ble_eq_true rfl⟩ m0 rfl hl.1 rfl (Nat.le_of_ble_eq_true rfl) ⟨Nat.le_of_ble_eq_true rfl, Nat.le_of_ble_eq_true rfl⟩ rfl dX5_carry_53 (fun r_5 u_7 H locs hr_6 hP hD hS hz_7 => ?_)
    obtain rfl := show r_5 = _ from hr_6
    have hP : va_P D vwCl (ws.set 0 (gd 0, zMod gd n nd nj my 1)) H := hP
    have hD : va_D A (ws.set 0 (gd 0, zMod gd n nd nj my 1)) := hD
    refine zb_ne (tgt := 61) hx hb dX5_carry_56 (by decide) (fun c_8 => Bool.noConfusion c_8) (fun c_8 => ?_)
    refine lv_iconst (v := nI (0)) hx hb dX5_carry_59 (by decide) ?_
    exact zr_qi (S := va_W) (w1 := fun u => u) (ws.set 0 (gd 0, zMod gd n nd nj my 1)) hx hb hr hlocks (⟨(mKeep_set mKeep_rf (by decide)), (by rw [hK]; exact (mL_0 hm0 n nd nj my 1))⟩) hP hD hS (rfl) dX5_carry_60
  · obtain ⟨htn, rfl⟩ := ix_some ho
    have hl : lv_has ls 5 [(0, .ref (gd 0)), (1, .int (nI (a))), (2, .int (v1))] := hl
    refine lv_aload_n hx hb dX5_carry_0 rfl (lv_at hl 0 rfl) ?_
    refine lv_iload_n hx hb dX5_carry_1 rfl (lv_at hl 1 rfl) ?_
    refine zk_V_i (n := 1) (As := [.int (nI (a))]) (rest := []) hx hb hml hts hown hZ hP (c_X5_isTape l D cA _ hm0 (by omega) (nI (a))) gX5_carry_X5_isTape rfl rfl ⟨rfl, rfl⟩ ⟨by decide +kernel, Nat.le_of_ble_eq_true rfl, Nat.le_of_ble_eq_true rfl⟩ m0 rfl hl.1 rfl (Nat.le_of_ble_eq_true rfl) ⟨Nat.le_of_ble_eq_true rfl, Nat.le_of_ble_eq_true rfl⟩ rfl dX5_carry_2 (fun r_9 hr_10 => ?_)
    obtain rfl := show r_9 = _ from hr_10
    refine zx_val (y := bI (true)) (by rw [ix_in (by omega) htn]; rfl) ?_
    refine zb_eq (tgt := 22) hx hb dX5_carry_5 (by decide) (fun c_11 => Bool.noConfusion c_11) (fun c_11 => ?_)
    refine lv_iload_n hx hb dX5_carry_8 rfl (lv_at hl 2 rfl) ?_
    refine lv_iconst (v := nI (0)) hx hb dX5_carry_9 (by decide) ?_
    refine lv_bipush (v := nI (11)) hx hb dX5_carry_10 (by decide) ?_
    refine zk_S_i (n := 3) (As := [.int (v1), .int (nI (0)), .int (nI (11))]) (rest := []) hx hb hml hts hown hZ hP (c_X5_isIn l D cA _ v1 (nI (0)) (nI (11))) gX5_carry_X5_isIn rfl ⟨rfl, rfl⟩ ⟨by decide +kernel, Nat.le_of_ble_eq_true rfl, Nat.le_of_ble_eq_true rfl⟩ hl.1 rfl (Nat.le_of_ble_eq_true rfl) ⟨Nat.le_of_ble_eq_true rfl, Nat.le_of_ble_eq_true rfl⟩ rfl dX5_carry_12 (fun r_12 hr_13 => ?_)
    obtain rfl := show r_12 = _ from hr_13
    refine zx_val (y := bI (false)) (by rw [show (decide (nI (0) ≤ v1) && decide (v1 ≤ nI (11))) = _ from isin_rg (by omega) (by omega), rg_0]; rw [hq]; rfl) ?_
    refine zb_eq (tgt := 22) hx hb dX5_carry_15 (by decide) (fun c_14 => ?_) (fun c_14 => Bool.noConfusion c_14)
    refine lv_iconst (v := nI (0)) hx hb dX5_carry_22 (by decide) ?_
    refine lv_istore_n (lv' := [(3, .int (nI (0))), (0, .ref (gd 0)), (1, .int (nI (a))), (2, .int (v1))]) hx hb dX5_carry_23 rfl hl (by decide) rfl (fun ls hl => ?_)
    refine lv_aload_n hx hb dX5_carry_24 rfl (lv_at hl 1 rfl) ?_
    refine lv_iload_n hx hb dX5_carry_25 rfl (lv_at hl 0 rfl) ?_
    refine lv_iload_n hx hb dX5_carry_26 rfl (lv_at hl 0 rfl) ?_
    refine zf_eq (tgt := 52) hx hb (by omega) dX5_carry_27 (by decide) (fun c_15 => ?_) (fun c_15 => False.elim (by omega))
    refine lv_iconst (v := nI (0)) hx hb dX5_carry_52 (by decide) ?_
    refine zw_V_i (n := 2) (mc := 0) (ms := 0) (As := [.int (bI (false)), .int (bI (false))]) (rest := []) (w1 := fun u : Unit => ws.set 0 (gd 0, zMod gd n nd nj my 1)) hx hb hml hts hown hZ hP hD hS hA (c_X5_mayBoth l D cA _ _ gd n nd nj my th false false (m0)) gX5_carry_X5_mayBoth rfl rfl ⟨rfl, rfl⟩ ⟨by decide +kernel, Nat.le_of_ble_eq_true rfl, Nat.le_of_ble_eq_true rfl⟩ m0 rfl hl.1 rfl (Nat.le_of_ble_eq_true rfl) ⟨Nat.le_of_ble_eq_true rfl, Nat.le_of_ble_eq_true rfl⟩ rfl dX5_carry_53 (fun r_16 u_18 H locs hr_17 hP hD hS hz_18 => ?_)
    obtain rfl := show r_16 = _ from hr_17
    have hP : va_P D vwCl (ws.set 0 (gd 0, zMod gd n nd nj my 1)) H := hP
    have hD : va_D A (ws.set 0 (gd 0, zMod gd n nd nj my 1)) := hD
    refine zb_ne (tgt := 61) hx hb dX5_carry_56 (by decide) (fun c_19 => Bool.noConfusion c_19) (fun c_19 => ?_)
    refine lv_iconst (v := nI (0)) hx hb dX5_carry_59 (by decide) ?_
    exact zr_qi (S := va_W) (w1 := fun u => u) (ws.set 0 (gd 0, zMod gd n nd nj my 1)) hx hb hr hlocks (⟨(mKeep_set mKeep_rf (by decide)), (by rw [hK]; exact (mL_0 hm0 n nd nj my 1))⟩) hP hD hS (rfl) dX5_carry_60
  · obtain ⟨htn, rfl⟩ := ix_some ho
    obtain ⟨hgn, rfl⟩ := ix_some hq
    have hl : lv_has ls 5 [(0, .ref (gd 0)), (1, .int (nI (t))), (2, .int (nI (g)))] := hl
    rcases hmt : mo t with _ | j9
    · have hf : fre sl g n = false := by
        (try dsimp only at hc)
        rw [hmt] at hc; exact hc
      refine lv_aload_n hx hb dX5_carry_0 rfl (lv_at hl 0 rfl) ?_
      refine lv_iload_n hx hb dX5_carry_1 rfl (lv_at hl 1 rfl) ?_
      refine zk_V_i (n := 1) (As := [.int (nI (t))]) (rest := []) hx hb hml hts hown hZ hP (c_X5_isTape l D cA _ hm0 (by omega) (nI (t))) gX5_carry_X5_isTape rfl rfl ⟨rfl, rfl⟩ ⟨by decide +kernel, Nat.le_of_ble_eq_true rfl, Nat.le_of_ble_eq_true rfl⟩ m0 rfl hl.1 rfl (Nat.le_of_ble_eq_true rfl) ⟨Nat.le_of_ble_eq_true rfl, Nat.le_of_ble_eq_true rfl⟩ rfl dX5_carry_2 (fun r_20 hr_21 => ?_)
      obtain rfl := show r_20 = _ from hr_21
      refine zx_val (y := bI (true)) (by rw [ix_in (by omega) htn]; rfl) ?_
      refine zb_eq (tgt := 22) hx hb dX5_carry_5 (by decide) (fun c_22 => Bool.noConfusion c_22) (fun c_22 => ?_)
      refine lv_iload_n hx hb dX5_carry_8 rfl (lv_at hl 2 rfl) ?_
      refine lv_iconst (v := nI (0)) hx hb dX5_carry_9 (by decide) ?_
      refine lv_bipush (v := nI (11)) hx hb dX5_carry_10 (by decide) ?_
      refine zk_S_i (n := 3) (As := [.int (nI (g)), .int (nI (0)), .int (nI (11))]) (rest := []) hx hb hml hts hown hZ hP (c_X5_isIn l D cA _ (nI (g)) (nI (0)) (nI (11))) gX5_carry_X5_isIn rfl ⟨rfl, rfl⟩ ⟨by decide +kernel, Nat.le_of_ble_eq_true rfl, Nat.le_of_ble_eq_true rfl⟩ hl.1 rfl (Nat.le_of_ble_eq_true rfl) ⟨Nat.le_of_ble_eq_true rfl, Nat.le_of_ble_eq_true rfl⟩ rfl dX5_carry_12 (fun r_23 hr_24 => ?_)
      obtain rfl := show r_23 = _ from hr_24
      refine zx_val (y := bI (true)) (by rw [show (decide (nI (0) ≤ nI (g)) && decide (nI (g) ≤ nI (11))) = _ from isin_rg (by omega) (by omega), rg_0]; rw [hq]; rfl) ?_
      refine zb_eq (tgt := 22) hx hb dX5_carry_15 (by decide) (fun c_25 => Bool.noConfusion c_25) (fun c_25 => ?_)
      refine lv_iconst (v := nI (1)) hx hb dX5_carry_18 (by decide) ?_
      refine lv_goto (tgt := 23) hx hb dX5_carry_19 (by decide) ?_
      refine lv_istore_n (lv' := [(3, .int (nI (1))), (0, .ref (gd 0)), (1, .int (nI (t))), (2, .int (nI (g)))]) hx hb dX5_carry_23 rfl hl (by decide) rfl (fun ls hl => ?_)
      refine lv_aload_n hx hb dX5_carry_24 rfl (lv_at hl 1 rfl) ?_
      refine lv_iload_n hx hb dX5_carry_25 rfl (lv_at hl 0 rfl) ?_
      refine lv_iload_n hx hb dX5_carry_26 rfl (lv_at hl 0 rfl) ?_
      refine zf_eq (tgt := 52) hx hb (by omega) dX5_carry_27 (by decide) (fun c_26 => False.elim (by omega)) (fun c_26 => ?_)
      refine lv_aload_n hx hb dX5_carry_30 rfl (lv_at hl 1 rfl) ?_
      refine va_get (D := D) (ci := 5) (v := .ref (gd 4)) (C := RX5) (T := TX5) (N := 26) hx hb hts iX5 hown hZ.1 hP 0 m0 rfl 4 (by decide) (hts (.fieldLink RX5 19 "TapeRoboticsModel" "mounted" "[I") (by decide +kernel)) (fun _ h9 => h9) rfl dX5_carry_31 ?_
      refine lv_iload_n hx hb dX5_carry_34 rfl (lv_at hl 2 rfl) ?_
      refine va_iald hx hb hZ.1 hP 4 0 m4 rfl (vp_in_nI (show t < 8 by omega) (by omega)) dX5_carry_35 ?_
      rw [nI_clamp (show t < 2 ^ 31 by omega)]
      refine zx_val (y := (-1)) (by rw [hmt]; rfl) ?_
      refine lv_iconst (v := (-1)) hx hb dX5_carry_36 (by decide) ?_
      refine lv_icmp_ne (tgt := 52) hx hb dX5_carry_37 (by decide) (fun c_27 => absurd rfl c_27) (fun c_27 => ?_)
      refine lv_aload_n hx hb dX5_carry_40 rfl (lv_at hl 1 rfl) ?_
      refine lv_iload_n hx hb dX5_carry_41 rfl (lv_at hl 3 rfl) ?_
      refine zk_V_i (n := 1) (As := [.int (nI (g))]) (rest := [.int (nI (1)), .ref (gd 0)]) hx hb hml hts hown hZ hP (c_X5_isFree l D cA _ hm0 hn8 hsl12 g (by omega)) gX5_carry_X5_isFree rfl rfl ⟨rfl, rfl⟩ ⟨by decide +kernel, Nat.le_of_ble_eq_true rfl, Nat.le_of_ble_eq_true rfl⟩ m0 rfl hl.1 rfl (Nat.le_of_ble_eq_true rfl) ⟨Nat.le_of_ble_eq_true rfl, Nat.le_of_ble_eq_true rfl⟩ rfl dX5_carry_42 (fun r_28 hr_29 => ?_)
      obtain rfl := show r_28 = _ from hr_29
      refine zx_val (y := bI (false)) (by rw [hf]) ?_
      refine zb_eq (tgt := 52) hx hb dX5_carry_45 (by decide) (fun c_30 => ?_) (fun c_30 => Bool.noConfusion c_30)
      refine lv_iconst (v := nI (0)) hx hb dX5_carry_52 (by decide) ?_
      refine zw_V_i (n := 2) (mc := 0) (ms := 0) (As := [.int (bI (true)), .int (bI (false))]) (rest := []) (w1 := fun u : Unit => ws.set 0 (gd 0, zMod gd n nd nj my 2)) hx hb hml hts hown hZ hP hD hS hA (c_X5_mayBoth l D cA _ _ gd n nd nj my th true false (m0)) gX5_carry_X5_mayBoth rfl rfl ⟨rfl, rfl⟩ ⟨by decide +kernel, Nat.le_of_ble_eq_true rfl, Nat.le_of_ble_eq_true rfl⟩ m0 rfl hl.1 rfl (Nat.le_of_ble_eq_true rfl) ⟨Nat.le_of_ble_eq_true rfl, Nat.le_of_ble_eq_true rfl⟩ rfl dX5_carry_53 (fun r_31 u_33 H locs hr_32 hP hD hS hz_33 => ?_)
      obtain rfl := show r_31 = _ from hr_32
      have hP : va_P D vwCl (ws.set 0 (gd 0, zMod gd n nd nj my 2)) H := hP
      have hD : va_D A (ws.set 0 (gd 0, zMod gd n nd nj my 2)) := hD
      refine zb_ne (tgt := 61) hx hb dX5_carry_56 (by decide) (fun c_34 => Bool.noConfusion c_34) (fun c_34 => ?_)
      refine lv_iconst (v := nI (0)) hx hb dX5_carry_59 (by decide) ?_
      exact zr_qi (S := va_W) (w1 := fun u => u) (ws.set 0 (gd 0, zMod gd n nd nj my 2)) hx hb hr hlocks (⟨(mKeep_set mKeep_rf (by decide)), (by rw [hK]; exact (mL_0 hm0 n nd nj my 2))⟩) hP hD hS (rfl) dX5_carry_60
    · have hj9 := hmo3 t htn j9 hmt
      refine lv_aload_n hx hb dX5_carry_0 rfl (lv_at hl 0 rfl) ?_
      refine lv_iload_n hx hb dX5_carry_1 rfl (lv_at hl 1 rfl) ?_
      refine zk_V_i (n := 1) (As := [.int (nI (t))]) (rest := []) hx hb hml hts hown hZ hP (c_X5_isTape l D cA _ hm0 (by omega) (nI (t))) gX5_carry_X5_isTape rfl rfl ⟨rfl, rfl⟩ ⟨by decide +kernel, Nat.le_of_ble_eq_true rfl, Nat.le_of_ble_eq_true rfl⟩ m0 rfl hl.1 rfl (Nat.le_of_ble_eq_true rfl) ⟨Nat.le_of_ble_eq_true rfl, Nat.le_of_ble_eq_true rfl⟩ rfl dX5_carry_2 (fun r_35 hr_36 => ?_)
      obtain rfl := show r_35 = _ from hr_36
      refine zx_val (y := bI (true)) (by rw [ix_in (by omega) htn]; rfl) ?_
      refine zb_eq (tgt := 22) hx hb dX5_carry_5 (by decide) (fun c_37 => Bool.noConfusion c_37) (fun c_37 => ?_)
      refine lv_iload_n hx hb dX5_carry_8 rfl (lv_at hl 2 rfl) ?_
      refine lv_iconst (v := nI (0)) hx hb dX5_carry_9 (by decide) ?_
      refine lv_bipush (v := nI (11)) hx hb dX5_carry_10 (by decide) ?_
      refine zk_S_i (n := 3) (As := [.int (nI (g)), .int (nI (0)), .int (nI (11))]) (rest := []) hx hb hml hts hown hZ hP (c_X5_isIn l D cA _ (nI (g)) (nI (0)) (nI (11))) gX5_carry_X5_isIn rfl ⟨rfl, rfl⟩ ⟨by decide +kernel, Nat.le_of_ble_eq_true rfl, Nat.le_of_ble_eq_true rfl⟩ hl.1 rfl (Nat.le_of_ble_eq_true rfl) ⟨Nat.le_of_ble_eq_true rfl, Nat.le_of_ble_eq_true rfl⟩ rfl dX5_carry_12 (fun r_38 hr_39 => ?_)
      obtain rfl := show r_38 = _ from hr_39
      refine zx_val (y := bI (true)) (by rw [show (decide (nI (0) ≤ nI (g)) && decide (nI (g) ≤ nI (11))) = _ from isin_rg (by omega) (by omega), rg_0]; rw [hq]; rfl) ?_
      refine zb_eq (tgt := 22) hx hb dX5_carry_15 (by decide) (fun c_40 => Bool.noConfusion c_40) (fun c_40 => ?_)
      refine lv_iconst (v := nI (1)) hx hb dX5_carry_18 (by decide) ?_
      refine lv_goto (tgt := 23) hx hb dX5_carry_19 (by decide) ?_
      refine lv_istore_n (lv' := [(3, .int (nI (1))), (0, .ref (gd 0)), (1, .int (nI (t))), (2, .int (nI (g)))]) hx hb dX5_carry_23 rfl hl (by decide) rfl (fun ls hl => ?_)
      refine lv_aload_n hx hb dX5_carry_24 rfl (lv_at hl 1 rfl) ?_
      refine lv_iload_n hx hb dX5_carry_25 rfl (lv_at hl 0 rfl) ?_
      refine lv_iload_n hx hb dX5_carry_26 rfl (lv_at hl 0 rfl) ?_
      refine zf_eq (tgt := 52) hx hb (by omega) dX5_carry_27 (by decide) (fun c_41 => False.elim (by omega)) (fun c_41 => ?_)
      refine lv_aload_n hx hb dX5_carry_30 rfl (lv_at hl 1 rfl) ?_
      refine va_get (D := D) (ci := 5) (v := .ref (gd 4)) (C := RX5) (T := TX5) (N := 26) hx hb hts iX5 hown hZ.1 hP 0 m0 rfl 4 (by decide) (hts (.fieldLink RX5 19 "TapeRoboticsModel" "mounted" "[I") (by decide +kernel)) (fun _ h9 => h9) rfl dX5_carry_31 ?_
      refine lv_iload_n hx hb dX5_carry_34 rfl (lv_at hl 2 rfl) ?_
      refine va_iald hx hb hZ.1 hP 4 0 m4 rfl (vp_in_nI (show t < 8 by omega) (by omega)) dX5_carry_35 ?_
      rw [nI_clamp (show t < 2 ^ 31 by omega)]
      refine zx_val (y := nI (j9)) (by rw [hmt]; rfl) ?_
      refine lv_iconst (v := (-1)) hx hb dX5_carry_36 (by decide) ?_
      refine lv_icmp_ne (tgt := 52) hx hb dX5_carry_37 (by decide) (fun c_42 => ?_) (fun c_42 => absurd c_42 (nI_nm1 (by omega)))
      refine lv_iconst (v := nI (0)) hx hb dX5_carry_52 (by decide) ?_
      refine zw_V_i (n := 2) (mc := 0) (ms := 0) (As := [.int (bI (true)), .int (bI (false))]) (rest := []) (w1 := fun u : Unit => ws.set 0 (gd 0, zMod gd n nd nj my 2)) hx hb hml hts hown hZ hP hD hS hA (c_X5_mayBoth l D cA _ _ gd n nd nj my th true false (m0)) gX5_carry_X5_mayBoth rfl rfl ⟨rfl, rfl⟩ ⟨by decide +kernel, Nat.le_of_ble_eq_true rfl, Nat.le_of_ble_eq_true rfl⟩ m0 rfl hl.1 rfl (Nat.le_of_ble_eq_true rfl) ⟨Nat.le_of_ble_eq_true rfl, Nat.le_of_ble_eq_true rfl⟩ rfl dX5_carry_53 (fun r_43 u_45 H locs hr_44 hP hD hS hz_45 => ?_)
      obtain rfl := show r_43 = _ from hr_44
      have hP : va_P D vwCl (ws.set 0 (gd 0, zMod gd n nd nj my 2)) H := hP
      have hD : va_D A (ws.set 0 (gd 0, zMod gd n nd nj my 2)) := hD
      refine zb_ne (tgt := 61) hx hb dX5_carry_56 (by decide) (fun c_46 => Bool.noConfusion c_46) (fun c_46 => ?_)
      refine lv_iconst (v := nI (0)) hx hb dX5_carry_59 (by decide) ?_
      exact zr_qi (S := va_W) (w1 := fun u => u) (ws.set 0 (gd 0, zMod gd n nd nj my 2)) hx hb hr hlocks (⟨(mKeep_set mKeep_rf (by decide)), (by rw [hK]; exact (mL_0 hm0 n nd nj my 2))⟩) hP hD hS (rfl) dX5_carry_60

set_option maxHeartbeats 4000000 in
set_option maxRecDepth 100000 in
theorem c_X5_mount_ok (l : Launch) (D : va_G) (cA : Nat → ClassId) (sz : Nat) (ws : va_W) {gd : Nat → Nat} {n : Nat} {tr : Nat → Nat} {le : Nat → Nat} {sl : Nat → Nat} {mo : Nat → Option Nat} {la : Nat → Bool} {fc : Nat → Nat} {sf : Nat → Int32} {bf : Nat → Int32} {nd : Nat} {mk : Nat → Nat} {ck : Nat → Int32} {ct : Nat → Nat} {hd : Nat → Option Nat} {pf : Nat → Int32} {nj : Nat} {jt : Nat → Int32} {jf : Nat → Nat} {dl : Nat → Nat} {fin : Nat → Bool} {my : Nat} {fls : Nat → Int32} {fod : Nat → Int32} {fle : Nat → Int32} {fro : Nat → Int32} {th : Nat} {bo : Nat → Nat → Nat} {pq : Nat → Int32} {fw : Nat → Int32} {dn : Nat} (hm : mL cA ws gd n tr le sl mo la fc sf bf nd mk ck ct hd pf nj jt jf dl fin my fls fod fle fro th) (hI : zI n tr le sl mo fc bo nd mk ct hd pq nj fw jf dl) (hM : mI n la fc bo nd ck ct hd pq pf nj fw jt fin sf bf dn) (j t : Nat) (hjn : j < nd) (htn : t < n) (hhj : hd j = none) (hmt : mo t = none) (hla : la t = true) : Met l yX5_mount wsX5_mount ({ frames := 2, cells := 0, slots := 0, locals := 43 }) (va_Pc [.ref (gd 0), .int (nI (j)), .int (nI (t))] (zM D cA (ws) sz)) (va_Qi (fun (r : Int32) (u : va_W) => r = nI (20 + 2 * dif (4 * j) (sl t)) ∧ mKeep ws u ∧ mL cA u gd n tr le sl (va_up mo t (some j)) la fc sf bf nd mk (va_up ck j (ck j + nI (20 + 2 * dif (4 * j) (sl t)))) ct (va_up hd j (some t)) (va_up pf j (nI 0)) nj jt jf dl fin my fls fod fle fro 0) (fun u => zB D (va_A (ws) sz) (u)) (va_A (ws) sz)) 0 0 (va_A (ws) sz) := by
  refine zOpen (cc := cX5_mount) (maxL := 5) (ret := (some .int)) (own := RX5) (by decide) rfl rfl (Nat.le_of_ble_eq_true rfl) ?_
  intro p e s m below meth c ls hx hb hr hml hts hown hlocks hnm ⟨hZ, hP, hD0, hsz⟩ hl
  subst hsz
  have hD := hD0.self (sz := s.heap.size)
  generalize hAe : va_A (ws) s.heap.size = A at hD ⊢
  have hA : ∀ q : Nat, s.heap.size ≤ q → A q := fun q h => by rw [← hAe]; exact Or.inr h
  have hS : va_S A s.heap s.heap [] := va_S.rf
  have iX5 : ∀ w ∈ wsX50, w ∈ wsX5_mount := by decide +kernel
  have hl : lv_has ls 5 [(0, .ref (gd 0)), (1, .int (nI (j))), (2, .int (nI (t)))] := hl
  have hm0 := hm
  have hI0 := hI
  have hM0 := hM
  obtain ⟨hn8, hd3, hj60, hIT, hID, hIJ, hIdl, hIw⟩ := hI
  obtain ⟨hM1, hM2, hM3, hM4, hM5, hM6, hM7⟩ := hM
  obtain ⟨m0, m1, m2, m3, m4, m5, m6, m7, m8, m9, m10, m11, m12, m13, m14, m15, m16, m17, m18, m19, m20, m21⟩ := hm
  have hfc10 : ∀ i, i < n → fc i ≤ 10 := fun i hi => (hIT i hi).2.2.2.2.2.2.1
  have hsl12 : ∀ i, i < n → sl i < 12 := fun i hi => (hIT i hi).2.2.2.2.1
  have hH8 : ∀ j, j < nd → ∀ t, hd j = some t → t < 8 := fun j hj t h => by have := ((hID j hj).2.2.2 t h).1; omega
  have hmo3 : ∀ i, i < n → ∀ j, mo i = some j → j < nd := fun i hi j h => ((hIT i hi).2.2.2.2.2.1 j h).1
  have hfw : ∀ k, k < nj → fw k = if fin k then -1 else jt k := fun k hk => (hM5 k hk).1
  refine lv_aload_n hx hb dX5_mount_0 rfl (lv_at hl 0 rfl) ?_
  refine lv_iload_n hx hb dX5_mount_1 rfl (lv_at hl 1 rfl) ?_
  refine zk_V_i (n := 1) (As := [.int (nI (j))]) (rest := []) hx hb hml hts hown hZ hP (c_X5_isDrive l D cA _ hm0 (by omega) (nI (j))) gX5_mount_X5_isDrive rfl rfl ⟨rfl, rfl⟩ ⟨by decide +kernel, Nat.le_of_ble_eq_true rfl, Nat.le_of_ble_eq_true rfl⟩ m0 rfl hl.1 rfl (Nat.le_of_ble_eq_true rfl) ⟨Nat.le_of_ble_eq_true rfl, Nat.le_of_ble_eq_true rfl⟩ rfl dX5_mount_2 (fun r_1 hr_2 => ?_)
  obtain rfl := show r_1 = _ from hr_2
  refine zx_val (y := bI (true)) (by rw [ix_in (by omega) hjn]; rfl) ?_
  refine zb_eq (tgt := 20) hx hb dX5_mount_5 (by decide) (fun c_3 => Bool.noConfusion c_3) (fun c_3 => ?_)
  refine lv_aload_n hx hb dX5_mount_8 rfl (lv_at hl 0 rfl) ?_
  refine lv_iload_n hx hb dX5_mount_9 rfl (lv_at hl 2 rfl) ?_
  refine zk_V_i (n := 1) (As := [.int (nI (t))]) (rest := []) hx hb hml hts hown hZ hP (c_X5_isTape l D cA _ hm0 (by omega) (nI (t))) gX5_mount_X5_isTape rfl rfl ⟨rfl, rfl⟩ ⟨by decide +kernel, Nat.le_of_ble_eq_true rfl, Nat.le_of_ble_eq_true rfl⟩ m0 rfl hl.1 rfl (Nat.le_of_ble_eq_true rfl) ⟨Nat.le_of_ble_eq_true rfl, Nat.le_of_ble_eq_true rfl⟩ rfl dX5_mount_10 (fun r_4 hr_5 => ?_)
  obtain rfl := show r_4 = _ from hr_5
  refine zx_val (y := bI (true)) (by rw [ix_in (by omega) htn]; rfl) ?_
  refine zb_eq (tgt := 20) hx hb dX5_mount_13 (by decide) (fun c_6 => Bool.noConfusion c_6) (fun c_6 => ?_)
  refine lv_iconst (v := nI (1)) hx hb dX5_mount_16 (by decide) ?_
  refine lv_goto (tgt := 21) hx hb dX5_mount_17 (by decide) ?_
  refine lv_istore_n (lv' := [(3, .int (nI (1))), (0, .ref (gd 0)), (1, .int (nI (j))), (2, .int (nI (t)))]) hx hb dX5_mount_21 rfl hl (by decide) rfl (fun ls hl => ?_)
  refine lv_aload_n hx hb dX5_mount_22 rfl (lv_at hl 1 rfl) ?_
  refine lv_iload_n hx hb dX5_mount_23 rfl (lv_at hl 0 rfl) ?_
  refine lv_iload_n hx hb dX5_mount_24 rfl (lv_at hl 0 rfl) ?_
  refine zf_eq (tgt := 61) hx hb (by omega) dX5_mount_25 (by decide) (fun c_7 => False.elim (by omega)) (fun c_7 => ?_)
  refine lv_aload_n hx hb dX5_mount_28 rfl (lv_at hl 1 rfl) ?_
  refine va_get (D := D) (ci := 5) (v := .ref (gd 12)) (C := RX5) (T := TX5) (N := 26) hx hb hts iX5 hown hZ.1 hP 0 m0 rfl 13 (by decide) (hts (.fieldLink RX5 44 "TapeRoboticsModel" "held" "[I") (by decide +kernel)) (fun _ h9 => h9) rfl dX5_mount_29 ?_
  refine lv_iload_n hx hb dX5_mount_32 rfl (lv_at hl 2 rfl) ?_
  refine va_iald hx hb hZ.1 hP 12 0 m12 rfl (vp_in_nI (show j < 3 by omega) (by omega)) dX5_mount_33 ?_
  rw [nI_clamp (show j < 2 ^ 31 by omega)]
  refine zx_val (y := (-1)) (by rw [hhj]; rfl) ?_
  refine lv_iconst (v := (-1)) hx hb dX5_mount_34 (by decide) ?_
  refine lv_icmp_ne (tgt := 61) hx hb dX5_mount_35 (by decide) (fun c_8 => absurd rfl c_8) (fun c_8 => ?_)
  refine lv_aload_n hx hb dX5_mount_38 rfl (lv_at hl 1 rfl) ?_
  refine va_get (D := D) (ci := 5) (v := .ref (gd 4)) (C := RX5) (T := TX5) (N := 26) hx hb hts iX5 hown hZ.1 hP 0 m0 rfl 4 (by decide) (hts (.fieldLink RX5 19 "TapeRoboticsModel" "mounted" "[I") (by decide +kernel)) (fun _ h9 => h9) rfl dX5_mount_39 ?_
  refine lv_iload_n hx hb dX5_mount_42 rfl (lv_at hl 3 rfl) ?_
  refine va_iald hx hb hZ.1 hP 4 0 m4 rfl (vp_in_nI (show t < 8 by omega) (by omega)) dX5_mount_43 ?_
  rw [nI_clamp (show t < 2 ^ 31 by omega)]
  refine zx_val (y := (-1)) (by rw [hmt]; rfl) ?_
  refine lv_iconst (v := (-1)) hx hb dX5_mount_44 (by decide) ?_
  refine lv_icmp_ne (tgt := 61) hx hb dX5_mount_45 (by decide) (fun c_9 => absurd rfl c_9) (fun c_9 => ?_)
  refine lv_aload_n hx hb dX5_mount_48 rfl (lv_at hl 1 rfl) ?_
  refine va_get (D := D) (ci := 5) (v := .ref (gd 5)) (C := RX5) (T := TX5) (N := 26) hx hb hts iX5 hown hZ.1 hP 0 m0 rfl 5 (by decide) (hts (.fieldLink RX5 22 "TapeRoboticsModel" "lost" "[Z") (by decide +kernel)) (fun _ h9 => h9) rfl dX5_mount_49 ?_
  refine lv_iload_n hx hb dX5_mount_52 rfl (lv_at hl 3 rfl) ?_
  refine va_zald hx hb hZ.1 hP 5 3 m5 rfl (vp_in_nI (show t < 8 by omega) (by omega)) dX5_mount_53 ?_
  rw [nI_clamp (show t < 2 ^ 31 by omega)]
  refine zx_val (y := bI (false)) (by rw [hla]; rfl) ?_
  refine zb_ne (tgt := 61) hx hb dX5_mount_54 (by decide) (fun c_10 => Bool.noConfusion c_10) (fun c_10 => ?_)
  refine lv_iconst (v := nI (1)) hx hb dX5_mount_57 (by decide) ?_
  refine lv_goto (tgt := 62) hx hb dX5_mount_58 (by decide) ?_
  refine zw_V_i (n := 2) (mc := 0) (ms := 0) (As := [.int (bI (true)), .int (bI (true))]) (rest := []) (w1 := fun u : Unit => ws.set 0 (gd 0, zMod gd n nd nj my 0)) hx hb hml hts hown hZ hP hD hS hA (c_X5_mayBoth l D cA _ _ gd n nd nj my th true true (m0)) gX5_mount_X5_mayBoth rfl rfl ⟨rfl, rfl⟩ ⟨by decide +kernel, Nat.le_of_ble_eq_true rfl, Nat.le_of_ble_eq_true rfl⟩ m0 rfl hl.1 rfl (Nat.le_of_ble_eq_true rfl) ⟨Nat.le_of_ble_eq_true rfl, Nat.le_of_ble_eq_true rfl⟩ rfl dX5_mount_62 (fun r_11 u_13 H locs hr_12 hP hD hS hz_13 => ?_)
  obtain rfl := show r_11 = _ from hr_12
  have hP : va_P D vwCl (ws.set 0 (gd 0, zMod gd n nd nj my 0)) H := hP
  have hD : va_D A (ws.set 0 (gd 0, zMod gd n nd nj my 0)) := hD
  refine zb_ne (tgt := 70) hx hb dX5_mount_65 (by decide) (fun c_14 => ?_) (fun c_14 => Bool.noConfusion c_14)
  refine lv_aload_n hx hb dX5_mount_70 rfl (lv_at hl 1 rfl) ?_
  refine va_get (D := D) (ci := 5) (v := .ref (gd 12)) (C := RX5) (T := TX5) (N := 26) hx hb hts iX5 hown hZ.1 hP 0 (zset_s m0) rfl 13 (by decide) (hts (.fieldLink RX5 44 "TapeRoboticsModel" "held" "[I") (by decide +kernel)) (fun _ h9 => h9) rfl dX5_mount_71 ?_
  refine lv_iload_n hx hb dX5_mount_74 rfl (lv_at hl 2 rfl) ?_
  refine lv_iload_n hx hb dX5_mount_75 rfl (lv_at hl 3 rfl) ?_
  refine va_iast hx hb hZ.1 hP hD hS 12 0 (zset_n m12 (by decide)) rfl (vp_in_nI (show j < 3 by omega) (by omega)) dX5_mount_76 (fun H locs hP hD hS => ?_)
  rw [nI_clamp (show j < 2 ^ 31 by omega)] at hP hD
  rw [show nI (t) = oI (some t) from rfl, upd_oI] at hP hD
  have hP : va_P D vwCl ((ws.set 0 (gd 0, zMod gd n nd nj my 0)).set 12 (gd 12, zInts cA 3 (fun i => oI ((va_up hd j (some t)) i)))) H := hP
  have hD : va_D A ((ws.set 0 (gd 0, zMod gd n nd nj my 0)).set 12 (gd 12, zInts cA 3 (fun i => oI ((va_up hd j (some t)) i)))) := hD
  refine lv_aload_n hx hb dX5_mount_77 rfl (lv_at hl 1 rfl) ?_
  refine va_get (D := D) (ci := 5) (v := .ref (gd 4)) (C := RX5) (T := TX5) (N := 26) hx hb hts iX5 hown hZ.1 hP 0 (zset_n (zset_s m0) (by decide)) rfl 4 (by decide) (hts (.fieldLink RX5 19 "TapeRoboticsModel" "mounted" "[I") (by decide +kernel)) (fun _ h9 => h9) rfl dX5_mount_78 ?_
  refine lv_iload_n hx hb dX5_mount_81 rfl (lv_at hl 3 rfl) ?_
  refine lv_iload_n hx hb dX5_mount_82 rfl (lv_at hl 2 rfl) ?_
  refine va_iast hx hb hZ.1 hP hD hS 4 0 (zset_n (zset_n m4 (by decide)) (by decide)) rfl (vp_in_nI (show t < 8 by omega) (by omega)) dX5_mount_83 (fun H locs hP hD hS => ?_)
  rw [nI_clamp (show t < 2 ^ 31 by omega)] at hP hD
  rw [show nI (j) = oI (some j) from rfl, upd_oI] at hP hD
  have hP : va_P D vwCl (((ws.set 0 (gd 0, zMod gd n nd nj my 0)).set 12 (gd 12, zInts cA 3 (fun i => oI ((va_up hd j (some t)) i)))).set 4 (gd 4, zInts cA 8 (fun i => oI ((va_up mo t (some j)) i)))) H := hP
  have hD : va_D A (((ws.set 0 (gd 0, zMod gd n nd nj my 0)).set 12 (gd 12, zInts cA 3 (fun i => oI ((va_up hd j (some t)) i)))).set 4 (gd 4, zInts cA 8 (fun i => oI ((va_up mo t (some j)) i)))) := hD
  refine lv_aload_n hx hb dX5_mount_84 rfl (lv_at hl 1 rfl) ?_
  refine va_get (D := D) (ci := 5) (v := .ref (gd 13)) (C := RX5) (T := TX5) (N := 26) hx hb hts iX5 hown hZ.1 hP 0 (zset_n (zset_n (zset_s m0) (by decide)) (by decide)) rfl 14 (by decide) (hts (.fieldLink RX5 47 "TapeRoboticsModel" "stand" "[I") (by decide +kernel)) (fun _ h9 => h9) rfl dX5_mount_85 ?_
  refine lv_iload_n hx hb dX5_mount_88 rfl (lv_at hl 2 rfl) ?_
  refine lv_iconst (v := nI (0)) hx hb dX5_mount_89 (by decide) ?_
  refine va_iast hx hb hZ.1 hP hD hS 13 0 (zset_n (zset_n (zset_n m13 (by decide)) (by decide)) (by decide)) rfl (vp_in_nI (show j < 3 by omega) (by omega)) dX5_mount_90 (fun H locs hP hD hS => ?_)
  rw [nI_clamp (show j < 2 ^ 31 by omega)] at hP hD
  have hP : va_P D vwCl ((((ws.set 0 (gd 0, zMod gd n nd nj my 0)).set 12 (gd 12, zInts cA 3 (fun i => oI ((va_up hd j (some t)) i)))).set 4 (gd 4, zInts cA 8 (fun i => oI ((va_up mo t (some j)) i)))).set 13 (gd 13, zInts cA 3 (va_up pf j (nI (0))))) H := hP
  have hD : va_D A ((((ws.set 0 (gd 0, zMod gd n nd nj my 0)).set 12 (gd 12, zInts cA 3 (fun i => oI ((va_up hd j (some t)) i)))).set 4 (gd 4, zInts cA 8 (fun i => oI ((va_up mo t (some j)) i)))).set 13 (gd 13, zInts cA 3 (va_up pf j (nI (0))))) := hD
  refine lv_aload_n hx hb dX5_mount_91 rfl (lv_at hl 1 rfl) ?_
  refine lv_iload_n hx hb dX5_mount_92 rfl (lv_at hl 2 rfl) ?_
  refine lv_iload_n hx hb dX5_mount_93 rfl (lv_at hl 3 rfl) ?_
  refine zk_V_i (n := 2) (As := [.int (nI (j)), .int (nI (t))]) (rest := []) hx hb hml hts hown hZ hP (c_X5_robot l D cA _ ((mL_13 (mL_4 (mL_12 (mL_0 hm0 n nd nj my 0) ((va_up hd j (some t)))) ((va_up mo t (some j)))) ((va_up pf j (nI (0)))))) j t (by omega) (by omega) (hsl12 _ (by omega))) gX5_mount_X5_robot rfl rfl ⟨rfl, rfl⟩ ⟨by decide +kernel, Nat.le_of_ble_eq_true rfl, Nat.le_of_ble_eq_true rfl⟩ (zset_n (zset_n (zset_n (zset_s m0) (by decide)) (by decide)) (by decide)) rfl hl.1 rfl (Nat.le_of_ble_eq_true rfl) ⟨Nat.le_of_ble_eq_true rfl, Nat.le_of_ble_eq_true rfl⟩ rfl dX5_mount_94 (fun r_15 hr_16 => ?_)
  obtain rfl := show r_15 = _ from hr_16
  refine lv_istore (lv' := [(4, .int (nI (20 + 2 * dif (4 * j) (sl t)))), (3, .int (nI (1))), (0, .ref (gd 0)), (1, .int (nI (j))), (2, .int (nI (t)))]) hx hb dX5_mount_97 hl (by decide) rfl (fun ls hl => ?_)
  refine lv_aload_n hx hb dX5_mount_99 rfl (lv_at hl 2 rfl) ?_
  refine va_get (D := D) (ci := 5) (v := .ref (gd 10)) (C := RX5) (T := TX5) (N := 26) hx hb hts iX5 hown hZ.1 hP 0 (zset_n (zset_n (zset_n (zset_s m0) (by decide)) (by decide)) (by decide)) rfl 11 (by decide) (hts (.fieldLink RX5 38 "TapeRoboticsModel" "clock" "[I") (by decide +kernel)) (fun _ h9 => h9) rfl dX5_mount_100 ?_
  refine lv_iload_n hx hb dX5_mount_103 rfl (lv_at hl 3 rfl) ?_
  refine lv_dup2_11 hx hb dX5_mount_104 rfl rfl ?_
  refine va_iald hx hb hZ.1 hP 10 0 (zset_n (zset_n (zset_n (zset_n m10 (by decide)) (by decide)) (by decide)) (by decide)) rfl (vp_in_nI (show j < 3 by omega) (by omega)) dX5_mount_105 ?_
  rw [nI_clamp (show j < 2 ^ 31 by omega)]
  refine lv_iload hx hb dX5_mount_106 (lv_at hl 0 rfl) ?_
  refine lv_iadd hx hb dX5_mount_108 ?_
  refine va_iast hx hb hZ.1 hP hD hS 10 0 (zset_n (zset_n (zset_n (zset_n m10 (by decide)) (by decide)) (by decide)) (by decide)) rfl (vp_in_nI (show j < 3 by omega) (by omega)) dX5_mount_109 (fun H locs hP hD hS => ?_)
  rw [nI_clamp (show j < 2 ^ 31 by omega)] at hP hD
  have hP : va_P D vwCl (((((ws.set 0 (gd 0, zMod gd n nd nj my 0)).set 12 (gd 12, zInts cA 3 (fun i => oI ((va_up hd j (some t)) i)))).set 4 (gd 4, zInts cA 8 (fun i => oI ((va_up mo t (some j)) i)))).set 13 (gd 13, zInts cA 3 (va_up pf j (nI (0))))).set 10 (gd 10, zInts cA 3 (va_up ck j ((ck j) + (nI (20 + 2 * dif (4 * j) (sl t))))))) H := hP
  have hD : va_D A (((((ws.set 0 (gd 0, zMod gd n nd nj my 0)).set 12 (gd 12, zInts cA 3 (fun i => oI ((va_up hd j (some t)) i)))).set 4 (gd 4, zInts cA 8 (fun i => oI ((va_up mo t (some j)) i)))).set 13 (gd 13, zInts cA 3 (va_up pf j (nI (0))))).set 10 (gd 10, zInts cA 3 (va_up ck j ((ck j) + (nI (20 + 2 * dif (4 * j) (sl t))))))) := hD
  refine lv_iload hx hb dX5_mount_110 (lv_at hl 0 rfl) ?_
  exact zr_qi (S := va_W) (w1 := fun u => u) (((((ws.set 0 (gd 0, zMod gd n nd nj my 0)).set 12 (gd 12, zInts cA 3 (fun i => oI ((va_up hd j (some t)) i)))).set 4 (gd 4, zInts cA 8 (fun i => oI ((va_up mo t (some j)) i)))).set 13 (gd 13, zInts cA 3 (va_up pf j (nI (0))))).set 10 (gd 10, zInts cA 3 (va_up ck j ((ck j) + (nI (20 + 2 * dif (4 * j) (sl t))))))) hx hb hr hlocks (⟨rfl, (mKeep_set (mKeep_set (mKeep_set (mKeep_set (mKeep_set mKeep_rf (by decide)) (by decide)) (by decide)) (by decide)) (by decide)), (mL_10 (mL_13 (mL_4 (mL_12 (mL_0 hm0 n nd nj my 0) ((va_up hd j (some t)))) ((va_up mo t (some j)))) ((va_up pf j (nI (0))))) ((va_up ck j ((ck j) + (nI (20 + 2 * dif (4 * j) (sl t)))))))⟩) hP hD hS (rfl) dX5_mount_112

set_option maxHeartbeats 4000000 in
set_option maxRecDepth 100000 in
theorem c_X5_mount_no (l : Launch) (D : va_G) (cA : Nat → ClassId) (sz : Nat) (ws : va_W) {gd : Nat → Nat} {n : Nat} {tr : Nat → Nat} {le : Nat → Nat} {sl : Nat → Nat} {mo : Nat → Option Nat} {la : Nat → Bool} {fc : Nat → Nat} {sf : Nat → Int32} {bf : Nat → Int32} {nd : Nat} {mk : Nat → Nat} {ck : Nat → Int32} {ct : Nat → Nat} {hd : Nat → Option Nat} {pf : Nat → Int32} {nj : Nat} {jt : Nat → Int32} {jf : Nat → Nat} {dl : Nat → Nat} {fin : Nat → Bool} {my : Nat} {fls : Nat → Int32} {fod : Nat → Int32} {fle : Nat → Int32} {fro : Nat → Int32} {th : Nat} {bo : Nat → Nat → Nat} {pq : Nat → Int32} {fw : Nat → Int32} {dn : Nat} (hm : mL cA ws gd n tr le sl mo la fc sf bf nd mk ck ct hd pf nj jt jf dl fin my fls fod fle fro th) (hI : zI n tr le sl mo fc bo nd mk ct hd pq nj fw jf dl) (hM : mI n la fc bo nd ck ct hd pq pf nj fw jt fin sf bf dn) (v0 : Int32) (v1 : Int32) (h0 : (k2 (ix v0 nd) (ix v1 n) (fun j t => (hd j).isNone && !(mo t).isSome && la t)) ≠ 0) : Met l yX5_mount wsX5_mount ({ frames := 2, cells := 0, slots := 0, locals := 43 }) (va_Pc [.ref (gd 0), .int (v0), .int (v1)] (zM D cA (ws) sz)) (va_Qi (fun (r : Int32) (u : va_W) => mKeep ws u ∧ mL cA u gd n tr le sl mo la fc sf bf nd mk ck ct hd pf nj jt jf dl fin my fls fod fle fro (k2 (ix v0 nd) (ix v1 n) (fun j t => (hd j).isNone && !(mo t).isSome && la t))) (fun u => zB D (va_A (ws) sz) (u)) (va_A (ws) sz)) 0 0 (va_A (ws) sz) := by
  refine zOpen (cc := cX5_mount) (maxL := 5) (ret := (some .int)) (own := RX5) (by decide) rfl rfl (Nat.le_of_ble_eq_true rfl) ?_
  intro p e s m below meth c ls hx hb hr hml hts hown hlocks hnm ⟨hZ, hP, hD0, hsz⟩ hl
  subst hsz
  have hD := hD0.self (sz := s.heap.size)
  generalize hAe : va_A (ws) s.heap.size = A at hD ⊢
  have hA : ∀ q : Nat, s.heap.size ≤ q → A q := fun q h => by rw [← hAe]; exact Or.inr h
  have hS : va_S A s.heap s.heap [] := va_S.rf
  have iX5 : ∀ w ∈ wsX50, w ∈ wsX5_mount := by decide +kernel
  have hl : lv_has ls 5 [(0, .ref (gd 0)), (1, .int (v0)), (2, .int (v1))] := hl
  have hm0 := hm
  have hI0 := hI
  have hM0 := hM
  obtain ⟨hn8, hd3, hj60, hIT, hID, hIJ, hIdl, hIw⟩ := hI
  obtain ⟨hM1, hM2, hM3, hM4, hM5, hM6, hM7⟩ := hM
  obtain ⟨m0, m1, m2, m3, m4, m5, m6, m7, m8, m9, m10, m11, m12, m13, m14, m15, m16, m17, m18, m19, m20, m21⟩ := hm
  have hfc10 : ∀ i, i < n → fc i ≤ 10 := fun i hi => (hIT i hi).2.2.2.2.2.2.1
  have hsl12 : ∀ i, i < n → sl i < 12 := fun i hi => (hIT i hi).2.2.2.2.1
  have hH8 : ∀ j, j < nd → ∀ t, hd j = some t → t < 8 := fun j hj t h => by have := ((hID j hj).2.2.2 t h).1; omega
  have hmo3 : ∀ i, i < n → ∀ j, mo i = some j → j < nd := fun i hi j h => ((hIT i hi).2.2.2.2.2.1 j h).1
  have hfw : ∀ k, k < nj → fw k = if fin k then -1 else jt k := fun k hk => (hM5 k hk).1
  rcases k2_no h0 with ⟨ho, hK⟩ | ⟨a, ho, hq, hK⟩ | ⟨j, t, ho, hq, hc, hK⟩
  · refine lv_aload_n hx hb dX5_mount_0 rfl (lv_at hl 0 rfl) ?_
    refine lv_iload_n hx hb dX5_mount_1 rfl (lv_at hl 1 rfl) ?_
    refine zk_V_i (n := 1) (As := [.int (v0)]) (rest := []) hx hb hml hts hown hZ hP (c_X5_isDrive l D cA _ hm0 (by omega) v0) gX5_mount_X5_isDrive rfl rfl ⟨rfl, rfl⟩ ⟨by decide +kernel, Nat.le_of_ble_eq_true rfl, Nat.le_of_ble_eq_true rfl⟩ m0 rfl hl.1 rfl (Nat.le_of_ble_eq_true rfl) ⟨Nat.le_of_ble_eq_true rfl, Nat.le_of_ble_eq_true rfl⟩ rfl dX5_mount_2 (fun r_1 hr_2 => ?_)
    obtain rfl := show r_1 = _ from hr_2
    refine zx_val (y := bI (false)) (by rw [ho]; rfl) ?_
    refine zb_eq (tgt := 20) hx hb dX5_mount_5 (by decide) (fun c_3 => ?_) (fun c_3 => Bool.noConfusion c_3)
    refine lv_iconst (v := nI (0)) hx hb dX5_mount_20 (by decide) ?_
    refine lv_istore_n (lv' := [(3, .int (nI (0))), (0, .ref (gd 0)), (1, .int (v0)), (2, .int (v1))]) hx hb dX5_mount_21 rfl hl (by decide) rfl (fun ls hl => ?_)
    refine lv_aload_n hx hb dX5_mount_22 rfl (lv_at hl 1 rfl) ?_
    refine lv_iload_n hx hb dX5_mount_23 rfl (lv_at hl 0 rfl) ?_
    refine lv_iload_n hx hb dX5_mount_24 rfl (lv_at hl 0 rfl) ?_
    refine zf_eq (tgt := 61) hx hb (by omega) dX5_mount_25 (by decide) (fun c_4 => ?_) (fun c_4 => False.elim (by omega))
    refine lv_iconst (v := nI (0)) hx hb dX5_mount_61 (by decide) ?_
    refine zw_V_i (n := 2) (mc := 0) (ms := 0) (As := [.int (bI (false)), .int (bI (false))]) (rest := []) (w1 := fun u : Unit => ws.set 0 (gd 0, zMod gd n nd nj my 1)) hx hb hml hts hown hZ hP hD hS hA (c_X5_mayBoth l D cA _ _ gd n nd nj my th false false (m0)) gX5_mount_X5_mayBoth rfl rfl ⟨rfl, rfl⟩ ⟨by decide +kernel, Nat.le_of_ble_eq_true rfl, Nat.le_of_ble_eq_true rfl⟩ m0 rfl hl.1 rfl (Nat.le_of_ble_eq_true rfl) ⟨Nat.le_of_ble_eq_true rfl, Nat.le_of_ble_eq_true rfl⟩ rfl dX5_mount_62 (fun r_5 u_7 H locs hr_6 hP hD hS hz_7 => ?_)
    obtain rfl := show r_5 = _ from hr_6
    have hP : va_P D vwCl (ws.set 0 (gd 0, zMod gd n nd nj my 1)) H := hP
    have hD : va_D A (ws.set 0 (gd 0, zMod gd n nd nj my 1)) := hD
    refine zb_ne (tgt := 70) hx hb dX5_mount_65 (by decide) (fun c_8 => Bool.noConfusion c_8) (fun c_8 => ?_)
    refine lv_iconst (v := nI (0)) hx hb dX5_mount_68 (by decide) ?_
    exact zr_qi (S := va_W) (w1 := fun u => u) (ws.set 0 (gd 0, zMod gd n nd nj my 1)) hx hb hr hlocks (⟨(mKeep_set mKeep_rf (by decide)), (by rw [hK]; exact (mL_0 hm0 n nd nj my 1))⟩) hP hD hS (rfl) dX5_mount_69
  · obtain ⟨hjn, rfl⟩ := ix_some ho
    have hl : lv_has ls 5 [(0, .ref (gd 0)), (1, .int (nI (a))), (2, .int (v1))] := hl
    refine lv_aload_n hx hb dX5_mount_0 rfl (lv_at hl 0 rfl) ?_
    refine lv_iload_n hx hb dX5_mount_1 rfl (lv_at hl 1 rfl) ?_
    refine zk_V_i (n := 1) (As := [.int (nI (a))]) (rest := []) hx hb hml hts hown hZ hP (c_X5_isDrive l D cA _ hm0 (by omega) (nI (a))) gX5_mount_X5_isDrive rfl rfl ⟨rfl, rfl⟩ ⟨by decide +kernel, Nat.le_of_ble_eq_true rfl, Nat.le_of_ble_eq_true rfl⟩ m0 rfl hl.1 rfl (Nat.le_of_ble_eq_true rfl) ⟨Nat.le_of_ble_eq_true rfl, Nat.le_of_ble_eq_true rfl⟩ rfl dX5_mount_2 (fun r_9 hr_10 => ?_)
    obtain rfl := show r_9 = _ from hr_10
    refine zx_val (y := bI (true)) (by rw [ix_in (by omega) hjn]; rfl) ?_
    refine zb_eq (tgt := 20) hx hb dX5_mount_5 (by decide) (fun c_11 => Bool.noConfusion c_11) (fun c_11 => ?_)
    refine lv_aload_n hx hb dX5_mount_8 rfl (lv_at hl 0 rfl) ?_
    refine lv_iload_n hx hb dX5_mount_9 rfl (lv_at hl 2 rfl) ?_
    refine zk_V_i (n := 1) (As := [.int (v1)]) (rest := []) hx hb hml hts hown hZ hP (c_X5_isTape l D cA _ hm0 (by omega) v1) gX5_mount_X5_isTape rfl rfl ⟨rfl, rfl⟩ ⟨by decide +kernel, Nat.le_of_ble_eq_true rfl, Nat.le_of_ble_eq_true rfl⟩ m0 rfl hl.1 rfl (Nat.le_of_ble_eq_true rfl) ⟨Nat.le_of_ble_eq_true rfl, Nat.le_of_ble_eq_true rfl⟩ rfl dX5_mount_10 (fun r_12 hr_13 => ?_)
    obtain rfl := show r_12 = _ from hr_13
    refine zx_val (y := bI (false)) (by rw [hq]; rfl) ?_
    refine zb_eq (tgt := 20) hx hb dX5_mount_13 (by decide) (fun c_14 => ?_) (fun c_14 => Bool.noConfusion c_14)
    refine lv_iconst (v := nI (0)) hx hb dX5_mount_20 (by decide) ?_
    refine lv_istore_n (lv' := [(3, .int (nI (0))), (0, .ref (gd 0)), (1, .int (nI (a))), (2, .int (v1))]) hx hb dX5_mount_21 rfl hl (by decide) rfl (fun ls hl => ?_)
    refine lv_aload_n hx hb dX5_mount_22 rfl (lv_at hl 1 rfl) ?_
    refine lv_iload_n hx hb dX5_mount_23 rfl (lv_at hl 0 rfl) ?_
    refine lv_iload_n hx hb dX5_mount_24 rfl (lv_at hl 0 rfl) ?_
    refine zf_eq (tgt := 61) hx hb (by omega) dX5_mount_25 (by decide) (fun c_15 => ?_) (fun c_15 => False.elim (by omega))
    refine lv_iconst (v := nI (0)) hx hb dX5_mount_61 (by decide) ?_
    refine zw_V_i (n := 2) (mc := 0) (ms := 0) (As := [.int (bI (false)), .int (bI (false))]) (rest := []) (w1 := fun u : Unit => ws.set 0 (gd 0, zMod gd n nd nj my 1)) hx hb hml hts hown hZ hP hD hS hA (c_X5_mayBoth l D cA _ _ gd n nd nj my th false false (m0)) gX5_mount_X5_mayBoth rfl rfl ⟨rfl, rfl⟩ ⟨by decide +kernel, Nat.le_of_ble_eq_true rfl, Nat.le_of_ble_eq_true rfl⟩ m0 rfl hl.1 rfl (Nat.le_of_ble_eq_true rfl) ⟨Nat.le_of_ble_eq_true rfl, Nat.le_of_ble_eq_true rfl⟩ rfl dX5_mount_62 (fun r_16 u_18 H locs hr_17 hP hD hS hz_18 => ?_)
    obtain rfl := show r_16 = _ from hr_17
    have hP : va_P D vwCl (ws.set 0 (gd 0, zMod gd n nd nj my 1)) H := hP
    have hD : va_D A (ws.set 0 (gd 0, zMod gd n nd nj my 1)) := hD
    refine zb_ne (tgt := 70) hx hb dX5_mount_65 (by decide) (fun c_19 => Bool.noConfusion c_19) (fun c_19 => ?_)
    refine lv_iconst (v := nI (0)) hx hb dX5_mount_68 (by decide) ?_
    exact zr_qi (S := va_W) (w1 := fun u => u) (ws.set 0 (gd 0, zMod gd n nd nj my 1)) hx hb hr hlocks (⟨(mKeep_set mKeep_rf (by decide)), (by rw [hK]; exact (mL_0 hm0 n nd nj my 1))⟩) hP hD hS (rfl) dX5_mount_69
  · obtain ⟨hjn, rfl⟩ := ix_some ho
    obtain ⟨htn, rfl⟩ := ix_some hq
    (try dsimp only at hc)
    have hl : lv_has ls 5 [(0, .ref (gd 0)), (1, .int (nI (j))), (2, .int (nI (t)))] := hl
    rcases hhj : hd j with _ | t9
    · rw [hhj] at hc
      rcases hmt : mo t with _ | j9
      · rw [hmt] at hc
        have hla : la t = false := hc
        refine lv_aload_n hx hb dX5_mount_0 rfl (lv_at hl 0 rfl) ?_
        refine lv_iload_n hx hb dX5_mount_1 rfl (lv_at hl 1 rfl) ?_
        refine zk_V_i (n := 1) (As := [.int (nI (j))]) (rest := []) hx hb hml hts hown hZ hP (c_X5_isDrive l D cA _ hm0 (by omega) (nI (j))) gX5_mount_X5_isDrive rfl rfl ⟨rfl, rfl⟩ ⟨by decide +kernel, Nat.le_of_ble_eq_true rfl, Nat.le_of_ble_eq_true rfl⟩ m0 rfl hl.1 rfl (Nat.le_of_ble_eq_true rfl) ⟨Nat.le_of_ble_eq_true rfl, Nat.le_of_ble_eq_true rfl⟩ rfl dX5_mount_2 (fun r_20 hr_21 => ?_)
        obtain rfl := show r_20 = _ from hr_21
        refine zx_val (y := bI (true)) (by rw [ix_in (by omega) hjn]; rfl) ?_
        refine zb_eq (tgt := 20) hx hb dX5_mount_5 (by decide) (fun c_22 => Bool.noConfusion c_22) (fun c_22 => ?_)
        refine lv_aload_n hx hb dX5_mount_8 rfl (lv_at hl 0 rfl) ?_
        refine lv_iload_n hx hb dX5_mount_9 rfl (lv_at hl 2 rfl) ?_
        refine zk_V_i (n := 1) (As := [.int (nI (t))]) (rest := []) hx hb hml hts hown hZ hP (c_X5_isTape l D cA _ hm0 (by omega) (nI (t))) gX5_mount_X5_isTape rfl rfl ⟨rfl, rfl⟩ ⟨by decide +kernel, Nat.le_of_ble_eq_true rfl, Nat.le_of_ble_eq_true rfl⟩ m0 rfl hl.1 rfl (Nat.le_of_ble_eq_true rfl) ⟨Nat.le_of_ble_eq_true rfl, Nat.le_of_ble_eq_true rfl⟩ rfl dX5_mount_10 (fun r_23 hr_24 => ?_)
        obtain rfl := show r_23 = _ from hr_24
        refine zx_val (y := bI (true)) (by rw [ix_in (by omega) htn]; rfl) ?_
        refine zb_eq (tgt := 20) hx hb dX5_mount_13 (by decide) (fun c_25 => Bool.noConfusion c_25) (fun c_25 => ?_)
        refine lv_iconst (v := nI (1)) hx hb dX5_mount_16 (by decide) ?_
        refine lv_goto (tgt := 21) hx hb dX5_mount_17 (by decide) ?_
        refine lv_istore_n (lv' := [(3, .int (nI (1))), (0, .ref (gd 0)), (1, .int (nI (j))), (2, .int (nI (t)))]) hx hb dX5_mount_21 rfl hl (by decide) rfl (fun ls hl => ?_)
        refine lv_aload_n hx hb dX5_mount_22 rfl (lv_at hl 1 rfl) ?_
        refine lv_iload_n hx hb dX5_mount_23 rfl (lv_at hl 0 rfl) ?_
        refine lv_iload_n hx hb dX5_mount_24 rfl (lv_at hl 0 rfl) ?_
        refine zf_eq (tgt := 61) hx hb (by omega) dX5_mount_25 (by decide) (fun c_26 => False.elim (by omega)) (fun c_26 => ?_)
        refine lv_aload_n hx hb dX5_mount_28 rfl (lv_at hl 1 rfl) ?_
        refine va_get (D := D) (ci := 5) (v := .ref (gd 12)) (C := RX5) (T := TX5) (N := 26) hx hb hts iX5 hown hZ.1 hP 0 m0 rfl 13 (by decide) (hts (.fieldLink RX5 44 "TapeRoboticsModel" "held" "[I") (by decide +kernel)) (fun _ h9 => h9) rfl dX5_mount_29 ?_
        refine lv_iload_n hx hb dX5_mount_32 rfl (lv_at hl 2 rfl) ?_
        refine va_iald hx hb hZ.1 hP 12 0 m12 rfl (vp_in_nI (show j < 3 by omega) (by omega)) dX5_mount_33 ?_
        rw [nI_clamp (show j < 2 ^ 31 by omega)]
        refine zx_val (y := (-1)) (by rw [hhj]; rfl) ?_
        refine lv_iconst (v := (-1)) hx hb dX5_mount_34 (by decide) ?_
        refine lv_icmp_ne (tgt := 61) hx hb dX5_mount_35 (by decide) (fun c_27 => absurd rfl c_27) (fun c_27 => ?_)
        refine lv_aload_n hx hb dX5_mount_38 rfl (lv_at hl 1 rfl) ?_
        refine va_get (D := D) (ci := 5) (v := .ref (gd 4)) (C := RX5) (T := TX5) (N := 26) hx hb hts iX5 hown hZ.1 hP 0 m0 rfl 4 (by decide) (hts (.fieldLink RX5 19 "TapeRoboticsModel" "mounted" "[I") (by decide +kernel)) (fun _ h9 => h9) rfl dX5_mount_39 ?_
        refine lv_iload_n hx hb dX5_mount_42 rfl (lv_at hl 3 rfl) ?_
        refine va_iald hx hb hZ.1 hP 4 0 m4 rfl (vp_in_nI (show t < 8 by omega) (by omega)) dX5_mount_43 ?_
        rw [nI_clamp (show t < 2 ^ 31 by omega)]
        refine zx_val (y := (-1)) (by rw [hmt]; rfl) ?_
        refine lv_iconst (v := (-1)) hx hb dX5_mount_44 (by decide) ?_
        refine lv_icmp_ne (tgt := 61) hx hb dX5_mount_45 (by decide) (fun c_28 => absurd rfl c_28) (fun c_28 => ?_)
        refine lv_aload_n hx hb dX5_mount_48 rfl (lv_at hl 1 rfl) ?_
        refine va_get (D := D) (ci := 5) (v := .ref (gd 5)) (C := RX5) (T := TX5) (N := 26) hx hb hts iX5 hown hZ.1 hP 0 m0 rfl 5 (by decide) (hts (.fieldLink RX5 22 "TapeRoboticsModel" "lost" "[Z") (by decide +kernel)) (fun _ h9 => h9) rfl dX5_mount_49 ?_
        refine lv_iload_n hx hb dX5_mount_52 rfl (lv_at hl 3 rfl) ?_
        refine va_zald hx hb hZ.1 hP 5 3 m5 rfl (vp_in_nI (show t < 8 by omega) (by omega)) dX5_mount_53 ?_
        rw [nI_clamp (show t < 2 ^ 31 by omega)]
        refine zx_val (y := bI (true)) (by rw [hla]; rfl) ?_
        refine zb_ne (tgt := 61) hx hb dX5_mount_54 (by decide) (fun c_29 => ?_) (fun c_29 => Bool.noConfusion c_29)
        refine lv_iconst (v := nI (0)) hx hb dX5_mount_61 (by decide) ?_
        refine zw_V_i (n := 2) (mc := 0) (ms := 0) (As := [.int (bI (true)), .int (bI (false))]) (rest := []) (w1 := fun u : Unit => ws.set 0 (gd 0, zMod gd n nd nj my 2)) hx hb hml hts hown hZ hP hD hS hA (c_X5_mayBoth l D cA _ _ gd n nd nj my th true false (m0)) gX5_mount_X5_mayBoth rfl rfl ⟨rfl, rfl⟩ ⟨by decide +kernel, Nat.le_of_ble_eq_true rfl, Nat.le_of_ble_eq_true rfl⟩ m0 rfl hl.1 rfl (Nat.le_of_ble_eq_true rfl) ⟨Nat.le_of_ble_eq_true rfl, Nat.le_of_ble_eq_true rfl⟩ rfl dX5_mount_62 (fun r_30 u_32 H locs hr_31 hP hD hS hz_32 => ?_)
        obtain rfl := show r_30 = _ from hr_31
        have hP : va_P D vwCl (ws.set 0 (gd 0, zMod gd n nd nj my 2)) H := hP
        have hD : va_D A (ws.set 0 (gd 0, zMod gd n nd nj my 2)) := hD
        refine zb_ne (tgt := 70) hx hb dX5_mount_65 (by decide) (fun c_33 => Bool.noConfusion c_33) (fun c_33 => ?_)
        refine lv_iconst (v := nI (0)) hx hb dX5_mount_68 (by decide) ?_
        exact zr_qi (S := va_W) (w1 := fun u => u) (ws.set 0 (gd 0, zMod gd n nd nj my 2)) hx hb hr hlocks (⟨(mKeep_set mKeep_rf (by decide)), (by rw [hK]; exact (mL_0 hm0 n nd nj my 2))⟩) hP hD hS (rfl) dX5_mount_69
      · have hj9 := hmo3 t htn j9 hmt
        refine lv_aload_n hx hb dX5_mount_0 rfl (lv_at hl 0 rfl) ?_
        refine lv_iload_n hx hb dX5_mount_1 rfl (lv_at hl 1 rfl) ?_
        refine zk_V_i (n := 1) (As := [.int (nI (j))]) (rest := []) hx hb hml hts hown hZ hP (c_X5_isDrive l D cA _ hm0 (by omega) (nI (j))) gX5_mount_X5_isDrive rfl rfl ⟨rfl, rfl⟩ ⟨by decide +kernel, Nat.le_of_ble_eq_true rfl, Nat.le_of_ble_eq_true rfl⟩ m0 rfl hl.1 rfl (Nat.le_of_ble_eq_true rfl) ⟨Nat.le_of_ble_eq_true rfl, Nat.le_of_ble_eq_true rfl⟩ rfl dX5_mount_2 (fun r_34 hr_35 => ?_)
        obtain rfl := show r_34 = _ from hr_35
        refine zx_val (y := bI (true)) (by rw [ix_in (by omega) hjn]; rfl) ?_
        refine zb_eq (tgt := 20) hx hb dX5_mount_5 (by decide) (fun c_36 => Bool.noConfusion c_36) (fun c_36 => ?_)
        refine lv_aload_n hx hb dX5_mount_8 rfl (lv_at hl 0 rfl) ?_
        refine lv_iload_n hx hb dX5_mount_9 rfl (lv_at hl 2 rfl) ?_
        refine zk_V_i (n := 1) (As := [.int (nI (t))]) (rest := []) hx hb hml hts hown hZ hP (c_X5_isTape l D cA _ hm0 (by omega) (nI (t))) gX5_mount_X5_isTape rfl rfl ⟨rfl, rfl⟩ ⟨by decide +kernel, Nat.le_of_ble_eq_true rfl, Nat.le_of_ble_eq_true rfl⟩ m0 rfl hl.1 rfl (Nat.le_of_ble_eq_true rfl) ⟨Nat.le_of_ble_eq_true rfl, Nat.le_of_ble_eq_true rfl⟩ rfl dX5_mount_10 (fun r_37 hr_38 => ?_)
        obtain rfl := show r_37 = _ from hr_38
        refine zx_val (y := bI (true)) (by rw [ix_in (by omega) htn]; rfl) ?_
        refine zb_eq (tgt := 20) hx hb dX5_mount_13 (by decide) (fun c_39 => Bool.noConfusion c_39) (fun c_39 => ?_)
        refine lv_iconst (v := nI (1)) hx hb dX5_mount_16 (by decide) ?_
        refine lv_goto (tgt := 21) hx hb dX5_mount_17 (by decide) ?_
        refine lv_istore_n (lv' := [(3, .int (nI (1))), (0, .ref (gd 0)), (1, .int (nI (j))), (2, .int (nI (t)))]) hx hb dX5_mount_21 rfl hl (by decide) rfl (fun ls hl => ?_)
        refine lv_aload_n hx hb dX5_mount_22 rfl (lv_at hl 1 rfl) ?_
        refine lv_iload_n hx hb dX5_mount_23 rfl (lv_at hl 0 rfl) ?_
        refine lv_iload_n hx hb dX5_mount_24 rfl (lv_at hl 0 rfl) ?_
        refine zf_eq (tgt := 61) hx hb (by omega) dX5_mount_25 (by decide) (fun c_40 => False.elim (by omega)) (fun c_40 => ?_)
        refine lv_aload_n hx hb dX5_mount_28 rfl (lv_at hl 1 rfl) ?_
        refine va_get (D := D) (ci := 5) (v := .ref (gd 12)) (C := RX5) (T := TX5) (N := 26) hx hb hts iX5 hown hZ.1 hP 0 m0 rfl 13 (by decide) (hts (.fieldLink RX5 44 "TapeRoboticsModel" "held" "[I") (by decide +kernel)) (fun _ h9 => h9) rfl dX5_mount_29 ?_
        refine lv_iload_n hx hb dX5_mount_32 rfl (lv_at hl 2 rfl) ?_
        refine va_iald hx hb hZ.1 hP 12 0 m12 rfl (vp_in_nI (show j < 3 by omega) (by omega)) dX5_mount_33 ?_
        rw [nI_clamp (show j < 2 ^ 31 by omega)]
        refine zx_val (y := (-1)) (by rw [hhj]; rfl) ?_
        refine lv_iconst (v := (-1)) hx hb dX5_mount_34 (by decide) ?_
        refine lv_icmp_ne (tgt := 61) hx hb dX5_mount_35 (by decide) (fun c_41 => absurd rfl c_41) (fun c_41 => ?_)
        refine lv_aload_n hx hb dX5_mount_38 rfl (lv_at hl 1 rfl) ?_
        refine va_get (D := D) (ci := 5) (v := .ref (gd 4)) (C := RX5) (T := TX5) (N := 26) hx hb hts iX5 hown hZ.1 hP 0 m0 rfl 4 (by decide) (hts (.fieldLink RX5 19 "TapeRoboticsModel" "mounted" "[I") (by decide +kernel)) (fun _ h9 => h9) rfl dX5_mount_39 ?_
        refine lv_iload_n hx hb dX5_mount_42 rfl (lv_at hl 3 rfl) ?_
        refine va_iald hx hb hZ.1 hP 4 0 m4 rfl (vp_in_nI (show t < 8 by omega) (by omega)) dX5_mount_43 ?_
        rw [nI_clamp (show t < 2 ^ 31 by omega)]
        refine zx_val (y := nI (j9)) (by rw [hmt]; rfl) ?_
        refine lv_iconst (v := (-1)) hx hb dX5_mount_44 (by decide) ?_
        refine lv_icmp_ne (tgt := 61) hx hb dX5_mount_45 (by decide) (fun c_42 => ?_) (fun c_42 => absurd c_42 (nI_nm1 (by omega)))
        refine lv_iconst (v := nI (0)) hx hb dX5_mount_61 (by decide) ?_
        refine zw_V_i (n := 2) (mc := 0) (ms := 0) (As := [.int (bI (true)), .int (bI (false))]) (rest := []) (w1 := fun u : Unit => ws.set 0 (gd 0, zMod gd n nd nj my 2)) hx hb hml hts hown hZ hP hD hS hA (c_X5_mayBoth l D cA _ _ gd n nd nj my th true false (m0)) gX5_mount_X5_mayBoth rfl rfl ⟨rfl, rfl⟩ ⟨by decide +kernel, Nat.le_of_ble_eq_true rfl, Nat.le_of_ble_eq_true rfl⟩ m0 rfl hl.1 rfl (Nat.le_of_ble_eq_true rfl) ⟨Nat.le_of_ble_eq_true rfl, Nat.le_of_ble_eq_true rfl⟩ rfl dX5_mount_62 (fun r_43 u_45 H locs hr_44 hP hD hS hz_45 => ?_)
        obtain rfl := show r_43 = _ from hr_44
        have hP : va_P D vwCl (ws.set 0 (gd 0, zMod gd n nd nj my 2)) H := hP
        have hD : va_D A (ws.set 0 (gd 0, zMod gd n nd nj my 2)) := hD
        refine zb_ne (tgt := 70) hx hb dX5_mount_65 (by decide) (fun c_46 => Bool.noConfusion c_46) (fun c_46 => ?_)
        refine lv_iconst (v := nI (0)) hx hb dX5_mount_68 (by decide) ?_
        exact zr_qi (S := va_W) (w1 := fun u => u) (ws.set 0 (gd 0, zMod gd n nd nj my 2)) hx hb hr hlocks (⟨(mKeep_set mKeep_rf (by decide)), (by rw [hK]; exact (mL_0 hm0 n nd nj my 2))⟩) hP hD hS (rfl) dX5_mount_69
    · have ht9 := hH8 j hjn t9 hhj
      refine lv_aload_n hx hb dX5_mount_0 rfl (lv_at hl 0 rfl) ?_
      refine lv_iload_n hx hb dX5_mount_1 rfl (lv_at hl 1 rfl) ?_
      refine zk_V_i (n := 1) (As := [.int (nI (j))]) (rest := []) hx hb hml hts hown hZ hP (c_X5_isDrive l D cA _ hm0 (by omega) (nI (j))) gX5_mount_X5_isDrive rfl rfl ⟨rfl, rfl⟩ ⟨by decide +kernel, Nat.le_of_ble_eq_true rfl, Nat.le_of_ble_eq_true rfl⟩ m0 rfl hl.1 rfl (Nat.le_of_ble_eq_true rfl) ⟨Nat.le_of_ble_eq_true rfl, Nat.le_of_ble_eq_true rfl⟩ rfl dX5_mount_2 (fun r_47 hr_48 => ?_)
      obtain rfl := show r_47 = _ from hr_48
      refine zx_val (y := bI (true)) (by rw [ix_in (by omega) hjn]; rfl) ?_
      refine zb_eq (tgt := 20) hx hb dX5_mount_5 (by decide) (fun c_49 => Bool.noConfusion c_49) (fun c_49 => ?_)
      refine lv_aload_n hx hb dX5_mount_8 rfl (lv_at hl 0 rfl) ?_
      refine lv_iload_n hx hb dX5_mount_9 rfl (lv_at hl 2 rfl) ?_
      refine zk_V_i (n := 1) (As := [.int (nI (t))]) (rest := []) hx hb hml hts hown hZ hP (c_X5_isTape l D cA _ hm0 (by omega) (nI (t))) gX5_mount_X5_isTape rfl rfl ⟨rfl, rfl⟩ ⟨by decide +kernel, Nat.le_of_ble_eq_true rfl, Nat.le_of_ble_eq_true rfl⟩ m0 rfl hl.1 rfl (Nat.le_of_ble_eq_true rfl) ⟨Nat.le_of_ble_eq_true rfl, Nat.le_of_ble_eq_true rfl⟩ rfl dX5_mount_10 (fun r_50 hr_51 => ?_)
      obtain rfl := show r_50 = _ from hr_51
      refine zx_val (y := bI (true)) (by rw [ix_in (by omega) htn]; rfl) ?_
      refine zb_eq (tgt := 20) hx hb dX5_mount_13 (by decide) (fun c_52 => Bool.noConfusion c_52) (fun c_52 => ?_)
      refine lv_iconst (v := nI (1)) hx hb dX5_mount_16 (by decide) ?_
      refine lv_goto (tgt := 21) hx hb dX5_mount_17 (by decide) ?_
      refine lv_istore_n (lv' := [(3, .int (nI (1))), (0, .ref (gd 0)), (1, .int (nI (j))), (2, .int (nI (t)))]) hx hb dX5_mount_21 rfl hl (by decide) rfl (fun ls hl => ?_)
      refine lv_aload_n hx hb dX5_mount_22 rfl (lv_at hl 1 rfl) ?_
      refine lv_iload_n hx hb dX5_mount_23 rfl (lv_at hl 0 rfl) ?_
      refine lv_iload_n hx hb dX5_mount_24 rfl (lv_at hl 0 rfl) ?_
      refine zf_eq (tgt := 61) hx hb (by omega) dX5_mount_25 (by decide) (fun c_53 => False.elim (by omega)) (fun c_53 => ?_)
      refine lv_aload_n hx hb dX5_mount_28 rfl (lv_at hl 1 rfl) ?_
      refine va_get (D := D) (ci := 5) (v := .ref (gd 12)) (C := RX5) (T := TX5) (N := 26) hx hb hts iX5 hown hZ.1 hP 0 m0 rfl 13 (by decide) (hts (.fieldLink RX5 44 "TapeRoboticsModel" "held" "[I") (by decide +kernel)) (fun _ h9 => h9) rfl dX5_mount_29 ?_
      refine lv_iload_n hx hb dX5_mount_32 rfl (lv_at hl 2 rfl) ?_
      refine va_iald hx hb hZ.1 hP 12 0 m12 rfl (vp_in_nI (show j < 3 by omega) (by omega)) dX5_mount_33 ?_
      rw [nI_clamp (show j < 2 ^ 31 by omega)]
      refine zx_val (y := nI (t9)) (by rw [hhj]; rfl) ?_
      refine lv_iconst (v := (-1)) hx hb dX5_mount_34 (by decide) ?_
      refine lv_icmp_ne (tgt := 61) hx hb dX5_mount_35 (by decide) (fun c_54 => ?_) (fun c_54 => absurd c_54 (nI_nm1 (by omega)))
      refine lv_iconst (v := nI (0)) hx hb dX5_mount_61 (by decide) ?_
      refine zw_V_i (n := 2) (mc := 0) (ms := 0) (As := [.int (bI (true)), .int (bI (false))]) (rest := []) (w1 := fun u : Unit => ws.set 0 (gd 0, zMod gd n nd nj my 2)) hx hb hml hts hown hZ hP hD hS hA (c_X5_mayBoth l D cA _ _ gd n nd nj my th true false (m0)) gX5_mount_X5_mayBoth rfl rfl ⟨rfl, rfl⟩ ⟨by decide +kernel, Nat.le_of_ble_eq_true rfl, Nat.le_of_ble_eq_true rfl⟩ m0 rfl hl.1 rfl (Nat.le_of_ble_eq_true rfl) ⟨Nat.le_of_ble_eq_true rfl, Nat.le_of_ble_eq_true rfl⟩ rfl dX5_mount_62 (fun r_55 u_57 H locs hr_56 hP hD hS hz_57 => ?_)
      obtain rfl := show r_55 = _ from hr_56
      have hP : va_P D vwCl (ws.set 0 (gd 0, zMod gd n nd nj my 2)) H := hP
      have hD : va_D A (ws.set 0 (gd 0, zMod gd n nd nj my 2)) := hD
      refine zb_ne (tgt := 70) hx hb dX5_mount_65 (by decide) (fun c_58 => Bool.noConfusion c_58) (fun c_58 => ?_)
      refine lv_iconst (v := nI (0)) hx hb dX5_mount_68 (by decide) ?_
      exact zr_qi (S := va_W) (w1 := fun u => u) (ws.set 0 (gd 0, zMod gd n nd nj my 2)) hx hb hr hlocks (⟨(mKeep_set mKeep_rf (by decide)), (by rw [hK]; exact (mL_0 hm0 n nd nj my 2))⟩) hP hD hS (rfl) dX5_mount_69

set_option maxHeartbeats 4000000 in
set_option maxRecDepth 100000 in
theorem c_X5_unmount_ok (l : Launch) (D : va_G) (cA : Nat → ClassId) (sz : Nat) (ws : va_W) {gd : Nat → Nat} {n : Nat} {tr : Nat → Nat} {le : Nat → Nat} {sl : Nat → Nat} {mo : Nat → Option Nat} {la : Nat → Bool} {fc : Nat → Nat} {sf : Nat → Int32} {bf : Nat → Int32} {nd : Nat} {mk : Nat → Nat} {ck : Nat → Int32} {ct : Nat → Nat} {hd : Nat → Option Nat} {pf : Nat → Int32} {nj : Nat} {jt : Nat → Int32} {jf : Nat → Nat} {dl : Nat → Nat} {fin : Nat → Bool} {my : Nat} {fls : Nat → Int32} {fod : Nat → Int32} {fle : Nat → Int32} {fro : Nat → Int32} {th : Nat} {bo : Nat → Nat → Nat} {pq : Nat → Int32} {fw : Nat → Int32} {dn : Nat} (hm : mL cA ws gd n tr le sl mo la fc sf bf nd mk ck ct hd pf nj jt jf dl fin my fls fod fle fro th) (hI : zI n tr le sl mo fc bo nd mk ct hd pq nj fw jf dl) (hM : mI n la fc bo nd ck ct hd pq pf nj fw jt fin sf bf dn) (j t P : Nat) (hjn : j < nd) (hht : hd j = some t) (hpq : pq j = nI P) (hP9 : P ≤ tr t * le t)  : Met l yX5_unmount wsX5_unmount ({ frames := 3, cells := 0, slots := 0, locals := 74 }) (va_Pc [.ref (gd 0), .int (nI (j))] (zM D cA (ws) sz)) (va_Qi (fun (r : Int32) (u : va_W) => r = nI (wayT (zpa (mk j)) (zsp (mk j)) (tr t) (le t) P 0 + (20 + 2 * dif (4 * j) (sl t))) ∧ mKeep ws u ∧ mL cA u gd n tr le sl (va_up mo t none) la fc sf bf nd mk (va_up ck j (ck j + nI (wayT (zpa (mk j)) (zsp (mk j)) (tr t) (le t) P 0 + (20 + 2 * dif (4 * j) (sl t))))) ct (va_up hd j none) pf nj jt jf dl fin my fls fod fle fro 0) (fun u => zB D (va_A (ws) sz) (u)) (va_A (ws) sz)) 0 0 (va_A (ws) sz) := by
  refine zOpen (cc := cX5_unmount) (maxL := 3) (ret := (some .int)) (own := RX5) (by decide) rfl rfl (Nat.le_of_ble_eq_true rfl) ?_
  intro p e s m below meth c ls hx hb hr hml hts hown hlocks hnm ⟨hZ, hP, hD0, hsz⟩ hl
  subst hsz
  have hD := hD0.self (sz := s.heap.size)
  generalize hAe : va_A (ws) s.heap.size = A at hD ⊢
  have hA : ∀ q : Nat, s.heap.size ≤ q → A q := fun q h => by rw [← hAe]; exact Or.inr h
  have hS : va_S A s.heap s.heap [] := va_S.rf
  have iX5 : ∀ w ∈ wsX50, w ∈ wsX5_unmount := by decide +kernel
  have hl : lv_has ls 3 [(0, .ref (gd 0)), (1, .int (nI (j)))] := hl
  have hm0 := hm
  have hI0 := hI
  have hM0 := hM
  obtain ⟨hn8, hd3, hj60, hIT, hID, hIJ, hIdl, hIw⟩ := hI
  obtain ⟨hM1, hM2, hM3, hM4, hM5, hM6, hM7⟩ := hM
  obtain ⟨m0, m1, m2, m3, m4, m5, m6, m7, m8, m9, m10, m11, m12, m13, m14, m15, m16, m17, m18, m19, m20, m21⟩ := hm
  have hfc10 : ∀ i, i < n → fc i ≤ 10 := fun i hi => (hIT i hi).2.2.2.2.2.2.1
  have hsl12 : ∀ i, i < n → sl i < 12 := fun i hi => (hIT i hi).2.2.2.2.1
  have hH8 : ∀ j, j < nd → ∀ t, hd j = some t → t < 8 := fun j hj t h => by have := ((hID j hj).2.2.2 t h).1; omega
  have hmo3 : ∀ i, i < n → ∀ j, mo i = some j → j < nd := fun i hi j h => ((hIT i hi).2.2.2.2.2.1 j h).1
  have hfw : ∀ k, k < nj → fw k = if fin k then -1 else jt k := fun k hk => (hM5 k hk).1
  obtain ⟨hmk, hct, -, hps⟩ := hID j hjn
  obtain ⟨htn, hmoj, -⟩ := hps t hht
  have hpf : pf j = nI P := (hM4 j t hjn hht).trans hpq
  obtain ⟨htr1, htr8, hle4, hle200, -⟩ := hIT t htn
  have htr : 1 ≤ tr t ∧ tr t ≤ 8 := ⟨htr1, htr8⟩
  have hle : 4 ≤ le t ∧ le t ≤ 200 := ⟨hle4, hle200⟩
  have hmul : tr t * le t ≤ 8 * 200 := Nat.mul_le_mul htr8 hle200
  refine lv_aload_n hx hb dX5_unmount_0 rfl (lv_at hl 0 rfl) ?_
  refine lv_aload_n hx hb dX5_unmount_1 rfl (lv_at hl 0 rfl) ?_
  refine lv_iload_n hx hb dX5_unmount_2 rfl (lv_at hl 1 rfl) ?_
  refine zk_V_i (n := 1) (As := [.int (nI (j))]) (rest := [.ref (gd 0)]) hx hb hml hts hown hZ hP (c_X5_isDrive l D cA _ hm0 (by omega) (nI (j))) gX5_unmount_X5_isDrive rfl rfl ⟨rfl, rfl⟩ ⟨by decide +kernel, Nat.le_of_ble_eq_true rfl, Nat.le_of_ble_eq_true rfl⟩ m0 rfl hl.1 rfl (Nat.le_of_ble_eq_true rfl) ⟨Nat.le_of_ble_eq_true rfl, Nat.le_of_ble_eq_true rfl⟩ rfl dX5_unmount_3 (fun r_1 hr_2 => ?_)
  obtain rfl := show r_1 = _ from hr_2
  refine zx_val (y := bI (true)) (by rw [ix_in (by omega) hjn]; rfl) ?_
  refine lv_aload_n hx hb dX5_unmount_6 rfl (lv_at hl 0 rfl) ?_
  refine lv_iload_n hx hb dX5_unmount_7 rfl (lv_at hl 1 rfl) ?_
  refine zk_V_i (n := 1) (As := [.int (nI (j))]) (rest := [.int (bI (true)), .ref (gd 0)]) hx hb hml hts hown hZ hP (c_X5_hasTape l D cA _ hm0 hd3 hH8 (nI (j))) gX5_unmount_X5_hasTape rfl rfl ⟨rfl, rfl⟩ ⟨by decide +kernel, Nat.le_of_ble_eq_true rfl, Nat.le_of_ble_eq_true rfl⟩ m0 rfl hl.1 rfl (Nat.le_of_ble_eq_true rfl) ⟨Nat.le_of_ble_eq_true rfl, Nat.le_of_ble_eq_true rfl⟩ rfl dX5_unmount_8 (fun r_3 hr_4 => ?_)
  obtain rfl := show r_3 = _ from hr_4
  refine zx_val (y := bI (true)) (by rw [ix_in (by omega) hjn]; show bI (hd j).isSome = _; rw [hht]; rfl) ?_
  refine zw_V_i (n := 2) (mc := 0) (ms := 0) (As := [.int (bI (true)), .int (bI (true))]) (rest := []) (w1 := fun u : Unit => ws.set 0 (gd 0, zMod gd n nd nj my 0)) hx hb hml hts hown hZ hP hD hS hA (c_X5_mayBoth l D cA _ _ gd n nd nj my th true true (m0)) gX5_unmount_X5_mayBoth rfl rfl ⟨rfl, rfl⟩ ⟨by decide +kernel, Nat.le_of_ble_eq_true rfl, Nat.le_of_ble_eq_true rfl⟩ m0 rfl hl.1 rfl (Nat.le_of_ble_eq_true rfl) ⟨Nat.le_of_ble_eq_true rfl, Nat.le_of_ble_eq_true rfl⟩ rfl dX5_unmount_11 (fun r_5 u_7 H locs hr_6 hP hD hS hz_7 => ?_)
  obtain rfl := show r_5 = _ from hr_6
  have hP : va_P D vwCl (ws.set 0 (gd 0, zMod gd n nd nj my 0)) H := hP
  have hD : va_D A (ws.set 0 (gd 0, zMod gd n nd nj my 0)) := hD
  refine zb_ne (tgt := 19) hx hb dX5_unmount_14 (by decide) (fun c_8 => ?_) (fun c_8 => Bool.noConfusion c_8)
  refine lv_aload_n hx hb dX5_unmount_19 rfl (lv_at hl 0 rfl) ?_
  refine lv_iload_n hx hb dX5_unmount_20 rfl (lv_at hl 1 rfl) ?_
  refine lv_aload_n hx hb dX5_unmount_21 rfl (lv_at hl 0 rfl) ?_
  refine va_get (D := D) (ci := 5) (v := .ref (gd 13)) (C := RX5) (T := TX5) (N := 26) hx hb hts iX5 hown hZ.1 hP 0 (zset_s m0) rfl 14 (by decide) (hts (.fieldLink RX5 47 "TapeRoboticsModel" "stand" "[I") (by decide +kernel)) (fun _ h9 => h9) rfl dX5_unmount_22 ?_
  refine lv_iload_n hx hb dX5_unmount_25 rfl (lv_at hl 1 rfl) ?_
  refine va_iald hx hb hZ.1 hP 13 0 (zset_n m13 (by decide)) rfl (vp_in_nI (show j < 3 by omega) (by omega)) dX5_unmount_26 ?_
  rw [nI_clamp (show j < 2 ^ 31 by omega)]
  refine zx_val (y := nI (P)) (hpf) ?_
  refine lv_iconst (v := nI (0)) hx hb dX5_unmount_27 (by decide) ?_
  refine zk_V_i (n := 3) (As := [.int (nI (j)), .int (nI (P)), .int (nI (0))]) (rest := []) hx hb hml hts hown hZ hP (c_X5_way l D cA _ ((mL_0 hm0 n nd nj my 0)) j t P 0 (by omega) hht hmk (by omega) (by omega) (by omega) htr hle) gX5_unmount_X5_way rfl rfl ⟨rfl, rfl⟩ ⟨by decide +kernel, Nat.le_of_ble_eq_true rfl, Nat.le_of_ble_eq_true rfl⟩ (zset_s m0) rfl hl.1 rfl (Nat.le_of_ble_eq_true rfl) ⟨Nat.le_of_ble_eq_true rfl, Nat.le_of_ble_eq_true rfl⟩ rfl dX5_unmount_28 (fun r_9 hr_10 => ?_)
  obtain rfl := show r_9 = _ from hr_10
  refine lv_aload_n hx hb dX5_unmount_31 rfl (lv_at hl 0 rfl) ?_
  refine lv_iload_n hx hb dX5_unmount_32 rfl (lv_at hl 1 rfl) ?_
  refine lv_aload_n hx hb dX5_unmount_33 rfl (lv_at hl 0 rfl) ?_
  refine va_get (D := D) (ci := 5) (v := .ref (gd 12)) (C := RX5) (T := TX5) (N := 26) hx hb hts iX5 hown hZ.1 hP 0 (zset_s m0) rfl 13 (by decide) (hts (.fieldLink RX5 44 "TapeRoboticsModel" "held" "[I") (by decide +kernel)) (fun _ h9 => h9) rfl dX5_unmount_34 ?_
  refine lv_iload_n hx hb dX5_unmount_37 rfl (lv_at hl 1 rfl) ?_
  refine va_iald hx hb hZ.1 hP 12 0 (zset_n m12 (by decide)) rfl (vp_in_nI (show j < 3 by omega) (by omega)) dX5_unmount_38 ?_
  rw [nI_clamp (show j < 2 ^ 31 by omega)]
  refine zx_val (y := nI (t)) (by rw [hht]; rfl) ?_
  refine zk_V_i (n := 2) (As := [.int (nI (j)), .int (nI (t))]) (rest := [.int (nI (wayT (zpa (mk j)) (zsp (mk j)) (tr t) (le t) P 0))]) hx hb hml hts hown hZ hP (c_X5_robot l D cA _ ((mL_0 hm0 n nd nj my 0)) j t (by omega) (by omega) (hsl12 _ (by omega))) gX5_unmount_X5_robot rfl rfl ⟨rfl, rfl⟩ ⟨by decide +kernel, Nat.le_of_ble_eq_true rfl, Nat.le_of_ble_eq_true rfl⟩ (zset_s m0) rfl hl.1 rfl (Nat.le_of_ble_eq_true rfl) ⟨Nat.le_of_ble_eq_true rfl, Nat.le_of_ble_eq_true rfl⟩ rfl dX5_unmount_39 (fun r_11 hr_12 => ?_)
  obtain rfl := show r_11 = _ from hr_12
  refine zo_add hx hb dX5_unmount_42 ?_
  refine lv_istore_n (lv' := [(2, .int (nI ((wayT (zpa (mk j)) (zsp (mk j)) (tr t) (le t) P 0) + (20 + 2 * dif (4 * j) (sl t))))), (0, .ref (gd 0)), (1, .int (nI (j)))]) hx hb dX5_unmount_43 rfl hl (by decide) rfl (fun ls hl => ?_)
  refine lv_aload_n hx hb dX5_unmount_44 rfl (lv_at hl 1 rfl) ?_
  refine va_get (D := D) (ci := 5) (v := .ref (gd 10)) (C := RX5) (T := TX5) (N := 26) hx hb hts iX5 hown hZ.1 hP 0 (zset_s m0) rfl 11 (by decide) (hts (.fieldLink RX5 38 "TapeRoboticsModel" "clock" "[I") (by decide +kernel)) (fun _ h9 => h9) rfl dX5_unmount_45 ?_
  refine lv_iload_n hx hb dX5_unmount_48 rfl (lv_at hl 2 rfl) ?_
  refine lv_dup2_11 hx hb dX5_unmount_49 rfl rfl ?_
  refine va_iald hx hb hZ.1 hP 10 0 (zset_n m10 (by decide)) rfl (vp_in_nI (show j < 3 by omega) (by omega)) dX5_unmount_50 ?_
  rw [nI_clamp (show j < 2 ^ 31 by omega)]
  refine lv_iload_n hx hb dX5_unmount_51 rfl (lv_at hl 0 rfl) ?_
  refine lv_iadd hx hb dX5_unmount_52 ?_
  refine va_iast hx hb hZ.1 hP hD hS 10 0 (zset_n m10 (by decide)) rfl (vp_in_nI (show j < 3 by omega) (by omega)) dX5_unmount_53 (fun H locs hP hD hS => ?_)
  rw [nI_clamp (show j < 2 ^ 31 by omega)] at hP hD
  have hP : va_P D vwCl ((ws.set 0 (gd 0, zMod gd n nd nj my 0)).set 10 (gd 10, zInts cA 3 (va_up ck j ((ck j) + (nI ((wayT (zpa (mk j)) (zsp (mk j)) (tr t) (le t) P 0) + (20 + 2 * dif (4 * j) (sl t)))))))) H := hP
  have hD : va_D A ((ws.set 0 (gd 0, zMod gd n nd nj my 0)).set 10 (gd 10, zInts cA 3 (va_up ck j ((ck j) + (nI ((wayT (zpa (mk j)) (zsp (mk j)) (tr t) (le t) P 0) + (20 + 2 * dif (4 * j) (sl t)))))))) := hD
  refine lv_aload_n hx hb dX5_unmount_54 rfl (lv_at hl 1 rfl) ?_
  refine va_get (D := D) (ci := 5) (v := .ref (gd 4)) (C := RX5) (T := TX5) (N := 26) hx hb hts iX5 hown hZ.1 hP 0 (zset_n (zset_s m0) (by decide)) rfl 4 (by decide) (hts (.fieldLink RX5 19 "TapeRoboticsModel" "mounted" "[I") (by decide +kernel)) (fun _ h9 => h9) rfl dX5_unmount_55 ?_
  refine lv_aload_n hx hb dX5_unmount_58 rfl (lv_at hl 1 rfl) ?_
  refine va_get (D := D) (ci := 5) (v := .ref (gd 12)) (C := RX5) (T := TX5) (N := 26) hx hb hts iX5 hown hZ.1 hP 0 (zset_n (zset_s m0) (by decide)) rfl 13 (by decide) (hts (.fieldLink RX5 44 "TapeRoboticsModel" "held" "[I") (by decide +kernel)) (fun _ h9 => h9) rfl dX5_unmount_59 ?_
  refine lv_iload_n hx hb dX5_unmount_62 rfl (lv_at hl 2 rfl) ?_
  refine va_iald hx hb hZ.1 hP 12 0 (zset_n (zset_n m12 (by decide)) (by decide)) rfl (vp_in_nI (show j < 3 by omega) (by omega)) dX5_unmount_63 ?_
  rw [nI_clamp (show j < 2 ^ 31 by omega)]
  refine zx_val (y := nI (t)) (by rw [hht]; rfl) ?_
  refine lv_iconst (v := (-1)) hx hb dX5_unmount_64 (by decide) ?_
  refine va_iast hx hb hZ.1 hP hD hS 4 0 (zset_n (zset_n m4 (by decide)) (by decide)) rfl (vp_in_nI (show t < 8 by omega) (by omega)) dX5_unmount_65 (fun H locs hP hD hS => ?_)
  rw [nI_clamp (show t < 2 ^ 31 by omega)] at hP hD
  rw [show (-1) = oI none from rfl, upd_oI] at hP hD
  have hP : va_P D vwCl (((ws.set 0 (gd 0, zMod gd n nd nj my 0)).set 10 (gd 10, zInts cA 3 (va_up ck j ((ck j) + (nI ((wayT (zpa (mk j)) (zsp (mk j)) (tr t) (le t) P 0) + (20 + 2 * dif (4 * j) (sl t)))))))).set 4 (gd 4, zInts cA 8 (fun i => oI ((va_up mo t none) i)))) H := hP
  have hD : va_D A (((ws.set 0 (gd 0, zMod gd n nd nj my 0)).set 10 (gd 10, zInts cA 3 (va_up ck j ((ck j) + (nI ((wayT (zpa (mk j)) (zsp (mk j)) (tr t) (le t) P 0) + (20 + 2 * dif (4 * j) (sl t)))))))).set 4 (gd 4, zInts cA 8 (fun i => oI ((va_up mo t none) i)))) := hD
  refine lv_aload_n hx hb dX5_unmount_66 rfl (lv_at hl 1 rfl) ?_
  refine va_get (D := D) (ci := 5) (v := .ref (gd 12)) (C := RX5) (T := TX5) (N := 26) hx hb hts iX5 hown hZ.1 hP 0 (zset_n (zset_n (zset_s m0) (by decide)) (by decide)) rfl 13 (by decide) (hts (.fieldLink RX5 44 "TapeRoboticsModel" "held" "[I") (by decide +kernel)) (fun _ h9 => h9) rfl dX5_unmount_67 ?_
  refine lv_iload_n hx hb dX5_unmount_70 rfl (lv_at hl 2 rfl) ?_
  refine lv_iconst (v := (-1)) hx hb dX5_unmount_71 (by decide) ?_
  refine va_iast hx hb hZ.1 hP hD hS 12 0 (zset_n (zset_n (zset_n m12 (by decide)) (by decide)) (by decide)) rfl (vp_in_nI (show j < 3 by omega) (by omega)) dX5_unmount_72 (fun H locs hP hD hS => ?_)
  rw [nI_clamp (show j < 2 ^ 31 by omega)] at hP hD
  rw [show (-1) = oI none from rfl, upd_oI] at hP hD
  have hP : va_P D vwCl ((((ws.set 0 (gd 0, zMod gd n nd nj my 0)).set 10 (gd 10, zInts cA 3 (va_up ck j ((ck j) + (nI ((wayT (zpa (mk j)) (zsp (mk j)) (tr t) (le t) P 0) + (20 + 2 * dif (4 * j) (sl t)))))))).set 4 (gd 4, zInts cA 8 (fun i => oI ((va_up mo t none) i)))).set 12 (gd 12, zInts cA 3 (fun i => oI ((va_up hd j none) i)))) H := hP
  have hD : va_D A ((((ws.set 0 (gd 0, zMod gd n nd nj my 0)).set 10 (gd 10, zInts cA 3 (va_up ck j ((ck j) + (nI ((wayT (zpa (mk j)) (zsp (mk j)) (tr t) (le t) P 0) + (20 + 2 * dif (4 * j) (sl t)))))))).set 4 (gd 4, zInts cA 8 (fun i => oI ((va_up mo t none) i)))).set 12 (gd 12, zInts cA 3 (fun i => oI ((va_up hd j none) i)))) := hD
  refine lv_iload_n hx hb dX5_unmount_73 rfl (lv_at hl 0 rfl) ?_
  exact zr_qi (S := va_W) (w1 := fun u => u) ((((ws.set 0 (gd 0, zMod gd n nd nj my 0)).set 10 (gd 10, zInts cA 3 (va_up ck j ((ck j) + (nI ((wayT (zpa (mk j)) (zsp (mk j)) (tr t) (le t) P 0) + (20 + 2 * dif (4 * j) (sl t)))))))).set 4 (gd 4, zInts cA 8 (fun i => oI ((va_up mo t none) i)))).set 12 (gd 12, zInts cA 3 (fun i => oI ((va_up hd j none) i)))) hx hb hr hlocks (⟨rfl, (mKeep_set (mKeep_set (mKeep_set (mKeep_set mKeep_rf (by decide)) (by decide)) (by decide)) (by decide)), (mL_12 (mL_4 (mL_10 (mL_0 hm0 n nd nj my 0) ((va_up ck j ((ck j) + (nI ((wayT (zpa (mk j)) (zsp (mk j)) (tr t) (le t) P 0) + (20 + 2 * dif (4 * j) (sl t)))))))) ((va_up mo t none))) ((va_up hd j none)))⟩) hP hD hS (rfl) dX5_unmount_74

set_option maxHeartbeats 4000000 in
set_option maxRecDepth 100000 in
theorem c_X5_unmount_no (l : Launch) (D : va_G) (cA : Nat → ClassId) (sz : Nat) (ws : va_W) {gd : Nat → Nat} {n : Nat} {tr : Nat → Nat} {le : Nat → Nat} {sl : Nat → Nat} {mo : Nat → Option Nat} {la : Nat → Bool} {fc : Nat → Nat} {sf : Nat → Int32} {bf : Nat → Int32} {nd : Nat} {mk : Nat → Nat} {ck : Nat → Int32} {ct : Nat → Nat} {hd : Nat → Option Nat} {pf : Nat → Int32} {nj : Nat} {jt : Nat → Int32} {jf : Nat → Nat} {dl : Nat → Nat} {fin : Nat → Bool} {my : Nat} {fls : Nat → Int32} {fod : Nat → Int32} {fle : Nat → Int32} {fro : Nat → Int32} {th : Nat} {bo : Nat → Nat → Nat} {pq : Nat → Int32} {fw : Nat → Int32} {dn : Nat} (hm : mL cA ws gd n tr le sl mo la fc sf bf nd mk ck ct hd pf nj jt jf dl fin my fls fod fle fro th) (hI : zI n tr le sl mo fc bo nd mk ct hd pq nj fw jf dl) (hM : mI n la fc bo nd ck ct hd pq pf nj fw jt fin sf bf dn) (v0 : Int32) (h0 : (kS (ix v0 nd) (fun j => (hd j).isSome)) ≠ 0) : Met l yX5_unmount wsX5_unmount ({ frames := 3, cells := 0, slots := 0, locals := 74 }) (va_Pc [.ref (gd 0), .int (v0)] (zM D cA (ws) sz)) (va_Qi (fun (r : Int32) (u : va_W) => mKeep ws u ∧ mL cA u gd n tr le sl mo la fc sf bf nd mk ck ct hd pf nj jt jf dl fin my fls fod fle fro (kS (ix v0 nd) (fun j => (hd j).isSome))) (fun u => zB D (va_A (ws) sz) (u)) (va_A (ws) sz)) 0 0 (va_A (ws) sz) := by
  refine zOpen (cc := cX5_unmount) (maxL := 3) (ret := (some .int)) (own := RX5) (by decide) rfl rfl (Nat.le_of_ble_eq_true rfl) ?_
  intro p e s m below meth c ls hx hb hr hml hts hown hlocks hnm ⟨hZ, hP, hD0, hsz⟩ hl
  subst hsz
  have hD := hD0.self (sz := s.heap.size)
  generalize hAe : va_A (ws) s.heap.size = A at hD ⊢
  have hA : ∀ q : Nat, s.heap.size ≤ q → A q := fun q h => by rw [← hAe]; exact Or.inr h
  have hS : va_S A s.heap s.heap [] := va_S.rf
  have iX5 : ∀ w ∈ wsX50, w ∈ wsX5_unmount := by decide +kernel
  have hl : lv_has ls 3 [(0, .ref (gd 0)), (1, .int (v0))] := hl
  have hm0 := hm
  have hI0 := hI
  have hM0 := hM
  obtain ⟨hn8, hd3, hj60, hIT, hID, hIJ, hIdl, hIw⟩ := hI
  obtain ⟨hM1, hM2, hM3, hM4, hM5, hM6, hM7⟩ := hM
  obtain ⟨m0, m1, m2, m3, m4, m5, m6, m7, m8, m9, m10, m11, m12, m13, m14, m15, m16, m17, m18, m19, m20, m21⟩ := hm
  have hfc10 : ∀ i, i < n → fc i ≤ 10 := fun i hi => (hIT i hi).2.2.2.2.2.2.1
  have hsl12 : ∀ i, i < n → sl i < 12 := fun i hi => (hIT i hi).2.2.2.2.1
  have hH8 : ∀ j, j < nd → ∀ t, hd j = some t → t < 8 := fun j hj t h => by have := ((hID j hj).2.2.2 t h).1; omega
  have hmo3 : ∀ i, i < n → ∀ j, mo i = some j → j < nd := fun i hi j h => ((hIT i hi).2.2.2.2.2.1 j h).1
  have hfw : ∀ k, k < nj → fw k = if fin k then -1 else jt k := fun k hk => (hM5 k hk).1
  rcases kS_no h0 with ⟨ho, hK⟩ | ⟨j, ho, hc, hK⟩
  · refine lv_aload_n hx hb dX5_unmount_0 rfl (lv_at hl 0 rfl) ?_
    refine lv_aload_n hx hb dX5_unmount_1 rfl (lv_at hl 0 rfl) ?_
    refine lv_iload_n hx hb dX5_unmount_2 rfl (lv_at hl 1 rfl) ?_
    refine zk_V_i (n := 1) (As := [.int (v0)]) (rest := [.ref (gd 0)]) hx hb hml hts hown hZ hP (c_X5_isDrive l D cA _ hm0 (by omega) v0) gX5_unmount_X5_isDrive rfl rfl ⟨rfl, rfl⟩ ⟨by decide +kernel, Nat.le_of_ble_eq_true rfl, Nat.le_of_ble_eq_true rfl⟩ m0 rfl hl.1 rfl (Nat.le_of_ble_eq_true rfl) ⟨Nat.le_of_ble_eq_true rfl, Nat.le_of_ble_eq_true rfl⟩ rfl dX5_unmount_3 (fun r_1 hr_2 => ?_)
    obtain rfl := show r_1 = _ from hr_2
    refine zx_val (y := bI (false)) (by rw [ho]; rfl) ?_
    refine lv_aload_n hx hb dX5_unmount_6 rfl (lv_at hl 0 rfl) ?_
    refine lv_iload_n hx hb dX5_unmount_7 rfl (lv_at hl 1 rfl) ?_
    refine zk_V_i (n := 1) (As := [.int (v0)]) (rest := [.int (bI (false)), .ref (gd 0)]) hx hb hml hts hown hZ hP (c_X5_hasTape l D cA _ hm0 hd3 hH8 v0) gX5_unmount_X5_hasTape rfl rfl ⟨rfl, rfl⟩ ⟨by decide +kernel, Nat.le_of_ble_eq_true rfl, Nat.le_of_ble_eq_true rfl⟩ m0 rfl hl.1 rfl (Nat.le_of_ble_eq_true rfl) ⟨Nat.le_of_ble_eq_true rfl, Nat.le_of_ble_eq_true rfl⟩ rfl dX5_unmount_8 (fun r_3 hr_4 => ?_)
    obtain rfl := show r_3 = _ from hr_4
    refine zx_val (y := bI (false)) (by rw [ho]; rfl) ?_
    refine zw_V_i (n := 2) (mc := 0) (ms := 0) (As := [.int (bI (false)), .int (bI (false))]) (rest := []) (w1 := fun u : Unit => ws.set 0 (gd 0, zMod gd n nd nj my 1)) hx hb hml hts hown hZ hP hD hS hA (c_X5_mayBoth l D cA _ _ gd n nd nj my th false false (m0)) gX5_unmount_X5_mayBoth rfl rfl ⟨rfl, rfl⟩ ⟨by decide +kernel, Nat.le_of_ble_eq_true rfl, Nat.le_of_ble_eq_true rfl⟩ m0 rfl hl.1 rfl (Nat.le_of_ble_eq_true rfl) ⟨Nat.le_of_ble_eq_true rfl, Nat.le_of_ble_eq_true rfl⟩ rfl dX5_unmount_11 (fun r_5 u_7 H locs hr_6 hP hD hS hz_7 => ?_)
    obtain rfl := show r_5 = _ from hr_6
    have hP : va_P D vwCl (ws.set 0 (gd 0, zMod gd n nd nj my 1)) H := hP
    have hD : va_D A (ws.set 0 (gd 0, zMod gd n nd nj my 1)) := hD
    refine zb_ne (tgt := 19) hx hb dX5_unmount_14 (by decide) (fun c_8 => Bool.noConfusion c_8) (fun c_8 => ?_)
    refine lv_iconst (v := nI (0)) hx hb dX5_unmount_17 (by decide) ?_
    exact zr_qi (S := va_W) (w1 := fun u => u) (ws.set 0 (gd 0, zMod gd n nd nj my 1)) hx hb hr hlocks (⟨(mKeep_set mKeep_rf (by decide)), (by rw [hK]; exact (mL_0 hm0 n nd nj my 1))⟩) hP hD hS (rfl) dX5_unmount_18
  · obtain ⟨hjn, rfl⟩ := ix_some ho
    have hhn : hd j = none := Option.not_isSome_iff_eq_none.mp (by rw [show (hd j).isSome = false from hc]; exact Bool.noConfusion)
    have hl : lv_has ls 3 [(0, .ref (gd 0)), (1, .int (nI (j)))] := hl
    refine lv_aload_n hx hb dX5_unmount_0 rfl (lv_at hl 0 rfl) ?_
    refine lv_aload_n hx hb dX5_unmount_1 rfl (lv_at hl 0 rfl) ?_
    refine lv_iload_n hx hb dX5_unmount_2 rfl (lv_at hl 1 rfl) ?_
    refine zk_V_i (n := 1) (As := [.int (nI (j))]) (rest := [.ref (gd 0)]) hx hb hml hts hown hZ hP (c_X5_isDrive l D cA _ hm0 (by omega) (nI (j))) gX5_unmount_X5_isDrive rfl rfl ⟨rfl, rfl⟩ ⟨by decide +kernel, Nat.le_of_ble_eq_true rfl, Nat.le_of_ble_eq_true rfl⟩ m0 rfl hl.1 rfl (Nat.le_of_ble_eq_true rfl) ⟨Nat.le_of_ble_eq_true rfl, Nat.le_of_ble_eq_true rfl⟩ rfl dX5_unmount_3 (fun r_9 hr_10 => ?_)
    obtain rfl := show r_9 = _ from hr_10
    refine zx_val (y := bI (true)) (by rw [ix_in (by omega) hjn]; rfl) ?_
    refine lv_aload_n hx hb dX5_unmount_6 rfl (lv_at hl 0 rfl) ?_
    refine lv_iload_n hx hb dX5_unmount_7 rfl (lv_at hl 1 rfl) ?_
    refine zk_V_i (n := 1) (As := [.int (nI (j))]) (rest := [.int (bI (true)), .ref (gd 0)]) hx hb hml hts hown hZ hP (c_X5_hasTape l D cA _ hm0 hd3 hH8 (nI (j))) gX5_unmount_X5_hasTape rfl rfl ⟨rfl, rfl⟩ ⟨by decide +kernel, Nat.le_of_ble_eq_true rfl, Nat.le_of_ble_eq_true rfl⟩ m0 rfl hl.1 rfl (Nat.le_of_ble_eq_true rfl) ⟨Nat.le_of_ble_eq_true rfl, Nat.le_of_ble_eq_true rfl⟩ rfl dX5_unmount_8 (fun r_11 hr_12 => ?_)
    obtain rfl := show r_11 = _ from hr_12
    refine zx_val (y := bI (false)) (by rw [ix_in (by omega) hjn]; show bI (hd j).isSome = _; rw [hhn]; rfl) ?_
    refine zw_V_i (n := 2) (mc := 0) (ms := 0) (As := [.int (bI (true)), .int (bI (false))]) (rest := []) (w1 := fun u : Unit => ws.set 0 (gd 0, zMod gd n nd nj my 2)) hx hb hml hts hown hZ hP hD hS hA (c_X5_mayBoth l D cA _ _ gd n nd nj my th true false (m0)) gX5_unmount_X5_mayBoth rfl rfl ⟨rfl, rfl⟩ ⟨by decide +kernel, Nat.le_of_ble_eq_true rfl, Nat.le_of_ble_eq_true rfl⟩ m0 rfl hl.1 rfl (Nat.le_of_ble_eq_true rfl) ⟨Nat.le_of_ble_eq_true rfl, Nat.le_of_ble_eq_true rfl⟩ rfl dX5_unmount_11 (fun r_13 u_15 H locs hr_14 hP hD hS hz_15 => ?_)
    obtain rfl := show r_13 = _ from hr_14
    have hP : va_P D vwCl (ws.set 0 (gd 0, zMod gd n nd nj my 2)) H := hP
    have hD : va_D A (ws.set 0 (gd 0, zMod gd n nd nj my 2)) := hD
    refine zb_ne (tgt := 19) hx hb dX5_unmount_14 (by decide) (fun c_16 => Bool.noConfusion c_16) (fun c_16 => ?_)
    refine lv_iconst (v := nI (0)) hx hb dX5_unmount_17 (by decide) ?_
    exact zr_qi (S := va_W) (w1 := fun u => u) (ws.set 0 (gd 0, zMod gd n nd nj my 2)) hx hb hr hlocks (⟨(mKeep_set mKeep_rf (by decide)), (by rw [hK]; exact (mL_0 hm0 n nd nj my 2))⟩) hP hD hS (rfl) dX5_unmount_18

set_option maxHeartbeats 4000000 in
set_option maxRecDepth 100000 in
theorem c_X5_clean_ok (l : Launch) (D : va_G) (cA : Nat → ClassId) (sz : Nat) (ws : va_W) {gd : Nat → Nat} {n : Nat} {tr : Nat → Nat} {le : Nat → Nat} {sl : Nat → Nat} {mo : Nat → Option Nat} {la : Nat → Bool} {fc : Nat → Nat} {sf : Nat → Int32} {bf : Nat → Int32} {nd : Nat} {mk : Nat → Nat} {ck : Nat → Int32} {ct : Nat → Nat} {hd : Nat → Option Nat} {pf : Nat → Int32} {nj : Nat} {jt : Nat → Int32} {jf : Nat → Nat} {dl : Nat → Nat} {fin : Nat → Bool} {my : Nat} {fls : Nat → Int32} {fod : Nat → Int32} {fle : Nat → Int32} {fro : Nat → Int32} {th : Nat} {bo : Nat → Nat → Nat} {pq : Nat → Int32} {fw : Nat → Int32} {dn : Nat} (hm : mL cA ws gd n tr le sl mo la fc sf bf nd mk ck ct hd pf nj jt jf dl fin my fls fod fle fro th) (hI : zI n tr le sl mo fc bo nd mk ct hd pq nj fw jf dl) (hM : mI n la fc bo nd ck ct hd pq pf nj fw jt fin sf bf dn) (j : Nat) (hjn : j < nd) (hhj : hd j = none) : Met l yX5_clean wsX5_clean ({ frames := 3, cells := 0, slots := 0, locals := 64 }) (va_Pc [.ref (gd 0), .int (nI (j))] (zM D cA (ws) sz)) (va_Qi (fun (r : Int32) (u : va_W) => r = nI (ct j) ∧ mKeep ws u ∧ mL cA u gd n tr le sl mo la fc sf bf nd mk (va_up ck j (ck j + nI 50)) (va_up ct j 0) hd pf nj jt jf dl fin my fls fod fle fro 0) (fun u => zB D (va_A (ws) sz) (u)) (va_A (ws) sz)) 0 0 (va_A (ws) sz) := by
  refine zOpen (cc := cX5_clean) (maxL := 3) (ret := (some .int)) (own := RX5) (by decide) rfl rfl (Nat.le_of_ble_eq_true rfl) ?_
  intro p e s m below meth c ls hx hb hr hml hts hown hlocks hnm ⟨hZ, hP, hD0, hsz⟩ hl
  subst hsz
  have hD := hD0.self (sz := s.heap.size)
  generalize hAe : va_A (ws) s.heap.size = A at hD ⊢
  have hA : ∀ q : Nat, s.heap.size ≤ q → A q := fun q h => by rw [← hAe]; exact Or.inr h
  have hS : va_S A s.heap s.heap [] := va_S.rf
  have iX5 : ∀ w ∈ wsX50, w ∈ wsX5_clean := by decide +kernel
  have hl : lv_has ls 3 [(0, .ref (gd 0)), (1, .int (nI (j)))] := hl
  have hm0 := hm
  have hI0 := hI
  have hM0 := hM
  obtain ⟨hn8, hd3, hj60, hIT, hID, hIJ, hIdl, hIw⟩ := hI
  obtain ⟨hM1, hM2, hM3, hM4, hM5, hM6, hM7⟩ := hM
  obtain ⟨m0, m1, m2, m3, m4, m5, m6, m7, m8, m9, m10, m11, m12, m13, m14, m15, m16, m17, m18, m19, m20, m21⟩ := hm
  have hfc10 : ∀ i, i < n → fc i ≤ 10 := fun i hi => (hIT i hi).2.2.2.2.2.2.1
  have hsl12 : ∀ i, i < n → sl i < 12 := fun i hi => (hIT i hi).2.2.2.2.1
  have hH8 : ∀ j, j < nd → ∀ t, hd j = some t → t < 8 := fun j hj t h => by have := ((hID j hj).2.2.2 t h).1; omega
  have hmo3 : ∀ i, i < n → ∀ j, mo i = some j → j < nd := fun i hi j h => ((hIT i hi).2.2.2.2.2.1 j h).1
  have hfw : ∀ k, k < nj → fw k = if fin k then -1 else jt k := fun k hk => (hM5 k hk).1
  refine lv_aload_n hx hb dX5_clean_0 rfl (lv_at hl 0 rfl) ?_
  refine lv_aload_n hx hb dX5_clean_1 rfl (lv_at hl 0 rfl) ?_
  refine lv_iload_n hx hb dX5_clean_2 rfl (lv_at hl 1 rfl) ?_
  refine zk_V_i (n := 1) (As := [.int (nI (j))]) (rest := [.ref (gd 0)]) hx hb hml hts hown hZ hP (c_X5_isDrive l D cA _ hm0 (by omega) (nI (j))) gX5_clean_X5_isDrive rfl rfl ⟨rfl, rfl⟩ ⟨by decide +kernel, Nat.le_of_ble_eq_true rfl, Nat.le_of_ble_eq_true rfl⟩ m0 rfl hl.1 rfl (Nat.le_of_ble_eq_true rfl) ⟨Nat.le_of_ble_eq_true rfl, Nat.le_of_ble_eq_true rfl⟩ rfl dX5_clean_3 (fun r_1 hr_2 => ?_)
  obtain rfl := show r_1 = _ from hr_2
  refine zx_val (y := bI (true)) (by rw [ix_in (by omega) hjn]; rfl) ?_
  refine lv_aload_n hx hb dX5_clean_6 rfl (lv_at hl 0 rfl) ?_
  refine lv_iload_n hx hb dX5_clean_7 rfl (lv_at hl 1 rfl) ?_
  refine zk_V_i (n := 1) (As := [.int (nI (j))]) (rest := [.int (bI (true)), .ref (gd 0)]) hx hb hml hts hown hZ hP (c_X5_hasTape l D cA _ hm0 hd3 hH8 (nI (j))) gX5_clean_X5_hasTape rfl rfl ⟨rfl, rfl⟩ ⟨by decide +kernel, Nat.le_of_ble_eq_true rfl, Nat.le_of_ble_eq_true rfl⟩ m0 rfl hl.1 rfl (Nat.le_of_ble_eq_true rfl) ⟨Nat.le_of_ble_eq_true rfl, Nat.le_of_ble_eq_true rfl⟩ rfl dX5_clean_8 (fun r_3 hr_4 => ?_)
  obtain rfl := show r_3 = _ from hr_4
  refine zx_val (y := bI (false)) (by rw [ix_in (by omega) hjn]; show bI (hd j).isSome = _; rw [hhj]; rfl) ?_
  refine zb_ne (tgt := 18) hx hb dX5_clean_11 (by decide) (fun c_5 => Bool.noConfusion c_5) (fun c_5 => ?_)
  refine lv_iconst (v := nI (1)) hx hb dX5_clean_14 (by decide) ?_
  refine lv_goto (tgt := 19) hx hb dX5_clean_15 (by decide) ?_
  refine zw_V_i (n := 2) (mc := 0) (ms := 0) (As := [.int (bI (true)), .int (bI (true))]) (rest := []) (w1 := fun u : Unit => ws.set 0 (gd 0, zMod gd n nd nj my 0)) hx hb hml hts hown hZ hP hD hS hA (c_X5_mayBoth l D cA _ _ gd n nd nj my th true true (m0)) gX5_clean_X5_mayBoth rfl rfl ⟨rfl, rfl⟩ ⟨by decide +kernel, Nat.le_of_ble_eq_true rfl, Nat.le_of_ble_eq_true rfl⟩ m0 rfl hl.1 rfl (Nat.le_of_ble_eq_true rfl) ⟨Nat.le_of_ble_eq_true rfl, Nat.le_of_ble_eq_true rfl⟩ rfl dX5_clean_19 (fun r_6 u_8 H locs hr_7 hP hD hS hz_8 => ?_)
  obtain rfl := show r_6 = _ from hr_7
  have hP : va_P D vwCl (ws.set 0 (gd 0, zMod gd n nd nj my 0)) H := hP
  have hD : va_D A (ws.set 0 (gd 0, zMod gd n nd nj my 0)) := hD
  refine zb_ne (tgt := 27) hx hb dX5_clean_22 (by decide) (fun c_9 => ?_) (fun c_9 => Bool.noConfusion c_9)
  refine lv_aload_n hx hb dX5_clean_27 rfl (lv_at hl 0 rfl) ?_
  refine va_get (D := D) (ci := 5) (v := .ref (gd 11)) (C := RX5) (T := TX5) (N := 26) hx hb hts iX5 hown hZ.1 hP 0 (zset_s m0) rfl 12 (by decide) (hts (.fieldLink RX5 41 "TapeRoboticsModel" "count" "[I") (by decide +kernel)) (fun _ h9 => h9) rfl dX5_clean_28 ?_
  refine lv_iload_n hx hb dX5_clean_31 rfl (lv_at hl 1 rfl) ?_
  refine va_iald hx hb hZ.1 hP 11 0 (zset_n m11 (by decide)) rfl (vp_in_nI (show j < 3 by omega) (by omega)) dX5_clean_32 ?_
  rw [nI_clamp (show j < 2 ^ 31 by omega)]
  refine lv_istore_n (lv' := [(2, .int (nI (ct j))), (0, .ref (gd 0)), (1, .int (nI (j)))]) hx hb dX5_clean_33 rfl hl (by decide) rfl (fun ls hl => ?_)
  refine lv_aload_n hx hb dX5_clean_34 rfl (lv_at hl 1 rfl) ?_
  refine va_get (D := D) (ci := 5) (v := .ref (gd 11)) (C := RX5) (T := TX5) (N := 26) hx hb hts iX5 hown hZ.1 hP 0 (zset_s m0) rfl 12 (by decide) (hts (.fieldLink RX5 41 "TapeRoboticsModel" "count" "[I") (by decide +kernel)) (fun _ h9 => h9) rfl dX5_clean_35 ?_
  refine lv_iload_n hx hb dX5_clean_38 rfl (lv_at hl 2 rfl) ?_
  refine lv_iconst (v := nI (0)) hx hb dX5_clean_39 (by decide) ?_
  refine va_iast hx hb hZ.1 hP hD hS 11 0 (zset_n m11 (by decide)) rfl (vp_in_nI (show j < 3 by omega) (by omega)) dX5_clean_40 (fun H locs hP hD hS => ?_)
  rw [nI_clamp (show j < 2 ^ 31 by omega)] at hP hD
  rw [upd_nI] at hP hD
  have hP : va_P D vwCl ((ws.set 0 (gd 0, zMod gd n nd nj my 0)).set 11 (gd 11, zInts cA 3 (fun k => nI ((va_up ct j 0) k)))) H := hP
  have hD : va_D A ((ws.set 0 (gd 0, zMod gd n nd nj my 0)).set 11 (gd 11, zInts cA 3 (fun k => nI ((va_up ct j 0) k)))) := hD
  refine lv_aload_n hx hb dX5_clean_41 rfl (lv_at hl 1 rfl) ?_
  refine va_get (D := D) (ci := 5) (v := .ref (gd 10)) (C := RX5) (T := TX5) (N := 26) hx hb hts iX5 hown hZ.1 hP 0 (zset_n (zset_s m0) (by decide)) rfl 11 (by decide) (hts (.fieldLink RX5 38 "TapeRoboticsModel" "clock" "[I") (by decide +kernel)) (fun _ h9 => h9) rfl dX5_clean_42 ?_
  refine lv_iload_n hx hb dX5_clean_45 rfl (lv_at hl 2 rfl) ?_
  refine lv_dup2_11 hx hb dX5_clean_46 rfl rfl ?_
  refine va_iald hx hb hZ.1 hP 10 0 (zset_n (zset_n m10 (by decide)) (by decide)) rfl (vp_in_nI (show j < 3 by omega) (by omega)) dX5_clean_47 ?_
  rw [nI_clamp (show j < 2 ^ 31 by omega)]
  refine lv_bipush (v := nI (50)) hx hb dX5_clean_48 (by decide) ?_
  refine lv_iadd hx hb dX5_clean_50 ?_
  refine va_iast hx hb hZ.1 hP hD hS 10 0 (zset_n (zset_n m10 (by decide)) (by decide)) rfl (vp_in_nI (show j < 3 by omega) (by omega)) dX5_clean_51 (fun H locs hP hD hS => ?_)
  rw [nI_clamp (show j < 2 ^ 31 by omega)] at hP hD
  have hP : va_P D vwCl (((ws.set 0 (gd 0, zMod gd n nd nj my 0)).set 11 (gd 11, zInts cA 3 (fun k => nI ((va_up ct j 0) k)))).set 10 (gd 10, zInts cA 3 (va_up ck j ((ck j) + (nI (50)))))) H := hP
  have hD : va_D A (((ws.set 0 (gd 0, zMod gd n nd nj my 0)).set 11 (gd 11, zInts cA 3 (fun k => nI ((va_up ct j 0) k)))).set 10 (gd 10, zInts cA 3 (va_up ck j ((ck j) + (nI (50)))))) := hD
  refine lv_iload_n hx hb dX5_clean_52 rfl (lv_at hl 0 rfl) ?_
  exact zr_qi (S := va_W) (w1 := fun u => u) (((ws.set 0 (gd 0, zMod gd n nd nj my 0)).set 11 (gd 11, zInts cA 3 (fun k => nI ((va_up ct j 0) k)))).set 10 (gd 10, zInts cA 3 (va_up ck j ((ck j) + (nI (50)))))) hx hb hr hlocks (⟨rfl, (mKeep_set (mKeep_set (mKeep_set mKeep_rf (by decide)) (by decide)) (by decide)), (mL_10 (mL_11 (mL_0 hm0 n nd nj my 0) ((va_up ct j 0))) ((va_up ck j ((ck j) + (nI (50))))))⟩) hP hD hS (rfl) dX5_clean_53

set_option maxHeartbeats 4000000 in
set_option maxRecDepth 100000 in
theorem c_X5_clean_no (l : Launch) (D : va_G) (cA : Nat → ClassId) (sz : Nat) (ws : va_W) {gd : Nat → Nat} {n : Nat} {tr : Nat → Nat} {le : Nat → Nat} {sl : Nat → Nat} {mo : Nat → Option Nat} {la : Nat → Bool} {fc : Nat → Nat} {sf : Nat → Int32} {bf : Nat → Int32} {nd : Nat} {mk : Nat → Nat} {ck : Nat → Int32} {ct : Nat → Nat} {hd : Nat → Option Nat} {pf : Nat → Int32} {nj : Nat} {jt : Nat → Int32} {jf : Nat → Nat} {dl : Nat → Nat} {fin : Nat → Bool} {my : Nat} {fls : Nat → Int32} {fod : Nat → Int32} {fle : Nat → Int32} {fro : Nat → Int32} {th : Nat} {bo : Nat → Nat → Nat} {pq : Nat → Int32} {fw : Nat → Int32} {dn : Nat} (hm : mL cA ws gd n tr le sl mo la fc sf bf nd mk ck ct hd pf nj jt jf dl fin my fls fod fle fro th) (hI : zI n tr le sl mo fc bo nd mk ct hd pq nj fw jf dl) (hM : mI n la fc bo nd ck ct hd pq pf nj fw jt fin sf bf dn) (v0 : Int32) (h0 : (kS (ix v0 nd) (fun j => (hd j).isNone)) ≠ 0) : Met l yX5_clean wsX5_clean ({ frames := 3, cells := 0, slots := 0, locals := 64 }) (va_Pc [.ref (gd 0), .int (v0)] (zM D cA (ws) sz)) (va_Qi (fun (r : Int32) (u : va_W) => mKeep ws u ∧ mL cA u gd n tr le sl mo la fc sf bf nd mk ck ct hd pf nj jt jf dl fin my fls fod fle fro (kS (ix v0 nd) (fun j => (hd j).isNone))) (fun u => zB D (va_A (ws) sz) (u)) (va_A (ws) sz)) 0 0 (va_A (ws) sz) := by
  refine zOpen (cc := cX5_clean) (maxL := 3) (ret := (some .int)) (own := RX5) (by decide) rfl rfl (Nat.le_of_ble_eq_true rfl) ?_
  intro p e s m below meth c ls hx hb hr hml hts hown hlocks hnm ⟨hZ, hP, hD0, hsz⟩ hl
  subst hsz
  have hD := hD0.self (sz := s.heap.size)
  generalize hAe : va_A (ws) s.heap.size = A at hD ⊢
  have hA : ∀ q : Nat, s.heap.size ≤ q → A q := fun q h => by rw [← hAe]; exact Or.inr h
  have hS : va_S A s.heap s.heap [] := va_S.rf
  have iX5 : ∀ w ∈ wsX50, w ∈ wsX5_clean := by decide +kernel
  have hl : lv_has ls 3 [(0, .ref (gd 0)), (1, .int (v0))] := hl
  have hm0 := hm
  have hI0 := hI
  have hM0 := hM
  obtain ⟨hn8, hd3, hj60, hIT, hID, hIJ, hIdl, hIw⟩ := hI
  obtain ⟨hM1, hM2, hM3, hM4, hM5, hM6, hM7⟩ := hM
  obtain ⟨m0, m1, m2, m3, m4, m5, m6, m7, m8, m9, m10, m11, m12, m13, m14, m15, m16, m17, m18, m19, m20, m21⟩ := hm
  have hfc10 : ∀ i, i < n → fc i ≤ 10 := fun i hi => (hIT i hi).2.2.2.2.2.2.1
  have hsl12 : ∀ i, i < n → sl i < 12 := fun i hi => (hIT i hi).2.2.2.2.1
  have hH8 : ∀ j, j < nd → ∀ t, hd j = some t → t < 8 := fun j hj t h => by have := ((hID j hj).2.2.2 t h).1; omega
  have hmo3 : ∀ i, i < n → ∀ j, mo i = some j → j < nd := fun i hi j h => ((hIT i hi).2.2.2.2.2.1 j h).1
  have hfw : ∀ k, k < nj → fw k = if fin k then -1 else jt k := fun k hk => (hM5 k hk).1
  rcases kS_no h0 with ⟨ho, hK⟩ | ⟨j, ho, hc, hK⟩
  · refine lv_aload_n hx hb dX5_clean_0 rfl (lv_at hl 0 rfl) ?_
    refine lv_aload_n hx hb dX5_clean_1 rfl (lv_at hl 0 rfl) ?_
    refine lv_iload_n hx hb dX5_clean_2 rfl (lv_at hl 1 rfl) ?_
    refine zk_V_i (n := 1) (As := [.int (v0)]) (rest := [.ref (gd 0)]) hx hb hml hts hown hZ hP (c_X5_isDrive l D cA _ hm0 (by omega) v0) gX5_clean_X5_isDrive rfl rfl ⟨rfl, rfl⟩ ⟨by decide +kernel, Nat.le_of_ble_eq_true rfl, Nat.le_of_ble_eq_true rfl⟩ m0 rfl hl.1 rfl (Nat.le_of_ble_eq_true rfl) ⟨Nat.le_of_ble_eq_true rfl, Nat.le_of_ble_eq_true rfl⟩ rfl dX5_clean_3 (fun r_1 hr_2 => ?_)
    obtain rfl := show r_1 = _ from hr_2
    refine zx_val (y := bI (false)) (by rw [ho]; rfl) ?_
    refine lv_aload_n hx hb dX5_clean_6 rfl (lv_at hl 0 rfl) ?_
    refine lv_iload_n hx hb dX5_clean_7 rfl (lv_at hl 1 rfl) ?_
    refine zk_V_i (n := 1) (As := [.int (v0)]) (rest := [.int (bI (false)), .ref (gd 0)]) hx hb hml hts hown hZ hP (c_X5_hasTape l D cA _ hm0 hd3 hH8 v0) gX5_clean_X5_hasTape rfl rfl ⟨rfl, rfl⟩ ⟨by decide +kernel, Nat.le_of_ble_eq_true rfl, Nat.le_of_ble_eq_true rfl⟩ m0 rfl hl.1 rfl (Nat.le_of_ble_eq_true rfl) ⟨Nat.le_of_ble_eq_true rfl, Nat.le_of_ble_eq_true rfl⟩ rfl dX5_clean_8 (fun r_3 hr_4 => ?_)
    obtain rfl := show r_3 = _ from hr_4
    refine zx_val (y := bI (false)) (by rw [ho]; rfl) ?_
    refine zb_ne (tgt := 18) hx hb dX5_clean_11 (by decide) (fun c_5 => Bool.noConfusion c_5) (fun c_5 => ?_)
    refine lv_iconst (v := nI (1)) hx hb dX5_clean_14 (by decide) ?_
    refine lv_goto (tgt := 19) hx hb dX5_clean_15 (by decide) ?_
    refine zw_V_i (n := 2) (mc := 0) (ms := 0) (As := [.int (bI (false)), .int (bI (true))]) (rest := []) (w1 := fun u : Unit => ws.set 0 (gd 0, zMod gd n nd nj my 1)) hx hb hml hts hown hZ hP hD hS hA (c_X5_mayBoth l D cA _ _ gd n nd nj my th false true (m0)) gX5_clean_X5_mayBoth rfl rfl ⟨rfl, rfl⟩ ⟨by decide +kernel, Nat.le_of_ble_eq_true rfl, Nat.le_of_ble_eq_true rfl⟩ m0 rfl hl.1 rfl (Nat.le_of_ble_eq_true rfl) ⟨Nat.le_of_ble_eq_true rfl, Nat.le_of_ble_eq_true rfl⟩ rfl dX5_clean_19 (fun r_6 u_8 H locs hr_7 hP hD hS hz_8 => ?_)
    obtain rfl := show r_6 = _ from hr_7
    have hP : va_P D vwCl (ws.set 0 (gd 0, zMod gd n nd nj my 1)) H := hP
    have hD : va_D A (ws.set 0 (gd 0, zMod gd n nd nj my 1)) := hD
    refine zb_ne (tgt := 27) hx hb dX5_clean_22 (by decide) (fun c_9 => Bool.noConfusion c_9) (fun c_9 => ?_)
    refine lv_iconst (v := nI (0)) hx hb dX5_clean_25 (by decide) ?_
    exact zr_qi (S := va_W) (w1 := fun u => u) (ws.set 0 (gd 0, zMod gd n nd nj my 1)) hx hb hr hlocks (⟨(mKeep_set mKeep_rf (by decide)), (by rw [hK]; exact (mL_0 hm0 n nd nj my 1))⟩) hP hD hS (rfl) dX5_clean_26
  · obtain ⟨hjn, rfl⟩ := ix_some ho
    obtain ⟨t9, hhn⟩ : ∃ t, hd j = some t := by
      rcases h9 : hd j with _ | t
      · (try dsimp only at hc); rw [h9] at hc; cases hc
      · exact ⟨t, rfl⟩
    have hl : lv_has ls 3 [(0, .ref (gd 0)), (1, .int (nI (j)))] := hl
    refine lv_aload_n hx hb dX5_clean_0 rfl (lv_at hl 0 rfl) ?_
    refine lv_aload_n hx hb dX5_clean_1 rfl (lv_at hl 0 rfl) ?_
    refine lv_iload_n hx hb dX5_clean_2 rfl (lv_at hl 1 rfl) ?_
    refine zk_V_i (n := 1) (As := [.int (nI (j))]) (rest := [.ref (gd 0)]) hx hb hml hts hown hZ hP (c_X5_isDrive l D cA _ hm0 (by omega) (nI (j))) gX5_clean_X5_isDrive rfl rfl ⟨rfl, rfl⟩ ⟨by decide +kernel, Nat.le_of_ble_eq_true rfl, Nat.le_of_ble_eq_true rfl⟩ m0 rfl hl.1 rfl (Nat.le_of_ble_eq_true rfl) ⟨Nat.le_of_ble_eq_true rfl, Nat.le_of_ble_eq_true rfl⟩ rfl dX5_clean_3 (fun r_10 hr_11 => ?_)
    obtain rfl := show r_10 = _ from hr_11
    refine zx_val (y := bI (true)) (by rw [ix_in (by omega) hjn]; rfl) ?_
    refine lv_aload_n hx hb dX5_clean_6 rfl (lv_at hl 0 rfl) ?_
    refine lv_iload_n hx hb dX5_clean_7 rfl (lv_at hl 1 rfl) ?_
    refine zk_V_i (n := 1) (As := [.int (nI (j))]) (rest := [.int (bI (true)), .ref (gd 0)]) hx hb hml hts hown hZ hP (c_X5_hasTape l D cA _ hm0 hd3 hH8 (nI (j))) gX5_clean_X5_hasTape rfl rfl ⟨rfl, rfl⟩ ⟨by decide +kernel, Nat.le_of_ble_eq_true rfl, Nat.le_of_ble_eq_true rfl⟩ m0 rfl hl.1 rfl (Nat.le_of_ble_eq_true rfl) ⟨Nat.le_of_ble_eq_true rfl, Nat.le_of_ble_eq_true rfl⟩ rfl dX5_clean_8 (fun r_12 hr_13 => ?_)
    obtain rfl := show r_12 = _ from hr_13
    refine zx_val (y := bI (true)) (by rw [ix_in (by omega) hjn]; show bI (hd j).isSome = _; rw [hhn]; rfl) ?_
    refine zb_ne (tgt := 18) hx hb dX5_clean_11 (by decide) (fun c_14 => ?_) (fun c_14 => Bool.noConfusion c_14)
    refine lv_iconst (v := nI (0)) hx hb dX5_clean_18 (by decide) ?_
    refine zw_V_i (n := 2) (mc := 0) (ms := 0) (As := [.int (bI (true)), .int (bI (false))]) (rest := []) (w1 := fun u : Unit => ws.set 0 (gd 0, zMod gd n nd nj my 2)) hx hb hml hts hown hZ hP hD hS hA (c_X5_mayBoth l D cA _ _ gd n nd nj my th true false (m0)) gX5_clean_X5_mayBoth rfl rfl ⟨rfl, rfl⟩ ⟨by decide +kernel, Nat.le_of_ble_eq_true rfl, Nat.le_of_ble_eq_true rfl⟩ m0 rfl hl.1 rfl (Nat.le_of_ble_eq_true rfl) ⟨Nat.le_of_ble_eq_true rfl, Nat.le_of_ble_eq_true rfl⟩ rfl dX5_clean_19 (fun r_15 u_17 H locs hr_16 hP hD hS hz_17 => ?_)
    obtain rfl := show r_15 = _ from hr_16
    have hP : va_P D vwCl (ws.set 0 (gd 0, zMod gd n nd nj my 2)) H := hP
    have hD : va_D A (ws.set 0 (gd 0, zMod gd n nd nj my 2)) := hD
    refine zb_ne (tgt := 27) hx hb dX5_clean_22 (by decide) (fun c_18 => Bool.noConfusion c_18) (fun c_18 => ?_)
    refine lv_iconst (v := nI (0)) hx hb dX5_clean_25 (by decide) ?_
    exact zr_qi (S := va_W) (w1 := fun u => u) (ws.set 0 (gd 0, zMod gd n nd nj my 2)) hx hb hr hlocks (⟨(mKeep_set mKeep_rf (by decide)), (by rw [hK]; exact (mL_0 hm0 n nd nj my 2))⟩) hP hD hS (rfl) dX5_clean_26

set_option maxHeartbeats 4000000 in
set_option maxRecDepth 100000 in
theorem c_X5_lose_ok (l : Launch) (D : va_G) (cA : Nat → ClassId) (sz : Nat) (ws : va_W) {gd : Nat → Nat} {n : Nat} {tr : Nat → Nat} {le : Nat → Nat} {sl : Nat → Nat} {mo : Nat → Option Nat} {la : Nat → Bool} {fc : Nat → Nat} {sf : Nat → Int32} {bf : Nat → Int32} {nd : Nat} {mk : Nat → Nat} {ck : Nat → Int32} {ct : Nat → Nat} {hd : Nat → Option Nat} {pf : Nat → Int32} {nj : Nat} {jt : Nat → Int32} {jf : Nat → Nat} {dl : Nat → Nat} {fin : Nat → Bool} {my : Nat} {fls : Nat → Int32} {fod : Nat → Int32} {fle : Nat → Int32} {fro : Nat → Int32} {th : Nat} {bo : Nat → Nat → Nat} {pq : Nat → Int32} {fw : Nat → Int32} {dn : Nat} (hm : mL cA ws gd n tr le sl mo la fc sf bf nd mk ck ct hd pf nj jt jf dl fin my fls fod fle fro th) (hI : zI n tr le sl mo fc bo nd mk ct hd pq nj fw jf dl) (hM : mI n la fc bo nd ck ct hd pq pf nj fw jt fin sf bf dn) (t : Nat) (htn : t < n) (hmt : mo t = none) (hla : la t = true) : Met l yX5_lose wsX5_lose ({ frames := 2, cells := 0, slots := 0, locals := 43 }) (va_Pc [.ref (gd 0), .int (nI (t))] (zM D cA (ws) sz)) (va_Qi (fun (r : Int32) (u : va_W) => r = nI (cnt (fun i => !(va_up la t false) i) n) ∧ mKeep ws u ∧ mL cA u gd n tr le sl mo (va_up la t false) fc sf bf nd mk ck ct hd pf nj jt jf dl fin my fls fod fle fro 0) (fun u => zB D (va_A (ws) sz) (u)) (va_A (ws) sz)) 0 0 (va_A (ws) sz) := by
  refine zOpen (cc := cX5_lose) (maxL := 3) (ret := (some .int)) (own := RX5) (by decide) rfl rfl (Nat.le_of_ble_eq_true rfl) ?_
  intro p e s m below meth c ls hx hb hr hml hts hown hlocks hnm ⟨hZ, hP, hD0, hsz⟩ hl
  subst hsz
  have hD := hD0.self (sz := s.heap.size)
  generalize hAe : va_A (ws) s.heap.size = A at hD ⊢
  have hA : ∀ q : Nat, s.heap.size ≤ q → A q := fun q h => by rw [← hAe]; exact Or.inr h
  have hS : va_S A s.heap s.heap [] := va_S.rf
  have iX5 : ∀ w ∈ wsX50, w ∈ wsX5_lose := by decide +kernel
  have hl : lv_has ls 3 [(0, .ref (gd 0)), (1, .int (nI (t)))] := hl
  have hm0 := hm
  have hI0 := hI
  have hM0 := hM
  obtain ⟨hn8, hd3, hj60, hIT, hID, hIJ, hIdl, hIw⟩ := hI
  obtain ⟨hM1, hM2, hM3, hM4, hM5, hM6, hM7⟩ := hM
  obtain ⟨m0, m1, m2, m3, m4, m5, m6, m7, m8, m9, m10, m11, m12, m13, m14, m15, m16, m17, m18, m19, m20, m21⟩ := hm
  have hfc10 : ∀ i, i < n → fc i ≤ 10 := fun i hi => (hIT i hi).2.2.2.2.2.2.1
  have hsl12 : ∀ i, i < n → sl i < 12 := fun i hi => (hIT i hi).2.2.2.2.1
  have hH8 : ∀ j, j < nd → ∀ t, hd j = some t → t < 8 := fun j hj t h => by have := ((hID j hj).2.2.2 t h).1; omega
  have hmo3 : ∀ i, i < n → ∀ j, mo i = some j → j < nd := fun i hi j h => ((hIT i hi).2.2.2.2.2.1 j h).1
  have hfw : ∀ k, k < nj → fw k = if fin k then -1 else jt k := fun k hk => (hM5 k hk).1
  refine lv_aload_n hx hb dX5_lose_0 rfl (lv_at hl 0 rfl) ?_
  refine lv_iload_n hx hb dX5_lose_1 rfl (lv_at hl 1 rfl) ?_
  refine zk_V_i (n := 1) (As := [.int (nI (t))]) (rest := []) hx hb hml hts hown hZ hP (c_X5_isTape l D cA _ hm0 (by omega) (nI (t))) gX5_lose_X5_isTape rfl rfl ⟨rfl, rfl⟩ ⟨by decide +kernel, Nat.le_of_ble_eq_true rfl, Nat.le_of_ble_eq_true rfl⟩ m0 rfl hl.1 rfl (Nat.le_of_ble_eq_true rfl) ⟨Nat.le_of_ble_eq_true rfl, Nat.le_of_ble_eq_true rfl⟩ rfl dX5_lose_2 (fun r_1 hr_2 => ?_)
  obtain rfl := show r_1 = _ from hr_2
  refine zx_val (y := bI (true)) (by rw [ix_in (by omega) htn]; rfl) ?_
  refine lv_istore_n (lv' := [(2, .int (bI (true))), (0, .ref (gd 0)), (1, .int (nI (t)))]) hx hb dX5_lose_5 rfl hl (by decide) rfl (fun ls hl => ?_)
  refine lv_aload_n hx hb dX5_lose_6 rfl (lv_at hl 1 rfl) ?_
  refine lv_iload_n hx hb dX5_lose_7 rfl (lv_at hl 0 rfl) ?_
  refine lv_iload_n hx hb dX5_lose_8 rfl (lv_at hl 0 rfl) ?_
  refine zb_eq (tgt := 35) hx hb dX5_lose_9 (by decide) (fun c_3 => Bool.noConfusion c_3) (fun c_3 => ?_)
  refine lv_aload_n hx hb dX5_lose_12 rfl (lv_at hl 1 rfl) ?_
  refine va_get (D := D) (ci := 5) (v := .ref (gd 4)) (C := RX5) (T := TX5) (N := 26) hx hb hts iX5 hown hZ.1 hP 0 m0 rfl 4 (by decide) (hts (.fieldLink RX5 19 "TapeRoboticsModel" "mounted" "[I") (by decide +kernel)) (fun _ h9 => h9) rfl dX5_lose_13 ?_
  refine lv_iload_n hx hb dX5_lose_16 rfl (lv_at hl 2 rfl) ?_
  refine va_iald hx hb hZ.1 hP 4 0 m4 rfl (vp_in_nI (show t < 8 by omega) (by omega)) dX5_lose_17 ?_
  rw [nI_clamp (show t < 2 ^ 31 by omega)]
  refine zx_val (y := (-1)) (by rw [hmt]; rfl) ?_
  refine lv_iconst (v := (-1)) hx hb dX5_lose_18 (by decide) ?_
  refine lv_icmp_ne (tgt := 35) hx hb dX5_lose_19 (by decide) (fun c_4 => absurd rfl c_4) (fun c_4 => ?_)
  refine lv_aload_n hx hb dX5_lose_22 rfl (lv_at hl 1 rfl) ?_
  refine va_get (D := D) (ci := 5) (v := .ref (gd 5)) (C := RX5) (T := TX5) (N := 26) hx hb hts iX5 hown hZ.1 hP 0 m0 rfl 5 (by decide) (hts (.fieldLink RX5 22 "TapeRoboticsModel" "lost" "[Z") (by decide +kernel)) (fun _ h9 => h9) rfl dX5_lose_23 ?_
  refine lv_iload_n hx hb dX5_lose_26 rfl (lv_at hl 2 rfl) ?_
  refine va_zald hx hb hZ.1 hP 5 3 m5 rfl (vp_in_nI (show t < 8 by omega) (by omega)) dX5_lose_27 ?_
  rw [nI_clamp (show t < 2 ^ 31 by omega)]
  refine zx_val (y := bI (false)) (by rw [hla]; rfl) ?_
  refine zb_ne (tgt := 35) hx hb dX5_lose_28 (by decide) (fun c_5 => Bool.noConfusion c_5) (fun c_5 => ?_)
  refine lv_iconst (v := nI (1)) hx hb dX5_lose_31 (by decide) ?_
  refine lv_goto (tgt := 36) hx hb dX5_lose_32 (by decide) ?_
  refine zw_V_i (n := 2) (mc := 0) (ms := 0) (As := [.int (bI (true)), .int (bI (true))]) (rest := []) (w1 := fun u : Unit => ws.set 0 (gd 0, zMod gd n nd nj my 0)) hx hb hml hts hown hZ hP hD hS hA (c_X5_mayBoth l D cA _ _ gd n nd nj my th true true (m0)) gX5_lose_X5_mayBoth rfl rfl ⟨rfl, rfl⟩ ⟨by decide +kernel, Nat.le_of_ble_eq_true rfl, Nat.le_of_ble_eq_true rfl⟩ m0 rfl hl.1 rfl (Nat.le_of_ble_eq_true rfl) ⟨Nat.le_of_ble_eq_true rfl, Nat.le_of_ble_eq_true rfl⟩ rfl dX5_lose_36 (fun r_6 u_8 H locs hr_7 hP hD hS hz_8 => ?_)
  obtain rfl := show r_6 = _ from hr_7
  have hP : va_P D vwCl (ws.set 0 (gd 0, zMod gd n nd nj my 0)) H := hP
  have hD : va_D A (ws.set 0 (gd 0, zMod gd n nd nj my 0)) := hD
  refine zb_ne (tgt := 44) hx hb dX5_lose_39 (by decide) (fun c_9 => ?_) (fun c_9 => Bool.noConfusion c_9)
  refine lv_aload_n hx hb dX5_lose_44 rfl (lv_at hl 1 rfl) ?_
  refine va_get (D := D) (ci := 5) (v := .ref (gd 5)) (C := RX5) (T := TX5) (N := 26) hx hb hts iX5 hown hZ.1 hP 0 (zset_s m0) rfl 5 (by decide) (hts (.fieldLink RX5 22 "TapeRoboticsModel" "lost" "[Z") (by decide +kernel)) (fun _ h9 => h9) rfl dX5_lose_45 ?_
  refine lv_iload_n hx hb dX5_lose_48 rfl (lv_at hl 2 rfl) ?_
  refine lv_iconst (v := bI (true)) hx hb dX5_lose_49 (by decide) ?_
  refine va_zast hx hb hZ.1 hP hD hS 5 3 (zset_n m5 (by decide)) rfl (vp_in_nI (show t < 8 by omega) (by omega)) dX5_lose_50 (fun H locs hP hD hS => ?_)
  rw [nI_clamp (show t < 2 ^ 31 by omega)] at hP hD
  rw [vnarB, show bI true = bI (!false) from rfl, upd_lost] at hP hD
  have hP : va_P D vwCl ((ws.set 0 (gd 0, zMod gd n nd nj my 0)).set 5 (gd 5, zBols cA 8 (fun i => bI (!(va_up la t false) i)))) H := hP
  have hD : va_D A ((ws.set 0 (gd 0, zMod gd n nd nj my 0)).set 5 (gd 5, zBols cA 8 (fun i => bI (!(va_up la t false) i)))) := hD
  refine lv_aload_n hx hb dX5_lose_51 rfl (lv_at hl 1 rfl) ?_
  refine zk_V_i (n := 0) (As := []) (rest := []) hx hb hml hts hown hZ hP (c_X5_unlabelled l D cA _ ((mL_5 (mL_0 hm0 n nd nj my 0) ((va_up la t false)))) hn8) gX5_lose_X5_unlabelled rfl rfl ⟨rfl, rfl⟩ ⟨by decide +kernel, Nat.le_of_ble_eq_true rfl, Nat.le_of_ble_eq_true rfl⟩ (zset_n (zset_s m0) (by decide)) rfl hl.1 rfl (Nat.le_of_ble_eq_true rfl) ⟨Nat.le_of_ble_eq_true rfl, Nat.le_of_ble_eq_true rfl⟩ rfl dX5_lose_52 (fun r_10 hr_11 => ?_)
  obtain rfl := show r_10 = _ from hr_11
  exact zr_qi (S := va_W) (w1 := fun u => u) ((ws.set 0 (gd 0, zMod gd n nd nj my 0)).set 5 (gd 5, zBols cA 8 (fun i => bI (!(va_up la t false) i)))) hx hb hr hlocks (⟨rfl, (mKeep_set (mKeep_set mKeep_rf (by decide)) (by decide)), (mL_5 (mL_0 hm0 n nd nj my 0) ((va_up la t false)))⟩) hP hD hS (rfl) dX5_lose_55

set_option maxHeartbeats 4000000 in
set_option maxRecDepth 100000 in
theorem c_X5_lose_no (l : Launch) (D : va_G) (cA : Nat → ClassId) (sz : Nat) (ws : va_W) {gd : Nat → Nat} {n : Nat} {tr : Nat → Nat} {le : Nat → Nat} {sl : Nat → Nat} {mo : Nat → Option Nat} {la : Nat → Bool} {fc : Nat → Nat} {sf : Nat → Int32} {bf : Nat → Int32} {nd : Nat} {mk : Nat → Nat} {ck : Nat → Int32} {ct : Nat → Nat} {hd : Nat → Option Nat} {pf : Nat → Int32} {nj : Nat} {jt : Nat → Int32} {jf : Nat → Nat} {dl : Nat → Nat} {fin : Nat → Bool} {my : Nat} {fls : Nat → Int32} {fod : Nat → Int32} {fle : Nat → Int32} {fro : Nat → Int32} {th : Nat} {bo : Nat → Nat → Nat} {pq : Nat → Int32} {fw : Nat → Int32} {dn : Nat} (hm : mL cA ws gd n tr le sl mo la fc sf bf nd mk ck ct hd pf nj jt jf dl fin my fls fod fle fro th) (hI : zI n tr le sl mo fc bo nd mk ct hd pq nj fw jf dl) (hM : mI n la fc bo nd ck ct hd pq pf nj fw jt fin sf bf dn) (v0 : Int32) (h0 : (kS (ix v0 n) (fun t => !(mo t).isSome && la t)) ≠ 0) : Met l yX5_lose wsX5_lose ({ frames := 2, cells := 0, slots := 0, locals := 43 }) (va_Pc [.ref (gd 0), .int (v0)] (zM D cA (ws) sz)) (va_Qi (fun (r : Int32) (u : va_W) => mKeep ws u ∧ mL cA u gd n tr le sl mo la fc sf bf nd mk ck ct hd pf nj jt jf dl fin my fls fod fle fro (kS (ix v0 n) (fun t => !(mo t).isSome && la t))) (fun u => zB D (va_A (ws) sz) (u)) (va_A (ws) sz)) 0 0 (va_A (ws) sz) := by
  refine zOpen (cc := cX5_lose) (maxL := 3) (ret := (some .int)) (own := RX5) (by decide) rfl rfl (Nat.le_of_ble_eq_true rfl) ?_
  intro p e s m below meth c ls hx hb hr hml hts hown hlocks hnm ⟨hZ, hP, hD0, hsz⟩ hl
  subst hsz
  have hD := hD0.self (sz := s.heap.size)
  generalize hAe : va_A (ws) s.heap.size = A at hD ⊢
  have hA : ∀ q : Nat, s.heap.size ≤ q → A q := fun q h => by rw [← hAe]; exact Or.inr h
  have hS : va_S A s.heap s.heap [] := va_S.rf
  have iX5 : ∀ w ∈ wsX50, w ∈ wsX5_lose := by decide +kernel
  have hl : lv_has ls 3 [(0, .ref (gd 0)), (1, .int (v0))] := hl
  have hm0 := hm
  have hI0 := hI
  have hM0 := hM
  obtain ⟨hn8, hd3, hj60, hIT, hID, hIJ, hIdl, hIw⟩ := hI
  obtain ⟨hM1, hM2, hM3, hM4, hM5, hM6, hM7⟩ := hM
  obtain ⟨m0, m1, m2, m3, m4, m5, m6, m7, m8, m9, m10, m11, m12, m13, m14, m15, m16, m17, m18, m19, m20, m21⟩ := hm
  have hfc10 : ∀ i, i < n → fc i ≤ 10 := fun i hi => (hIT i hi).2.2.2.2.2.2.1
  have hsl12 : ∀ i, i < n → sl i < 12 := fun i hi => (hIT i hi).2.2.2.2.1
  have hH8 : ∀ j, j < nd → ∀ t, hd j = some t → t < 8 := fun j hj t h => by have := ((hID j hj).2.2.2 t h).1; omega
  have hmo3 : ∀ i, i < n → ∀ j, mo i = some j → j < nd := fun i hi j h => ((hIT i hi).2.2.2.2.2.1 j h).1
  have hfw : ∀ k, k < nj → fw k = if fin k then -1 else jt k := fun k hk => (hM5 k hk).1
  rcases kS_no h0 with ⟨ho, hK⟩ | ⟨t, ho, hc, hK⟩
  · refine lv_aload_n hx hb dX5_lose_0 rfl (lv_at hl 0 rfl) ?_
    refine lv_iload_n hx hb dX5_lose_1 rfl (lv_at hl 1 rfl) ?_
    refine zk_V_i (n := 1) (As := [.int (v0)]) (rest := []) hx hb hml hts hown hZ hP (c_X5_isTape l D cA _ hm0 (by omega) v0) gX5_lose_X5_isTape rfl rfl ⟨rfl, rfl⟩ ⟨by decide +kernel, Nat.le_of_ble_eq_true rfl, Nat.le_of_ble_eq_true rfl⟩ m0 rfl hl.1 rfl (Nat.le_of_ble_eq_true rfl) ⟨Nat.le_of_ble_eq_true rfl, Nat.le_of_ble_eq_true rfl⟩ rfl dX5_lose_2 (fun r_1 hr_2 => ?_)
    obtain rfl := show r_1 = _ from hr_2
    refine zx_val (y := bI (false)) (by rw [ho]; rfl) ?_
    refine lv_istore_n (lv' := [(2, .int (bI (false))), (0, .ref (gd 0)), (1, .int (v0))]) hx hb dX5_lose_5 rfl hl (by decide) rfl (fun ls hl => ?_)
    refine lv_aload_n hx hb dX5_lose_6 rfl (lv_at hl 1 rfl) ?_
    refine lv_iload_n hx hb dX5_lose_7 rfl (lv_at hl 0 rfl) ?_
    refine lv_iload_n hx hb dX5_lose_8 rfl (lv_at hl 0 rfl) ?_
    refine zb_eq (tgt := 35) hx hb dX5_lose_9 (by decide) (fun c_3 => ?_) (fun c_3 => Bool.noConfusion c_3)
    refine lv_iconst (v := nI (0)) hx hb dX5_lose_35 (by decide) ?_
    refine zw_V_i (n := 2) (mc := 0) (ms := 0) (As := [.int (bI (false)), .int (bI (false))]) (rest := []) (w1 := fun u : Unit => ws.set 0 (gd 0, zMod gd n nd nj my 1)) hx hb hml hts hown hZ hP hD hS hA (c_X5_mayBoth l D cA _ _ gd n nd nj my th false false (m0)) gX5_lose_X5_mayBoth rfl rfl ⟨rfl, rfl⟩ ⟨by decide +kernel, Nat.le_of_ble_eq_true rfl, Nat.le_of_ble_eq_true rfl⟩ m0 rfl hl.1 rfl (Nat.le_of_ble_eq_true rfl) ⟨Nat.le_of_ble_eq_true rfl, Nat.le_of_ble_eq_true rfl⟩ rfl dX5_lose_36 (fun r_4 u_6 H locs hr_5 hP hD hS hz_6 => ?_)
    obtain rfl := show r_4 = _ from hr_5
    have hP : va_P D vwCl (ws.set 0 (gd 0, zMod gd n nd nj my 1)) H := hP
    have hD : va_D A (ws.set 0 (gd 0, zMod gd n nd nj my 1)) := hD
    refine zb_ne (tgt := 44) hx hb dX5_lose_39 (by decide) (fun c_7 => Bool.noConfusion c_7) (fun c_7 => ?_)
    refine lv_iconst (v := nI (0)) hx hb dX5_lose_42 (by decide) ?_
    exact zr_qi (S := va_W) (w1 := fun u => u) (ws.set 0 (gd 0, zMod gd n nd nj my 1)) hx hb hr hlocks (⟨(mKeep_set mKeep_rf (by decide)), (by rw [hK]; exact (mL_0 hm0 n nd nj my 1))⟩) hP hD hS (rfl) dX5_lose_43
  · obtain ⟨htn, rfl⟩ := ix_some ho
    (try dsimp only at hc)
    have hl : lv_has ls 3 [(0, .ref (gd 0)), (1, .int (nI (t)))] := hl
    rcases hmt : mo t with _ | j9
    · rw [hmt] at hc
      have hla : la t = false := hc
      refine lv_aload_n hx hb dX5_lose_0 rfl (lv_at hl 0 rfl) ?_
      refine lv_iload_n hx hb dX5_lose_1 rfl (lv_at hl 1 rfl) ?_
      refine zk_V_i (n := 1) (As := [.int (nI (t))]) (rest := []) hx hb hml hts hown hZ hP (c_X5_isTape l D cA _ hm0 (by omega) (nI (t))) gX5_lose_X5_isTape rfl rfl ⟨rfl, rfl⟩ ⟨by decide +kernel, Nat.le_of_ble_eq_true rfl, Nat.le_of_ble_eq_true rfl⟩ m0 rfl hl.1 rfl (Nat.le_of_ble_eq_true rfl) ⟨Nat.le_of_ble_eq_true rfl, Nat.le_of_ble_eq_true rfl⟩ rfl dX5_lose_2 (fun r_8 hr_9 => ?_)
      obtain rfl := show r_8 = _ from hr_9
      refine zx_val (y := bI (true)) (by rw [ix_in (by omega) htn]; rfl) ?_
      refine lv_istore_n (lv' := [(2, .int (bI (true))), (0, .ref (gd 0)), (1, .int (nI (t)))]) hx hb dX5_lose_5 rfl hl (by decide) rfl (fun ls hl => ?_)
      refine lv_aload_n hx hb dX5_lose_6 rfl (lv_at hl 1 rfl) ?_
      refine lv_iload_n hx hb dX5_lose_7 rfl (lv_at hl 0 rfl) ?_
      refine lv_iload_n hx hb dX5_lose_8 rfl (lv_at hl 0 rfl) ?_
      refine zb_eq (tgt := 35) hx hb dX5_lose_9 (by decide) (fun c_10 => Bool.noConfusion c_10) (fun c_10 => ?_)
      refine lv_aload_n hx hb dX5_lose_12 rfl (lv_at hl 1 rfl) ?_
      refine va_get (D := D) (ci := 5) (v := .ref (gd 4)) (C := RX5) (T := TX5) (N := 26) hx hb hts iX5 hown hZ.1 hP 0 m0 rfl 4 (by decide) (hts (.fieldLink RX5 19 "TapeRoboticsModel" "mounted" "[I") (by decide +kernel)) (fun _ h9 => h9) rfl dX5_lose_13 ?_
      refine lv_iload_n hx hb dX5_lose_16 rfl (lv_at hl 2 rfl) ?_
      refine va_iald hx hb hZ.1 hP 4 0 m4 rfl (vp_in_nI (show t < 8 by omega) (by omega)) dX5_lose_17 ?_
      rw [nI_clamp (show t < 2 ^ 31 by omega)]
      refine zx_val (y := (-1)) (by rw [hmt]; rfl) ?_
      refine lv_iconst (v := (-1)) hx hb dX5_lose_18 (by decide) ?_
      refine lv_icmp_ne (tgt := 35) hx hb dX5_lose_19 (by decide) (fun c_11 => absurd rfl c_11) (fun c_11 => ?_)
      refine lv_aload_n hx hb dX5_lose_22 rfl (lv_at hl 1 rfl) ?_
      refine va_get (D := D) (ci := 5) (v := .ref (gd 5)) (C := RX5) (T := TX5) (N := 26) hx hb hts iX5 hown hZ.1 hP 0 m0 rfl 5 (by decide) (hts (.fieldLink RX5 22 "TapeRoboticsModel" "lost" "[Z") (by decide +kernel)) (fun _ h9 => h9) rfl dX5_lose_23 ?_
      refine lv_iload_n hx hb dX5_lose_26 rfl (lv_at hl 2 rfl) ?_
      refine va_zald hx hb hZ.1 hP 5 3 m5 rfl (vp_in_nI (show t < 8 by omega) (by omega)) dX5_lose_27 ?_
      rw [nI_clamp (show t < 2 ^ 31 by omega)]
      refine zx_val (y := bI (true)) (by rw [hla]; rfl) ?_
      refine zb_ne (tgt := 35) hx hb dX5_lose_28 (by decide) (fun c_12 => ?_) (fun c_12 => Bool.noConfusion c_12)
      refine lv_iconst (v := nI (0)) hx hb dX5_lose_35 (by decide) ?_
      refine zw_V_i (n := 2) (mc := 0) (ms := 0) (As := [.int (bI (true)), .int (bI (false))]) (rest := []) (w1 := fun u : Unit => ws.set 0 (gd 0, zMod gd n nd nj my 2)) hx hb hml hts hown hZ hP hD hS hA (c_X5_mayBoth l D cA _ _ gd n nd nj my th true false (m0)) gX5_lose_X5_mayBoth rfl rfl ⟨rfl, rfl⟩ ⟨by decide +kernel, Nat.le_of_ble_eq_true rfl, Nat.le_of_ble_eq_true rfl⟩ m0 rfl hl.1 rfl (Nat.le_of_ble_eq_true rfl) ⟨Nat.le_of_ble_eq_true rfl, Nat.le_of_ble_eq_true rfl⟩ rfl dX5_lose_36 (fun r_13 u_15 H locs hr_14 hP hD hS hz_15 => ?_)
      obtain rfl := show r_13 = _ from hr_14
      have hP : va_P D vwCl (ws.set 0 (gd 0, zMod gd n nd nj my 2)) H := hP
      have hD : va_D A (ws.set 0 (gd 0, zMod gd n nd nj my 2)) := hD
      refine zb_ne (tgt := 44) hx hb dX5_lose_39 (by decide) (fun c_16 => Bool.noConfusion c_16) (fun c_16 => ?_)
      refine lv_iconst (v := nI (0)) hx hb dX5_lose_42 (by decide) ?_
      exact zr_qi (S := va_W) (w1 := fun u => u) (ws.set 0 (gd 0, zMod gd n nd nj my 2)) hx hb hr hlocks (⟨(mKeep_set mKeep_rf (by decide)), (by rw [hK]; exact (mL_0 hm0 n nd nj my 2))⟩) hP hD hS (rfl) dX5_lose_43
    · have hj9 := hmo3 t htn j9 hmt
      refine lv_aload_n hx hb dX5_lose_0 rfl (lv_at hl 0 rfl) ?_
      refine lv_iload_n hx hb dX5_lose_1 rfl (lv_at hl 1 rfl) ?_
      refine zk_V_i (n := 1) (As := [.int (nI (t))]) (rest := []) hx hb hml hts hown hZ hP (c_X5_isTape l D cA _ hm0 (by omega) (nI (t))) gX5_lose_X5_isTape rfl rfl ⟨rfl, rfl⟩ ⟨by decide +kernel, Nat.le_of_ble_eq_true rfl, Nat.le_of_ble_eq_true rfl⟩ m0 rfl hl.1 rfl (Nat.le_of_ble_eq_true rfl) ⟨Nat.le_of_ble_eq_true rfl, Nat.le_of_ble_eq_true rfl⟩ rfl dX5_lose_2 (fun r_17 hr_18 => ?_)
      obtain rfl := show r_17 = _ from hr_18
      refine zx_val (y := bI (true)) (by rw [ix_in (by omega) htn]; rfl) ?_
      refine lv_istore_n (lv' := [(2, .int (bI (true))), (0, .ref (gd 0)), (1, .int (nI (t)))]) hx hb dX5_lose_5 rfl hl (by decide) rfl (fun ls hl => ?_)
      refine lv_aload_n hx hb dX5_lose_6 rfl (lv_at hl 1 rfl) ?_
      refine lv_iload_n hx hb dX5_lose_7 rfl (lv_at hl 0 rfl) ?_
      refine lv_iload_n hx hb dX5_lose_8 rfl (lv_at hl 0 rfl) ?_
      refine zb_eq (tgt := 35) hx hb dX5_lose_9 (by decide) (fun c_19 => Bool.noConfusion c_19) (fun c_19 => ?_)
      refine lv_aload_n hx hb dX5_lose_12 rfl (lv_at hl 1 rfl) ?_
      refine va_get (D := D) (ci := 5) (v := .ref (gd 4)) (C := RX5) (T := TX5) (N := 26) hx hb hts iX5 hown hZ.1 hP 0 m0 rfl 4 (by decide) (hts (.fieldLink RX5 19 "TapeRoboticsModel" "mounted" "[I") (by decide +kernel)) (fun _ h9 => h9) rfl dX5_lose_13 ?_
      refine lv_iload_n hx hb dX5_lose_16 rfl (lv_at hl 2 rfl) ?_
      refine va_iald hx hb hZ.1 hP 4 0 m4 rfl (vp_in_nI (show t < 8 by omega) (by omega)) dX5_lose_17 ?_
      rw [nI_clamp (show t < 2 ^ 31 by omega)]
      refine zx_val (y := nI (j9)) (by rw [hmt]; rfl) ?_
      refine lv_iconst (v := (-1)) hx hb dX5_lose_18 (by decide) ?_
      refine lv_icmp_ne (tgt := 35) hx hb dX5_lose_19 (by decide) (fun c_20 => ?_) (fun c_20 => absurd c_20 (nI_nm1 (by omega)))
      refine lv_iconst (v := nI (0)) hx hb dX5_lose_35 (by decide) ?_
      refine zw_V_i (n := 2) (mc := 0) (ms := 0) (As := [.int (bI (true)), .int (bI (false))]) (rest := []) (w1 := fun u : Unit => ws.set 0 (gd 0, zMod gd n nd nj my 2)) hx hb hml hts hown hZ hP hD hS hA (c_X5_mayBoth l D cA _ _ gd n nd nj my th true false (m0)) gX5_lose_X5_mayBoth rfl rfl ⟨rfl, rfl⟩ ⟨by decide +kernel, Nat.le_of_ble_eq_true rfl, Nat.le_of_ble_eq_true rfl⟩ m0 rfl hl.1 rfl (Nat.le_of_ble_eq_true rfl) ⟨Nat.le_of_ble_eq_true rfl, Nat.le_of_ble_eq_true rfl⟩ rfl dX5_lose_36 (fun r_21 u_23 H locs hr_22 hP hD hS hz_23 => ?_)
      obtain rfl := show r_21 = _ from hr_22
      have hP : va_P D vwCl (ws.set 0 (gd 0, zMod gd n nd nj my 2)) H := hP
      have hD : va_D A (ws.set 0 (gd 0, zMod gd n nd nj my 2)) := hD
      refine zb_ne (tgt := 44) hx hb dX5_lose_39 (by decide) (fun c_24 => Bool.noConfusion c_24) (fun c_24 => ?_)
      refine lv_iconst (v := nI (0)) hx hb dX5_lose_42 (by decide) ?_
      exact zr_qi (S := va_W) (w1 := fun u => u) (ws.set 0 (gd 0, zMod gd n nd nj my 2)) hx hb hr hlocks (⟨(mKeep_set mKeep_rf (by decide)), (by rw [hK]; exact (mL_0 hm0 n nd nj my 2))⟩) hP hD hS (rfl) dX5_lose_43

