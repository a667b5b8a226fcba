theorem lcmp_gt {a b : Nat} (ha : a < 2 ^ 31) (hb : b < 2 ^ 31) : 0 < lg_cmp (lN a) (lN b) ↔ b < a := by
  unfold lg_cmp
  by_cases h : lN b < lN a
  · rw [if_pos h]; exact ⟨fun _ => (lN_lt hb ha).mp h, fun _ => by decide⟩
  · rw [if_neg h]
    have h2 : ¬ b < a := fun q => h ((lN_lt hb ha).mpr q)
    refine ⟨fun q => ?_, fun q => absurd q h2⟩
    split at q
    · exact absurd q (by decide)
    · exact absurd q (by decide)
set_option maxHeartbeats 4000000 in
set_option maxRecDepth 100000 in
theorem c_X5_write_ok (l : Launch) (D : va_G) (cA : Nat → ClassId) (sz : Nat) (ws : va_W) {gd : Nat → Nat} {n : Nat} {tr : Nat → Nat} {le : Nat → Nat} {sl : Nat → Nat} {mo : Nat → Option Nat} {la : Nat → Bool} {fc : Nat → Nat} {sf : Nat → Int32} {bf : Nat → Int32} {nd : Nat} {mk : Nat → Nat} {ck : Nat → Int32} {ct : Nat → Nat} {hd : Nat → Option Nat} {pf : Nat → Int32} {nj : Nat} {jt : Nat → Int32} {jf : Nat → Nat} {dl : Nat → Nat} {fin : Nat → Bool} {my : Nat} {fls : Nat → Int32} {fod : Nat → Int32} {fle : Nat → Int32} {fro : Nat → Int32} {th : Nat} {bo : Nat → Nat → Nat} {pq : Nat → Int32} {fw : Nat → Int32} {dn : Nat} (hm : mL cA ws gd n tr le sl mo la fc sf bf nd mk ck ct hd pf nj jt jf dl fin my fls fod fle fro th) (hI : zI n tr le sl mo fc bo nd mk ct hd pq nj fw jf dl) (hM : mI n la fc bo nd ck ct hd pq pf nj fw jt fin sf bf dn) (j t P : Nat) (hjn : j < nd) (hht : hd j = some t) (hpq : pq j = nI P) (hP9 : P ≤ tr t * le t) (b : Nat) (hb9 : 1 ≤ b ∧ b ≤ 100) (hct : ct j < 12) (hfc9 : fc t < 10) (hfit : bo t (fc t) + b ≤ tr t * le t) : Met l yX5_write wsX5_write ({ frames := 4, cells := 0, slots := 0, locals := 98 }) (va_Pc [.ref (gd 0), .int (nI (j)), .int (nI (b))] (zM D cA (ws) sz)) (va_Qi (fun (r : Int32) (u : va_W) => r = nI (wayT (zpa (mk j)) (zsp (mk j)) (tr t) (le t) P (bo t (fc t)) + 3 * b) ∧ mKeep ws u ∧ mL cA u gd n tr le sl mo la (va_up fc t (fc t + 1)) (va_up sf (10 * t + fc t) (nI (bo t (fc t)))) (va_up bf (10 * t + fc t) (nI b)) nd mk (va_up ck j (ck j + nI (wayT (zpa (mk j)) (zsp (mk j)) (tr t) (le t) P (bo t (fc t)) + 3 * b))) (va_up ct j (ct j + 1)) hd (va_up pf j (nI (bo t (fc t) + b))) nj jt jf dl fin my fls fod fle fro 0) (fun u => zB D (va_A (ws) sz) (u)) (va_A (ws) sz)) 0 0 (va_A (ws) sz) := by
  refine zOpen (cc := cX5_write) (maxL := 7) (ret := (some .int)) (own := RX5) (by decide) rfl rfl (Nat.le_of_ble_eq_true rfl) ?_
  intro p e s m below meth c ls hx hb hr hml hts hown hlocks hnm ⟨hZ, hP, hD0, hsz⟩ hl
  subst hsz
  have hD := hD0.self (sz := s.heap.size)
  generalize hAe : va_A (ws) s.heap.size = A at hD ⊢
  have hA : ∀ q : Nat, s.heap.size ≤ q → A q := fun q h => by rw [← hAe]; exact Or.inr h
  have hS : va_S A s.heap s.heap [] := va_S.rf
  have iX5 : ∀ w ∈ wsX50, w ∈ wsX5_write := by decide +kernel
  have hl : lv_has ls 7 [(0, .ref (gd 0)), (1, .int (nI (j))), (2, .int (nI (b)))] := hl
  have hm0 := hm
  have hI0 := hI
  have hM0 := hM
  obtain ⟨hn8, hd3, hj60, hIT, hID, hIJ, hIdl, hIw⟩ := hI
  obtain ⟨hM1, hM2, hM3, hM4, hM5, hM6, hM7⟩ := hM
  obtain ⟨m0, m1, m2, m3, m4, m5, m6, m7, m8, m9, m10, m11, m12, m13, m14, m15, m16, m17, m18, m19, m20, m21⟩ := hm
  have hfc10 : ∀ i, i < n → fc i ≤ 10 := fun i hi => (hIT i hi).2.2.2.2.2.2.1
  have hsl12 : ∀ i, i < n → sl i < 12 := fun i hi => (hIT i hi).2.2.2.2.1
  have hH8 : ∀ j, j < nd → ∀ t, hd j = some t → t < 8 := fun j hj t h => by have := ((hID j hj).2.2.2 t h).1; omega
  have hmo3 : ∀ i, i < n → ∀ j, mo i = some j → j < nd := fun i hi j h => ((hIT i hi).2.2.2.2.2.1 j h).1
  have hfw : ∀ k, k < nj → fw k = if fin k then -1 else jt k := fun k hk => (hM5 k hk).1
  obtain ⟨hmk, hct11, -, hps⟩ := hID j hjn
  obtain ⟨htn, hmoj, -⟩ := hps t hht
  have hpf : pf j = nI P := (hM4 j t hjn hht).trans hpq
  obtain ⟨htr1, htr8, hle4, hle200, -, -, -, hbo0, hbinc, hbtop⟩ := hIT t htn
  have htr : 1 ≤ tr t ∧ tr t ≤ 8 := ⟨htr1, htr8⟩
  have hle : 4 ≤ le t ∧ le t ≤ 200 := ⟨hle4, hle200⟩
  have hmul : tr t * le t ≤ 8 * 200 := Nat.mul_le_mul htr8 hle200
  refine lv_aload_n hx hb dX5_write_0 rfl (lv_at hl 0 rfl) ?_
  refine lv_iload_n hx hb dX5_write_1 rfl (lv_at hl 1 rfl) ?_
  refine zk_V_i (n := 1) (As := [.int (nI (j))]) (rest := []) hx hb hml hts hown hZ hP (c_X5_hasTape l D cA _ hm0 hd3 hH8 (nI (j))) gX5_write_X5_hasTape rfl rfl ⟨rfl, rfl⟩ ⟨by decide +kernel, Nat.le_of_ble_eq_true rfl, Nat.le_of_ble_eq_true rfl⟩ m0 rfl hl.1 rfl (Nat.le_of_ble_eq_true rfl) ⟨Nat.le_of_ble_eq_true rfl, Nat.le_of_ble_eq_true rfl⟩ rfl dX5_write_2 (fun r_1 hr_2 => ?_)
  obtain rfl := show r_1 = _ from hr_2
  refine zx_val (y := bI (true)) (by rw [ix_in (by omega) hjn]; show bI (hd j).isSome = _; rw [hht]; rfl) ?_
  refine lv_istore_n (lv' := [(3, .int (bI (true))), (0, .ref (gd 0)), (1, .int (nI (j))), (2, .int (nI (b)))]) hx hb dX5_write_5 rfl hl (by decide) rfl (fun ls hl => ?_)
  refine lv_iload_n hx hb dX5_write_6 rfl (lv_at hl 0 rfl) ?_
  refine zb_eq (tgt := 19) hx hb dX5_write_7 (by decide) (fun c_3 => Bool.noConfusion c_3) (fun c_3 => ?_)
  refine lv_aload_n hx hb dX5_write_10 rfl (lv_at hl 1 rfl) ?_
  refine va_get (D := D) (ci := 5) (v := .ref (gd 12)) (C := RX5) (T := TX5) (N := 26) hx hb hts iX5 hown hZ.1 hP 0 m0 rfl 13 (by decide) (hts (.fieldLink RX5 44 "TapeRoboticsModel" "held" "[I") (by decide +kernel)) (fun _ h9 => h9) rfl dX5_write_11 ?_
  refine lv_iload_n hx hb dX5_write_14 rfl (lv_at hl 2 rfl) ?_
  refine va_iald hx hb hZ.1 hP 12 0 m12 rfl (vp_in_nI (show j < 3 by omega) (by omega)) dX5_write_15 ?_
  rw [nI_clamp (show j < 2 ^ 31 by omega)]
  refine zx_val (y := nI (t)) (by rw [hht]; rfl) ?_
  refine lv_goto (tgt := 20) hx hb dX5_write_16 (by decide) ?_
  refine lv_istore (lv' := [(4, .int (nI (t))), (3, .int (bI (true))), (0, .ref (gd 0)), (1, .int (nI (j))), (2, .int (nI (b)))]) hx hb dX5_write_20 hl (by decide) rfl (fun ls hl => ?_)
  refine lv_iload_n hx hb dX5_write_22 rfl (lv_at hl 1 rfl) ?_
  refine zb_eq (tgt := 80) hx hb dX5_write_23 (by decide) (fun c_4 => Bool.noConfusion c_4) (fun c_4 => ?_)
  refine lv_aload_n hx hb dX5_write_26 rfl (lv_at hl 2 rfl) ?_
  refine lv_iload_n hx hb dX5_write_27 rfl (lv_at hl 3 rfl) ?_
  refine zk_V_i (n := 1) (As := [.int (nI (j))]) (rest := []) hx hb hml hts hown hZ hP (c_X5_isClean l D cA _ hm0 j (by omega) (by first | omega | (dsimp only; omega))) gX5_write_X5_isClean rfl rfl ⟨rfl, rfl⟩ ⟨by decide +kernel, Nat.le_of_ble_eq_true rfl, Nat.le_of_ble_eq_true rfl⟩ m0 rfl hl.1 rfl (Nat.le_of_ble_eq_true rfl) ⟨Nat.le_of_ble_eq_true rfl, Nat.le_of_ble_eq_true rfl⟩ rfl dX5_write_28 (fun r_5 hr_6 => ?_)
  obtain rfl := show r_5 = _ from hr_6
  refine zx_val (y := bI (true)) (by rw [decide_eq_true hct]) ?_
  refine zb_eq (tgt := 80) hx hb dX5_write_31 (by decide) (fun c_7 => Bool.noConfusion c_7) (fun c_7 => ?_)
  refine lv_aload_n hx hb dX5_write_34 rfl (lv_at hl 2 rfl) ?_
  refine va_get (D := D) (ci := 5) (v := .ref (gd 6)) (C := RX5) (T := TX5) (N := 26) hx hb hts iX5 hown hZ.1 hP 0 m0 rfl 6 (by decide) (hts (.fieldLink RX5 26 "TapeRoboticsModel" "files" "[I") (by decide +kernel)) (fun _ h9 => h9) rfl dX5_write_35 ?_
  refine lv_iload hx hb dX5_write_38 (lv_at hl 0 rfl) ?_
  refine va_iald hx hb hZ.1 hP 6 0 m6 rfl (vp_in_nI (show t < 8 by omega) (by omega)) dX5_write_40 ?_
  rw [nI_clamp (show t < 2 ^ 31 by omega)]
  refine lv_bipush (v := nI (10)) hx hb dX5_write_41 (by decide) ?_
  refine zc_ge (tgt := 80) hx hb (by omega) (by omega) dX5_write_43 (by decide) (fun c_8 => False.elim (by omega)) (fun c_8 => ?_)
  refine lv_aload_n hx hb dX5_write_46 rfl (lv_at hl 2 rfl) ?_
  refine lv_iload hx hb dX5_write_47 (lv_at hl 0 rfl) ?_
  refine zk_V_i (n := 1) (As := [.int (nI (t))]) (rest := []) hx hb hml hts hown hZ hP (c_X5_behind l D cA _ hm0 t (by omega) (hfc10 _ htn) bo (hIT _ htn).2.2.2.2.2.2.2.1 (hIT _ htn).2.2.2.2.2.2.2.2.1 (fun f hf => hM3 _ f htn hf)) gX5_write_X5_behind rfl rfl ⟨rfl, rfl⟩ ⟨by decide +kernel, Nat.le_of_ble_eq_true rfl, Nat.le_of_ble_eq_true rfl⟩ m0 rfl hl.1 rfl (Nat.le_of_ble_eq_true rfl) ⟨Nat.le_of_ble_eq_true rfl, Nat.le_of_ble_eq_true rfl⟩ rfl dX5_write_49 (fun r_9 hr_10 => ?_)
  obtain rfl := show r_9 = _ from hr_10
  refine lv_i2l (v := lN (bo t (fc t))) hx hb dX5_write_52 (nI_l (by omega)) ?_
  refine lv_iload_n hx hb dX5_write_53 rfl (lv_at hl 4 rfl) ?_
  refine lv_i2l (v := lN (b)) hx hb dX5_write_54 (nI_l (by omega)) ?_
  refine lv_ladd hx hb dX5_write_55 ?_
  refine zx_v (b := .long (lN ((bo t (fc t)) + (b)))) (by rw [lN_add]) ?_
  refine lv_aload_n hx hb dX5_write_56 rfl (lv_at hl 2 rfl) ?_
  refine va_get (D := D) (ci := 5) (v := .ref (gd 1)) (C := RX5) (T := TX5) (N := 26) hx hb hts iX5 hown hZ.1 hP 0 m0 rfl 1 (by decide) (hts (.fieldLink RX5 7 "TapeRoboticsModel" "tracks" "[I") (by decide +kernel)) (fun _ h9 => h9) rfl dX5_write_57 ?_
  refine lv_iload hx hb dX5_write_60 (lv_at hl 0 rfl) ?_
  refine va_iald hx hb hZ.1 hP 1 0 m1 rfl (vp_in_nI (show t < 8 by omega) (by omega)) dX5_write_62 ?_
  rw [nI_clamp (show t < 2 ^ 31 by omega)]
  refine lv_aload_n hx hb dX5_write_63 rfl (lv_at hl 2 rfl) ?_
  refine va_get (D := D) (ci := 5) (v := .ref (gd 2)) (C := RX5) (T := TX5) (N := 26) hx hb hts iX5 hown hZ.1 hP 0 m0 rfl 2 (by decide) (hts (.fieldLink RX5 13 "TapeRoboticsModel" "length" "[I") (by decide +kernel)) (fun _ h9 => h9) rfl dX5_write_64 ?_
  refine lv_iload hx hb dX5_write_67 (lv_at hl 0 rfl) ?_
  refine va_iald hx hb hZ.1 hP 2 0 m2 rfl (vp_in_nI (show t < 8 by omega) (by omega)) dX5_write_69 ?_
  rw [nI_clamp (show t < 2 ^ 31 by omega)]
  refine zo_mul hx hb dX5_write_70 ?_
  refine lv_i2l (v := lN ((tr t) * (le t))) hx hb dX5_write_71 (nI_l (by omega)) ?_
  refine W.lcmp hx hb dX5_write_72 ?_
  refine lv_if_gt (tgt := 80) hx hb dX5_write_73 (by decide) (fun c_11 => absurd ((lcmp_gt (by omega) (by omega)).mp c_11) (by omega)) (fun c_11 => ?_)
  refine lv_iconst (v := nI (1)) hx hb dX5_write_76 (by decide) ?_
  refine lv_goto (tgt := 81) hx hb dX5_write_77 (by decide) ?_
  refine lv_istore (lv' := [(5, .int (nI (1))), (4, .int (nI (t))), (3, .int (bI (true))), (0, .ref (gd 0)), (1, .int (nI (j))), (2, .int (nI (b)))]) hx hb dX5_write_81 hl (by decide) rfl (fun ls hl => ?_)
  refine lv_aload_n hx hb dX5_write_83 rfl (lv_at hl 3 rfl) ?_
  refine lv_aload_n hx hb dX5_write_84 rfl (lv_at hl 3 rfl) ?_
  refine lv_iload_n hx hb dX5_write_85 rfl (lv_at hl 4 rfl) ?_
  refine zk_V_i (n := 1) (As := [.int (nI (j))]) (rest := [.ref (gd 0)]) hx hb hml hts hown hZ hP (c_X5_isDrive l D cA _ hm0 (by omega) (nI (j))) gX5_write_X5_isDrive rfl rfl ⟨rfl, rfl⟩ ⟨by decide +kernel, Nat.le_of_ble_eq_true rfl, Nat.le_of_ble_eq_true rfl⟩ m0 rfl hl.1 rfl (Nat.le_of_ble_eq_true rfl) ⟨Nat.le_of_ble_eq_true rfl, Nat.le_of_ble_eq_true rfl⟩ rfl dX5_write_86 (fun r_12 hr_13 => ?_)
  obtain rfl := show r_12 = _ from hr_13
  refine zx_val (y := bI (true)) (by rw [ix_in (by omega) hjn]; rfl) ?_
  refine lv_iload_n hx hb dX5_write_89 rfl (lv_at hl 5 rfl) ?_
  refine lv_iconst (v := nI (1)) hx hb dX5_write_90 (by decide) ?_
  refine lv_bipush (v := nI (100)) hx hb dX5_write_91 (by decide) ?_
  refine zk_S_i (n := 3) (As := [.int (nI (b)), .int (nI (1)), .int (nI (100))]) (rest := [.int (bI (true)), .ref (gd 0)]) hx hb hml hts hown hZ hP (c_X5_isIn l D cA _ (nI (b)) (nI (1)) (nI (100))) gX5_write_X5_isIn rfl ⟨rfl, rfl⟩ ⟨by decide +kernel, Nat.le_of_ble_eq_true rfl, Nat.le_of_ble_eq_true rfl⟩ hl.1 rfl (Nat.le_of_ble_eq_true rfl) ⟨Nat.le_of_ble_eq_true rfl, Nat.le_of_ble_eq_true rfl⟩ rfl dX5_write_93 (fun r_14 hr_15 => ?_)
  obtain rfl := show r_14 = _ from hr_15
  refine zx_val (y := bI (true)) (by rw [show (decide (nI (1) ≤ nI (b)) && decide (nI (b) ≤ nI (100))) = _ from isin_rg (by omega) (by omega)]; rw [rg_in (by omega) hb9.1 hb9.2]; rfl) ?_
  refine lv_iload hx hb dX5_write_96 (lv_at hl 0 rfl) ?_
  refine zw_V_i (n := 3) (mc := 0) (ms := 0) (As := [.int (bI (true)), .int (bI (true)), .int (bI (true))]) (rest := []) (w1 := fun u : Unit => ws.set 0 (gd 0, zMod gd n nd nj my 0)) hx hb hml hts hown hZ hP hD hS hA (c_X5_mayAll l D cA _ _ gd n nd nj my th true true true (m0)) gX5_write_X5_mayAll rfl rfl ⟨rfl, rfl⟩ ⟨by decide +kernel, Nat.le_of_ble_eq_true rfl, Nat.le_of_ble_eq_true rfl⟩ m0 rfl hl.1 rfl (Nat.le_of_ble_eq_true rfl) ⟨Nat.le_of_ble_eq_true rfl, Nat.le_of_ble_eq_true rfl⟩ rfl dX5_write_98 (fun r_16 u_18 H locs hr_17 hP hD hS hz_18 => ?_)
  obtain rfl := show r_16 = _ from hr_17
  have hP : va_P D vwCl (ws.set 0 (gd 0, zMod gd n nd nj my 0)) H := hP
  have hD : va_D A (ws.set 0 (gd 0, zMod gd n nd nj my 0)) := hD
  refine zb_ne (tgt := 106) hx hb dX5_write_101 (by decide) (fun c_19 => ?_) (fun c_19 => Bool.noConfusion c_19)
  refine lv_aload_n hx hb dX5_write_106 rfl (lv_at hl 3 rfl) ?_
  refine lv_iload hx hb dX5_write_107 (lv_at hl 1 rfl) ?_
  refine zk_V_i (n := 1) (As := [.int (nI (t))]) (rest := []) hx hb hml hts hown hZ hP (c_X5_behind l D cA _ ((mL_0 hm0 n nd nj my 0)) t (by omega) (hfc10 _ htn) bo (hIT _ htn).2.2.2.2.2.2.2.1 (hIT _ htn).2.2.2.2.2.2.2.2.1 (fun f hf => hM3 _ f htn hf)) gX5_write_X5_behind rfl rfl ⟨rfl, rfl⟩ ⟨by decide +kernel, Nat.le_of_ble_eq_true rfl, Nat.le_of_ble_eq_true rfl⟩ (zset_s m0) rfl hl.1 rfl (Nat.le_of_ble_eq_true rfl) ⟨Nat.le_of_ble_eq_true rfl, Nat.le_of_ble_eq_true rfl⟩ rfl dX5_write_109 (fun r_20 hr_21 => ?_)
  obtain rfl := show r_20 = _ from hr_21
  refine lv_istore (lv' := [(6, .int (nI (bo t (fc t)))), (5, .int (nI (1))), (4, .int (nI (t))), (3, .int (bI (true))), (0, .ref (gd 0)), (1, .int (nI (j))), (2, .int (nI (b)))]) hx hb dX5_write_112 hl (by decide) rfl (fun ls hl => ?_)
  refine lv_aload_n hx hb dX5_write_114 rfl (lv_at hl 4 rfl) ?_
  refine va_get (D := D) (ci := 5) (v := .ref (gd 7)) (C := RX5) (T := TX5) (N := 26) hx hb hts iX5 hown hZ.1 hP 0 (zset_s m0) rfl 7 (by decide) (hts (.fieldLink RX5 29 "TapeRoboticsModel" "start" "[I") (by decide +kernel)) (fun _ h9 => h9) rfl dX5_write_115 ?_
  refine lv_bipush (v := nI (10)) hx hb dX5_write_118 (by decide) ?_
  refine lv_iload hx hb dX5_write_120 (lv_at hl 2 rfl) ?_
  refine zo_mul hx hb dX5_write_122 ?_
  refine lv_aload_n hx hb dX5_write_123 rfl (lv_at hl 4 rfl) ?_
  refine va_get (D := D) (ci := 5) (v := .ref (gd 6)) (C := RX5) (T := TX5) (N := 26) hx hb hts iX5 hown hZ.1 hP 0 (zset_s m0) rfl 6 (by decide) (hts (.fieldLink RX5 26 "TapeRoboticsModel" "files" "[I") (by decide +kernel)) (fun _ h9 => h9) rfl dX5_write_124 ?_
  refine lv_iload hx hb dX5_write_127 (lv_at hl 2 rfl) ?_
  refine va_iald hx hb hZ.1 hP 6 0 (zset_n m6 (by decide)) rfl (vp_in_nI (show t < 8 by omega) (by omega)) dX5_write_129 ?_
  rw [nI_clamp (show t < 2 ^ 31 by omega)]
  refine zo_add hx hb dX5_write_130 ?_
  refine lv_iload hx hb dX5_write_131 (lv_at hl 0 rfl) ?_
  refine va_iast hx hb hZ.1 hP hD hS 7 0 (zset_n m7 (by decide)) rfl (vp_in_nI (show (10 * t) + (fc t) < 80 by omega) (by omega)) dX5_write_133 (fun H locs hP hD hS => ?_)
  rw [nI_clamp (show (10 * t) + (fc t) < 2 ^ 31 by omega)] at hP hD
  have hP : va_P D vwCl ((ws.set 0 (gd 0, zMod gd n nd nj my 0)).set 7 (gd 7, zInts cA 80 (va_up sf ((10 * t) + (fc t)) (nI (bo t (fc t)))))) H := hP
  have hD : va_D A ((ws.set 0 (gd 0, zMod gd n nd nj my 0)).set 7 (gd 7, zInts cA 80 (va_up sf ((10 * t) + (fc t)) (nI (bo t (fc t)))))) := hD
  refine lv_aload_n hx hb dX5_write_134 rfl (lv_at hl 4 rfl) ?_
  refine va_get (D := D) (ci := 5) (v := .ref (gd 8)) (C := RX5) (T := TX5) (N := 26) hx hb hts iX5 hown hZ.1 hP 0 (zset_n (zset_s m0) (by decide)) rfl 8 (by decide) (hts (.fieldLink RX5 32 "TapeRoboticsModel" "blocks" "[I") (by decide +kernel)) (fun _ h9 => h9) rfl dX5_write_135 ?_
  refine lv_bipush (v := nI (10)) hx hb dX5_write_138 (by decide) ?_
  refine lv_iload hx hb dX5_write_140 (lv_at hl 2 rfl) ?_
  refine zo_mul hx hb dX5_write_142 ?_
  refine lv_aload_n hx hb dX5_write_143 rfl (lv_at hl 4 rfl) ?_
  refine va_get (D := D) (ci := 5) (v := .ref (gd 6)) (C := RX5) (T := TX5) (N := 26) hx hb hts iX5 hown hZ.1 hP 0 (zset_n (zset_s m0) (by decide)) rfl 6 (by decide) (hts (.fieldLink RX5 26 "TapeRoboticsModel" "files" "[I") (by decide +kernel)) (fun _ h9 => h9) rfl dX5_write_144 ?_
  refine lv_iload hx hb dX5_write_147 (lv_at hl 2 rfl) ?_
  refine va_iald hx hb hZ.1 hP 6 0 (zset_n (zset_n m6 (by decide)) (by decide)) rfl (vp_in_nI (show t < 8 by omega) (by omega)) dX5_write_149 ?_
  rw [nI_clamp (show t < 2 ^ 31 by omega)]
  refine zo_add hx hb dX5_write_150 ?_
  refine lv_iload_n hx hb dX5_write_151 rfl (lv_at hl 6 rfl) ?_
  refine va_iast hx hb hZ.1 hP hD hS 8 0 (zset_n (zset_n m8 (by decide)) (by decide)) rfl (vp_in_nI (show (10 * t) + (fc t) < 80 by omega) (by omega)) dX5_write_152 (fun H locs hP hD hS => ?_)
  rw [nI_clamp (show (10 * t) + (fc t) < 2 ^ 31 by omega)] at hP hD
  have hP : va_P D vwCl (((ws.set 0 (gd 0, zMod gd n nd nj my 0)).set 7 (gd 7, zInts cA 80 (va_up sf ((10 * t) + (fc t)) (nI (bo t (fc t)))))).set 8 (gd 8, zInts cA 80 (va_up bf ((10 * t) + (fc t)) (nI (b))))) H := hP
  have hD : va_D A (((ws.set 0 (gd 0, zMod gd n nd nj my 0)).set 7 (gd 7, zInts cA 80 (va_up sf ((10 * t) + (fc t)) (nI (bo t (fc t)))))).set 8 (gd 8, zInts cA 80 (va_up bf ((10 * t) + (fc t)) (nI (b))))) := hD
  refine lv_aload_n hx hb dX5_write_153 rfl (lv_at hl 4 rfl) ?_
  refine va_get (D := D) (ci := 5) (v := .ref (gd 6)) (C := RX5) (T := TX5) (N := 26) hx hb hts iX5 hown hZ.1 hP 0 (zset_n (zset_n (zset_s m0) (by decide)) (by decide)) rfl 6 (by decide) (hts (.fieldLink RX5 26 "TapeRoboticsModel" "files" "[I") (by decide +kernel)) (fun _ h9 => h9) rfl dX5_write_154 ?_
  refine lv_iload hx hb dX5_write_157 (lv_at hl 2 rfl) ?_
  refine lv_dup2_11 hx hb dX5_write_159 rfl rfl ?_
  refine va_iald hx hb hZ.1 hP 6 0 (zset_n (zset_n (zset_n m6 (by decide)) (by decide)) (by decide)) rfl (vp_in_nI (show t < 8 by omega) (by omega)) dX5_write_160 ?_
  rw [nI_clamp (show t < 2 ^ 31 by omega)]
  refine lv_iconst (v := nI (1)) hx hb dX5_write_161 (by decide) ?_
  refine zo_add hx hb dX5_write_162 ?_
  refine va_iast hx hb hZ.1 hP hD hS 6 0 (zset_n (zset_n (zset_n m6 (by decide)) (by decide)) (by decide)) rfl (vp_in_nI (show t < 8 by omega) (by omega)) dX5_write_163 (fun H locs hP hD hS => ?_)
  rw [nI_clamp (show t < 2 ^ 31 by omega)] at hP hD
  rw [upd_nI] at hP hD
  have hP : va_P D vwCl ((((ws.set 0 (gd 0, zMod gd n nd nj my 0)).set 7 (gd 7, zInts cA 80 (va_up sf ((10 * t) + (fc t)) (nI (bo t (fc t)))))).set 8 (gd 8, zInts cA 80 (va_up bf ((10 * t) + (fc t)) (nI (b))))).set 6 (gd 6, zInts cA 8 (fun k => nI ((va_up fc t ((fc t) + 1)) k)))) H := hP
  have hD : va_D A ((((ws.set 0 (gd 0, zMod gd n nd nj my 0)).set 7 (gd 7, zInts cA 80 (va_up sf ((10 * t) + (fc t)) (nI (bo t (fc t)))))).set 8 (gd 8, zInts cA 80 (va_up bf ((10 * t) + (fc t)) (nI (b))))).set 6 (gd 6, zInts cA 8 (fun k => nI ((va_up fc t ((fc t) + 1)) k)))) := hD
  refine lv_aload_n hx hb dX5_write_164 rfl (lv_at hl 4 rfl) ?_
  refine lv_iload_n hx hb dX5_write_165 rfl (lv_at hl 5 rfl) ?_
  refine lv_iload hx hb dX5_write_166 (lv_at hl 0 rfl) ?_
  refine lv_iload_n hx hb dX5_write_168 rfl (lv_at hl 6 rfl) ?_
  refine zw_V_i (n := 3) (mc := 0) (ms := 0) (As := [.int (nI (j)), .int (nI (bo t (fc t))), .int (nI (b))]) (rest := []) (w1 := fun u : va_W => u) hx hb hml hts hown hZ hP hD hS hA (c_X5_run l D cA _ _ ((mL_6 (mL_8 (mL_7 (mL_0 hm0 n nd nj my 0) ((va_up sf ((10 * t) + (fc t)) (nI (bo t (fc t)))))) ((va_up bf ((10 * t) + (fc t)) (nI (b))))) ((va_up fc t ((fc t) + 1))))) j t P (bo t (fc t)) b (by omega) hht hmk hpf hP9 (by omega) (by omega) htr hle) gX5_write_X5_run rfl rfl ⟨rfl, rfl⟩ ⟨by decide +kernel, Nat.le_of_ble_eq_true rfl, Nat.le_of_ble_eq_true rfl⟩ (zset_n (zset_n (zset_n (zset_s m0) (by decide)) (by decide)) (by decide)) rfl hl.1 rfl (Nat.le_of_ble_eq_true rfl) ⟨Nat.le_of_ble_eq_true rfl, Nat.le_of_ble_eq_true rfl⟩ rfl dX5_write_169 (fun r_22 u_24 H locs hr_23 hP hD hS hz_24 => ?_)
  have hP : va_P D vwCl (u_24) H := hP
  have hD : va_D A (u_24) := hD
  obtain ⟨rfl, hkp_24, hm_24⟩ := hr_23
  obtain ⟨m0_24, m1_24, m2_24, m3_24, m4_24, m5_24, m6_24, m7_24, m8_24, m9_24, m10_24, m11_24, m12_24, m13_24, m14_24, m15_24, m16_24, m17_24, m18_24, m19_24, m20_24, m21_24⟩ := id hm_24
  have hP : va_P D vwCl (u_24) H := hP
  have hD : va_D A (u_24) := hD
  exact zr_qi (S := va_W) (w1 := fun u => u) u_24 hx hb hr hlocks (⟨rfl, (mKeep_tr (mKeep_set (mKeep_set (mKeep_set (mKeep_set mKeep_rf (by decide)) (by decide)) (by decide)) (by decide)) hkp_24), hm_24⟩) hP hD hS (rfl) dX5_write_172

set_option maxHeartbeats 4000000 in
set_option maxRecDepth 100000 in
theorem c_X5_write_no (l : Launch) (D : va_G) (cA : Nat → ClassId) (sz : Nat) (ws : va_W) {gd : Nat → Nat} {n : Nat} {tr : Nat → Nat} {le : Nat → Nat} {sl : Nat → Nat} {mo : Nat → Option Nat} {la : Nat → Bool} {fc : Nat → Nat} {sf : Nat → Int32} {bf : Nat → Int32} {nd : Nat} {mk : Nat → Nat} {ck : Nat → Int32} {ct : Nat → Nat} {hd : Nat → Option Nat} {pf : Nat → Int32} {nj : Nat} {jt : Nat → Int32} {jf : Nat → Nat} {dl : Nat → Nat} {fin : Nat → Bool} {my : Nat} {fls : Nat → Int32} {fod : Nat → Int32} {fle : Nat → Int32} {fro : Nat → Int32} {th : Nat} {bo : Nat → Nat → Nat} {pq : Nat → Int32} {fw : Nat → Int32} {dn : Nat} (hm : mL cA ws gd n tr le sl mo la fc sf bf nd mk ck ct hd pf nj jt jf dl fin my fls fod fle fro th) (hI : zI n tr le sl mo fc bo nd mk ct hd pq nj fw jf dl) (hM : mI n la fc bo nd ck ct hd pq pf nj fw jt fin sf bf dn) (v0 : Int32) (v1 : Int32) (h0 : (k3 (ix v0 nd) (rg v1 1 100) (fun j b => match hd j with | none => false | some t => decide (ct j < 12) && decide (fc t < 10 ∧ bo t (fc t) + b ≤ tr t * le t))) ≠ 0) : Met l yX5_write wsX5_write ({ frames := 4, cells := 0, slots := 0, locals := 98 }) (va_Pc [.ref (gd 0), .int (v0), .int (v1)] (zM D cA (ws) sz)) (va_Qi (fun (r : Int32) (u : va_W) => mKeep ws u ∧ mL cA u gd n tr le sl mo la fc sf bf nd mk ck ct hd pf nj jt jf dl fin my fls fod fle fro (k3 (ix v0 nd) (rg v1 1 100) (fun j b => match hd j with | none => false | some t => decide (ct j < 12) && decide (fc t < 10 ∧ bo t (fc t) + b ≤ tr t * le t)))) (fun u => zB D (va_A (ws) sz) (u)) (va_A (ws) sz)) 0 0 (va_A (ws) sz) := by
  refine zOpen (cc := cX5_write) (maxL := 7) (ret := (some .int)) (own := RX5) (by decide) rfl rfl (Nat.le_of_ble_eq_true rfl) ?_
  intro p e s m below meth c ls hx hb hr hml hts hown hlocks hnm ⟨hZ, hP, hD0, hsz⟩ hl
  subst hsz
  have hD := hD0.self (sz := s.heap.size)
  generalize hAe : va_A (ws) s.heap.size = A at hD ⊢
  have hA : ∀ q : Nat, s.heap.size ≤ q → A q := fun q h => by rw [← hAe]; exact Or.inr h
  have hS : va_S A s.heap s.heap [] := va_S.rf
  have iX5 : ∀ w ∈ wsX50, w ∈ wsX5_write := by decide +kernel
  have hl : lv_has ls 7 [(0, .ref (gd 0)), (1, .int (v0)), (2, .int (v1))] := hl
  have hm0 := hm
  have hI0 := hI
  have hM0 := hM
  obtain ⟨hn8, hd3, hj60, hIT, hID, hIJ, hIdl, hIw⟩ := hI
  obtain ⟨hM1, hM2, hM3, hM4, hM5, hM6, hM7⟩ := hM
  obtain ⟨m0, m1, m2, m3, m4, m5, m6, m7, m8, m9, m10, m11, m12, m13, m14, m15, m16, m17, m18, m19, m20, m21⟩ := hm
  have hfc10 : ∀ i, i < n → fc i ≤ 10 := fun i hi => (hIT i hi).2.2.2.2.2.2.1
  have hsl12 : ∀ i, i < n → sl i < 12 := fun i hi => (hIT i hi).2.2.2.2.1
  have hH8 : ∀ j, j < nd → ∀ t, hd j = some t → t < 8 := fun j hj t h => by have := ((hID j hj).2.2.2 t h).1; omega
  have hmo3 : ∀ i, i < n → ∀ j, mo i = some j → j < nd := fun i hi j h => ((hIT i hi).2.2.2.2.2.1 j h).1
  have hfw : ∀ k, k < nj → fw k = if fin k then -1 else jt k := fun k hk => (hM5 k hk).1
  rcases k3_no h0 with ⟨ho, hK⟩ | ⟨j, ho, hq, hK⟩ | ⟨j, b, ho, hq, hc, hK⟩
  · refine lv_aload_n hx hb dX5_write_0 rfl (lv_at hl 0 rfl) ?_
    refine lv_iload_n hx hb dX5_write_1 rfl (lv_at hl 1 rfl) ?_
    refine zk_V_i (n := 1) (As := [.int (v0)]) (rest := []) hx hb hml hts hown hZ hP (c_X5_hasTape l D cA _ hm0 hd3 hH8 v0) gX5_write_X5_hasTape rfl rfl ⟨rfl, rfl⟩ ⟨by decide +kernel, Nat.le_of_ble_eq_true rfl, Nat.le_of_ble_eq_true rfl⟩ m0 rfl hl.1 rfl (Nat.le_of_ble_eq_true rfl) ⟨Nat.le_of_ble_eq_true rfl, Nat.le_of_ble_eq_true rfl⟩ rfl dX5_write_2 (fun r_1 hr_2 => ?_)
    obtain rfl := show r_1 = _ from hr_2
    refine zx_val (y := bI (false)) (by rw [ho]; rfl) ?_
    refine lv_istore_n (lv' := [(3, .int (bI (false))), (0, .ref (gd 0)), (1, .int (v0)), (2, .int (v1))]) hx hb dX5_write_5 rfl hl (by decide) rfl (fun ls hl => ?_)
    refine lv_iload_n hx hb dX5_write_6 rfl (lv_at hl 0 rfl) ?_
    refine zb_eq (tgt := 19) hx hb dX5_write_7 (by decide) (fun c_3 => ?_) (fun c_3 => Bool.noConfusion c_3)
    refine lv_iconst (v := nI (0)) hx hb dX5_write_19 (by decide) ?_
    refine lv_istore (lv' := [(4, .int (nI (0))), (3, .int (bI (false))), (0, .ref (gd 0)), (1, .int (v0)), (2, .int (v1))]) hx hb dX5_write_20 hl (by decide) rfl (fun ls hl => ?_)
    refine lv_iload_n hx hb dX5_write_22 rfl (lv_at hl 1 rfl) ?_
    refine zb_eq (tgt := 80) hx hb dX5_write_23 (by decide) (fun c_4 => ?_) (fun c_4 => Bool.noConfusion c_4)
    refine lv_iconst (v := nI (0)) hx hb dX5_write_80 (by decide) ?_
    refine lv_istore (lv' := [(5, .int (nI (0))), (4, .int (nI (0))), (3, .int (bI (false))), (0, .ref (gd 0)), (1, .int (v0)), (2, .int (v1))]) hx hb dX5_write_81 hl (by decide) rfl (fun ls hl => ?_)
    refine lv_aload_n hx hb dX5_write_83 rfl (lv_at hl 3 rfl) ?_
    refine lv_aload_n hx hb dX5_write_84 rfl (lv_at hl 3 rfl) ?_
    refine lv_iload_n hx hb dX5_write_85 rfl (lv_at hl 4 rfl) ?_
    refine zk_V_i (n := 1) (As := [.int (v0)]) (rest := [.ref (gd 0)]) hx hb hml hts hown hZ hP (c_X5_isDrive l D cA _ hm0 (by omega) v0) gX5_write_X5_isDrive rfl rfl ⟨rfl, rfl⟩ ⟨by decide +kernel, Nat.le_of_ble_eq_true rfl, Nat.le_of_ble_eq_true rfl⟩ m0 rfl hl.1 rfl (Nat.le_of_ble_eq_true rfl) ⟨Nat.le_of_ble_eq_true rfl, Nat.le_of_ble_eq_true rfl⟩ rfl dX5_write_86 (fun r_5 hr_6 => ?_)
    obtain rfl := show r_5 = _ from hr_6
    refine zx_val (y := bI (false)) (by rw [ho]; rfl) ?_
    refine lv_iload_n hx hb dX5_write_89 rfl (lv_at hl 5 rfl) ?_
    refine lv_iconst (v := nI (1)) hx hb dX5_write_90 (by decide) ?_
    refine lv_bipush (v := nI (100)) hx hb dX5_write_91 (by decide) ?_
    refine zk_S_i (n := 3) (As := [.int (v1), .int (nI (1)), .int (nI (100))]) (rest := [.int (bI (false)), .ref (gd 0)]) hx hb hml hts hown hZ hP (c_X5_isIn l D cA _ v1 (nI (1)) (nI (100))) gX5_write_X5_isIn rfl ⟨rfl, rfl⟩ ⟨by decide +kernel, Nat.le_of_ble_eq_true rfl, Nat.le_of_ble_eq_true rfl⟩ hl.1 rfl (Nat.le_of_ble_eq_true rfl) ⟨Nat.le_of_ble_eq_true rfl, Nat.le_of_ble_eq_true rfl⟩ rfl dX5_write_93 (fun r_7 hr_8 => ?_)
    obtain rfl := show r_7 = _ from hr_8
    refine lv_iload hx hb dX5_write_96 (lv_at hl 0 rfl) ?_
    refine zw_V_i (n := 3) (mc := 0) (ms := 0) (As := [.int (bI (false)), .int (bI (decide (nI (1) ≤ v1) && decide (v1 ≤ nI (100)))), .int (bI (false))]) (rest := []) (w1 := fun u : Unit => ws.set 0 (gd 0, zMod gd n nd nj my 1)) hx hb hml hts hown hZ hP hD hS hA (c_X5_mayAll l D cA _ _ gd n nd nj my th false (decide (nI (1) ≤ v1) && decide (v1 ≤ nI (100))) false (m0)) gX5_write_X5_mayAll rfl rfl ⟨rfl, rfl⟩ ⟨by decide +kernel, Nat.le_of_ble_eq_true rfl, Nat.le_of_ble_eq_true rfl⟩ m0 rfl hl.1 rfl (Nat.le_of_ble_eq_true rfl) ⟨Nat.le_of_ble_eq_true rfl, Nat.le_of_ble_eq_true rfl⟩ rfl dX5_write_98 (fun r_9 u_11 H locs hr_10 hP hD hS hz_11 => ?_)
    obtain rfl := show r_9 = _ from hr_10
    have hP : va_P D vwCl (ws.set 0 (gd 0, zMod gd n nd nj my 1)) H := hP
    have hD : va_D A (ws.set 0 (gd 0, zMod gd n nd nj my 1)) := hD
    refine zb_ne (tgt := 106) hx hb dX5_write_101 (by decide) (fun c_12 => Bool.noConfusion c_12) (fun c_12 => ?_)
    refine lv_iconst (v := nI (0)) hx hb dX5_write_104 (by decide) ?_
    exact zr_qi (S := va_W) (w1 := fun u => u) (ws.set 0 (gd 0, zMod gd n nd nj my 1)) hx hb hr hlocks (⟨(mKeep_set mKeep_rf (by decide)), (by rw [hK]; exact (mL_0 hm0 n nd nj my 1))⟩) hP hD hS (rfl) dX5_write_105
  · obtain ⟨hjn, rfl⟩ := ix_some ho
    have hl : lv_has ls 7 [(0, .ref (gd 0)), (1, .int (nI (j))), (2, .int (v1))] := hl
    rcases hht : hd j with _ | t
    · refine lv_aload_n hx hb dX5_write_0 rfl (lv_at hl 0 rfl) ?_
      refine lv_iload_n hx hb dX5_write_1 rfl (lv_at hl 1 rfl) ?_
      refine zk_V_i (n := 1) (As := [.int (nI (j))]) (rest := []) hx hb hml hts hown hZ hP (c_X5_hasTape l D cA _ hm0 hd3 hH8 (nI (j))) gX5_write_X5_hasTape rfl rfl ⟨rfl, rfl⟩ ⟨by decide +kernel, Nat.le_of_ble_eq_true rfl, Nat.le_of_ble_eq_true rfl⟩ m0 rfl hl.1 rfl (Nat.le_of_ble_eq_true rfl) ⟨Nat.le_of_ble_eq_true rfl, Nat.le_of_ble_eq_true rfl⟩ rfl dX5_write_2 (fun r_13 hr_14 => ?_)
      obtain rfl := show r_13 = _ from hr_14
      refine zx_val (y := bI (false)) (by rw [ix_in (by omega) hjn]; show bI (hd j).isSome = _; rw [hht]; rfl) ?_
      refine lv_istore_n (lv' := [(3, .int (bI (false))), (0, .ref (gd 0)), (1, .int (nI (j))), (2, .int (v1))]) hx hb dX5_write_5 rfl hl (by decide) rfl (fun ls hl => ?_)
      refine lv_iload_n hx hb dX5_write_6 rfl (lv_at hl 0 rfl) ?_
      refine zb_eq (tgt := 19) hx hb dX5_write_7 (by decide) (fun c_15 => ?_) (fun c_15 => Bool.noConfusion c_15)
      refine lv_iconst (v := nI (0)) hx hb dX5_write_19 (by decide) ?_
      refine lv_istore (lv' := [(4, .int (nI (0))), (3, .int (bI (false))), (0, .ref (gd 0)), (1, .int (nI (j))), (2, .int (v1))]) hx hb dX5_write_20 hl (by decide) rfl (fun ls hl => ?_)
      refine lv_iload_n hx hb dX5_write_22 rfl (lv_at hl 1 rfl) ?_
      refine zb_eq (tgt := 80) hx hb dX5_write_23 (by decide) (fun c_16 => ?_) (fun c_16 => Bool.noConfusion c_16)
      refine lv_iconst (v := nI (0)) hx hb dX5_write_80 (by decide) ?_
      refine lv_istore (lv' := [(5, .int (nI (0))), (4, .int (nI (0))), (3, .int (bI (false))), (0, .ref (gd 0)), (1, .int (nI (j))), (2, .int (v1))]) hx hb dX5_write_81 hl (by decide) rfl (fun ls hl => ?_)
      refine lv_aload_n hx hb dX5_write_83 rfl (lv_at hl 3 rfl) ?_
      refine lv_aload_n hx hb dX5_write_84 rfl (lv_at hl 3 rfl) ?_
      refine lv_iload_n hx hb dX5_write_85 rfl (lv_at hl 4 rfl) ?_
      refine zk_V_i (n := 1) (As := [.int (nI (j))]) (rest := [.ref (gd 0)]) hx hb hml hts hown hZ hP (c_X5_isDrive l D cA _ hm0 (by omega) (nI (j))) gX5_write_X5_isDrive rfl rfl ⟨rfl, rfl⟩ ⟨by decide +kernel, Nat.le_of_ble_eq_true rfl, Nat.le_of_ble_eq_true rfl⟩ m0 rfl hl.1 rfl (Nat.le_of_ble_eq_true rfl) ⟨Nat.le_of_ble_eq_true rfl, Nat.le_of_ble_eq_true rfl⟩ rfl dX5_write_86 (fun r_17 hr_18 => ?_)
      obtain rfl := show r_17 = _ from hr_18
      refine zx_val (y := bI (true)) (by rw [ix_in (by omega) hjn]; rfl) ?_
      refine lv_iload_n hx hb dX5_write_89 rfl (lv_at hl 5 rfl) ?_
      refine lv_iconst (v := nI (1)) hx hb dX5_write_90 (by decide) ?_
      refine lv_bipush (v := nI (100)) hx hb dX5_write_91 (by decide) ?_
      refine zk_S_i (n := 3) (As := [.int (v1), .int (nI (1)), .int (nI (100))]) (rest := [.int (bI (true)), .ref (gd 0)]) hx hb hml hts hown hZ hP (c_X5_isIn l D cA _ v1 (nI (1)) (nI (100))) gX5_write_X5_isIn rfl ⟨rfl, rfl⟩ ⟨by decide +kernel, Nat.le_of_ble_eq_true rfl, Nat.le_of_ble_eq_true rfl⟩ hl.1 rfl (Nat.le_of_ble_eq_true rfl) ⟨Nat.le_of_ble_eq_true rfl, Nat.le_of_ble_eq_true rfl⟩ rfl dX5_write_93 (fun r_19 hr_20 => ?_)
      obtain rfl := show r_19 = _ from hr_20
      refine zx_val (y := bI (false)) (by rw [show (decide (nI (1) ≤ v1) && decide (v1 ≤ nI (100))) = _ from isin_rg (by omega) (by omega)]; rw [hq]; rfl) ?_
      refine lv_iload hx hb dX5_write_96 (lv_at hl 0 rfl) ?_
      refine zw_V_i (n := 3) (mc := 0) (ms := 0) (As := [.int (bI (true)), .int (bI (false)), .int (bI (false))]) (rest := []) (w1 := fun u : Unit => ws.set 0 (gd 0, zMod gd n nd nj my 2)) hx hb hml hts hown hZ hP hD hS hA (c_X5_mayAll l D cA _ _ gd n nd nj my th true false false (m0)) gX5_write_X5_mayAll rfl rfl ⟨rfl, rfl⟩ ⟨by decide +kernel, Nat.le_of_ble_eq_true rfl, Nat.le_of_ble_eq_true rfl⟩ m0 rfl hl.1 rfl (Nat.le_of_ble_eq_true rfl) ⟨Nat.le_of_ble_eq_true rfl, Nat.le_of_ble_eq_true rfl⟩ rfl dX5_write_98 (fun r_21 u_23 H locs hr_22 hP hD hS hz_23 => ?_)
      obtain rfl := show r_21 = _ from hr_22
      have hP : va_P D vwCl (ws.set 0 (gd 0, zMod gd n nd nj my 2)) H := hP
      have hD : va_D A (ws.set 0 (gd 0, zMod gd n nd nj my 2)) := hD
      refine zb_ne (tgt := 106) hx hb dX5_write_101 (by decide) (fun c_24 => Bool.noConfusion c_24) (fun c_24 => ?_)
      refine lv_iconst (v := nI (0)) hx hb dX5_write_104 (by decide) ?_
      exact zr_qi (S := va_W) (w1 := fun u => u) (ws.set 0 (gd 0, zMod gd n nd nj my 2)) hx hb hr hlocks (⟨(mKeep_set mKeep_rf (by decide)), (by rw [hK]; exact (mL_0 hm0 n nd nj my 2))⟩) hP hD hS (rfl) dX5_write_105
    · obtain ⟨htn, -⟩ := (hID j hjn).2.2.2 t hht
      have hfc10t := hfc10 t htn
      obtain ⟨htr1, htr8, hle4, hle200, -, -, -, hbo0, hbinc, hbtop⟩ := hIT t htn
      have hct11 := (hID j hjn).2.1
      have hmul : tr t * le t ≤ 8 * 200 := Nat.mul_le_mul htr8 hle200
      refine lv_aload_n hx hb dX5_write_0 rfl (lv_at hl 0 rfl) ?_
      refine lv_iload_n hx hb dX5_write_1 rfl (lv_at hl 1 rfl) ?_
      refine zk_V_i (n := 1) (As := [.int (nI (j))]) (rest := []) hx hb hml hts hown hZ hP (c_X5_hasTape l D cA _ hm0 hd3 hH8 (nI (j))) gX5_write_X5_hasTape rfl rfl ⟨rfl, rfl⟩ ⟨by decide +kernel, Nat.le_of_ble_eq_true rfl, Nat.le_of_ble_eq_true rfl⟩ m0 rfl hl.1 rfl (Nat.le_of_ble_eq_true rfl) ⟨Nat.le_of_ble_eq_true rfl, Nat.le_of_ble_eq_true rfl⟩ rfl dX5_write_2 (fun r_25 hr_26 => ?_)
      obtain rfl := show r_25 = _ from hr_26
      refine zx_val (y := bI (true)) (by rw [ix_in (by omega) hjn]; show bI (hd j).isSome = _; rw [hht]; rfl) ?_
      refine lv_istore_n (lv' := [(3, .int (bI (true))), (0, .ref (gd 0)), (1, .int (nI (j))), (2, .int (v1))]) hx hb dX5_write_5 rfl hl (by decide) rfl (fun ls hl => ?_)
      refine lv_iload_n hx hb dX5_write_6 rfl (lv_at hl 0 rfl) ?_
      refine zb_eq (tgt := 19) hx hb dX5_write_7 (by decide) (fun c_27 => Bool.noConfusion c_27) (fun c_27 => ?_)
      refine lv_aload_n hx hb dX5_write_10 rfl (lv_at hl 1 rfl) ?_
      refine va_get (D := D) (ci := 5) (v := .ref (gd 12)) (C := RX5) (T := TX5) (N := 26) hx hb hts iX5 hown hZ.1 hP 0 m0 rfl 13 (by decide) (hts (.fieldLink RX5 44 "TapeRoboticsModel" "held" "[I") (by decide +kernel)) (fun _ h9 => h9) rfl dX5_write_11 ?_
      refine lv_iload_n hx hb dX5_write_14 rfl (lv_at hl 2 rfl) ?_
      refine va_iald hx hb hZ.1 hP 12 0 m12 rfl (vp_in_nI (show j < 3 by omega) (by omega)) dX5_write_15 ?_
      rw [nI_clamp (show j < 2 ^ 31 by omega)]
      refine zx_val (y := nI (t)) (by rw [hht]; rfl) ?_
      refine lv_goto (tgt := 20) hx hb dX5_write_16 (by decide) ?_
      refine lv_istore (lv' := [(4, .int (nI (t))), (3, .int (bI (true))), (0, .ref (gd 0)), (1, .int (nI (j))), (2, .int (v1))]) hx hb dX5_write_20 hl (by decide) rfl (fun ls hl => ?_)
      refine lv_iload_n hx hb dX5_write_22 rfl (lv_at hl 1 rfl) ?_
      refine zb_eq (tgt := 80) hx hb dX5_write_23 (by decide) (fun c_28 => Bool.noConfusion c_28) (fun c_28 => ?_)
      refine lv_aload_n hx hb dX5_write_26 rfl (lv_at hl 2 rfl) ?_
      refine lv_iload_n hx hb dX5_write_27 rfl (lv_at hl 3 rfl) ?_
      refine zk_V_i (n := 1) (As := [.int (nI (j))]) (rest := []) hx hb hml hts hown hZ hP (c_X5_isClean l D cA _ hm0 j (by omega) (by first | omega | (dsimp only; omega))) gX5_write_X5_isClean rfl rfl ⟨rfl, rfl⟩ ⟨by decide +kernel, Nat.le_of_ble_eq_true rfl, Nat.le_of_ble_eq_true rfl⟩ m0 rfl hl.1 rfl (Nat.le_of_ble_eq_true rfl) ⟨Nat.le_of_ble_eq_true rfl, Nat.le_of_ble_eq_true rfl⟩ rfl dX5_write_28 (fun r_29 hr_30 => ?_)
      obtain rfl := show r_29 = _ from hr_30
      refine zb_eq (tgt := 80) hx hb dX5_write_31 (by decide) (fun c_31 => ?_) (fun c_31 => ?_)
      · refine lv_iconst (v := nI (0)) hx hb dX5_write_80 (by decide) ?_
        refine lv_istore (lv' := [(5, .int (nI (0))), (4, .int (nI (t))), (3, .int (bI (true))), (0, .ref (gd 0)), (1, .int (nI (j))), (2, .int (v1))]) hx hb dX5_write_81 hl (by decide) rfl (fun ls hl => ?_)
        refine lv_aload_n hx hb dX5_write_83 rfl (lv_at hl 3 rfl) ?_
        refine lv_aload_n hx hb dX5_write_84 rfl (lv_at hl 3 rfl) ?_
        refine lv_iload_n hx hb dX5_write_85 rfl (lv_at hl 4 rfl) ?_
        refine zk_V_i (n := 1) (As := [.int (nI (j))]) (rest := [.ref (gd 0)]) hx hb hml hts hown hZ hP (c_X5_isDrive l D cA _ hm0 (by omega) (nI (j))) gX5_write_X5_isDrive rfl rfl ⟨rfl, rfl⟩ ⟨by decide +kernel, Nat.le_of_ble_eq_true rfl, Nat.le_of_ble_eq_true rfl⟩ m0 rfl hl.1 rfl (Nat.le_of_ble_eq_true rfl) ⟨Nat.le_of_ble_eq_true rfl, Nat.le_of_ble_eq_true rfl⟩ rfl dX5_write_86 (fun r_32 hr_33 => ?_)
        obtain rfl := show r_32 = _ from hr_33
        refine zx_val (y := bI (true)) (by rw [ix_in (by omega) hjn]; rfl) ?_
        refine lv_iload_n hx hb dX5_write_89 rfl (lv_at hl 5 rfl) ?_
        refine lv_iconst (v := nI (1)) hx hb dX5_write_90 (by decide) ?_
        refine lv_bipush (v := nI (100)) hx hb dX5_write_91 (by decide) ?_
        refine zk_S_i (n := 3) (As := [.int (v1), .int (nI (1)), .int (nI (100))]) (rest := [.int (bI (true)), .ref (gd 0)]) hx hb hml hts hown hZ hP (c_X5_isIn l D cA _ v1 (nI (1)) (nI (100))) gX5_write_X5_isIn rfl ⟨rfl, rfl⟩ ⟨by decide +kernel, Nat.le_of_ble_eq_true rfl, Nat.le_of_ble_eq_true rfl⟩ hl.1 rfl (Nat.le_of_ble_eq_true rfl) ⟨Nat.le_of_ble_eq_true rfl, Nat.le_of_ble_eq_true rfl⟩ rfl dX5_write_93 (fun r_34 hr_35 => ?_)
        obtain rfl := show r_34 = _ from hr_35
        refine zx_val (y := bI (false)) (by rw [show (decide (nI (1) ≤ v1) && decide (v1 ≤ nI (100))) = _ from isin_rg (by omega) (by omega)]; rw [hq]; rfl) ?_
        refine lv_iload hx hb dX5_write_96 (lv_at hl 0 rfl) ?_
        refine zw_V_i (n := 3) (mc := 0) (ms := 0) (As := [.int (bI (true)), .int (bI (false)), .int (bI (false))]) (rest := []) (w1 := fun u : Unit => ws.set 0 (gd 0, zMod gd n nd nj my 2)) hx hb hml hts hown hZ hP hD hS hA (c_X5_mayAll l D cA _ _ gd n nd nj my th true false false (m0)) gX5_write_X5_mayAll rfl rfl ⟨rfl, rfl⟩ ⟨by decide +kernel, Nat.le_of_ble_eq_true rfl, Nat.le_of_ble_eq_true rfl⟩ m0 rfl hl.1 rfl (Nat.le_of_ble_eq_true rfl) ⟨Nat.le_of_ble_eq_true rfl, Nat.le_of_ble_eq_true rfl⟩ rfl dX5_write_98 (fun r_36 u_38 H locs hr_37 hP hD hS hz_38 => ?_)
        obtain rfl := show r_36 = _ from hr_37
        have hP : va_P D vwCl (ws.set 0 (gd 0, zMod gd n nd nj my 2)) H := hP
        have hD : va_D A (ws.set 0 (gd 0, zMod gd n nd nj my 2)) := hD
        refine zb_ne (tgt := 106) hx hb dX5_write_101 (by decide) (fun c_39 => Bool.noConfusion c_39) (fun c_39 => ?_)
        refine lv_iconst (v := nI (0)) hx hb dX5_write_104 (by decide) ?_
        exact zr_qi (S := va_W) (w1 := fun u => u) (ws.set 0 (gd 0, zMod gd n nd nj my 2)) hx hb hr hlocks (⟨(mKeep_set mKeep_rf (by decide)), (by rw [hK]; exact (mL_0 hm0 n nd nj my 2))⟩) hP hD hS (rfl) dX5_write_105
      · have hct12 : ct j < 12 := of_decide_eq_true (by assumption)
        refine lv_aload_n hx hb dX5_write_34 rfl (lv_at hl 2 rfl) ?_
        refine va_get (D := D) (ci := 5) (v := .ref (gd 6)) (C := RX5) (T := TX5) (N := 26) hx hb hts iX5 hown hZ.1 hP 0 m0 rfl 6 (by decide) (hts (.fieldLink RX5 26 "TapeRoboticsModel" "files" "[I") (by decide +kernel)) (fun _ h9 => h9) rfl dX5_write_35 ?_
        refine lv_iload hx hb dX5_write_38 (lv_at hl 0 rfl) ?_
        refine va_iald hx hb hZ.1 hP 6 0 m6 rfl (vp_in_nI (show t < 8 by omega) (by omega)) dX5_write_40 ?_
        rw [nI_clamp (show t < 2 ^ 31 by omega)]
        refine lv_bipush (v := nI (10)) hx hb dX5_write_41 (by decide) ?_
        refine zc_ge (tgt := 80) hx hb (by omega) (by omega) dX5_write_43 (by decide) (fun c_40 => ?_) (fun c_40 => ?_)
        · refine lv_iconst (v := nI (0)) hx hb dX5_write_80 (by decide) ?_
          refine lv_istore (lv' := [(5, .int (nI (0))), (4, .int (nI (t))), (3, .int (bI (true))), (0, .ref (gd 0)), (1, .int (nI (j))), (2, .int (v1))]) hx hb dX5_write_81 hl (by decide) rfl (fun ls hl => ?_)
          refine lv_aload_n hx hb dX5_write_83 rfl (lv_at hl 3 rfl) ?_
          refine lv_aload_n hx hb dX5_write_84 rfl (lv_at hl 3 rfl) ?_
          refine lv_iload_n hx hb dX5_write_85 rfl (lv_at hl 4 rfl) ?_
          refine zk_V_i (n := 1) (As := [.int (nI (j))]) (rest := [.ref (gd 0)]) hx hb hml hts hown hZ hP (c_X5_isDrive l D cA _ hm0 (by omega) (nI (j))) gX5_write_X5_isDrive rfl rfl ⟨rfl, rfl⟩ ⟨by decide +kernel, Nat.le_of_ble_eq_true rfl, Nat.le_of_ble_eq_true rfl⟩ m0 rfl hl.1 rfl (Nat.le_of_ble_eq_true rfl) ⟨Nat.le_of_ble_eq_true rfl, Nat.le_of_ble_eq_true rfl⟩ rfl dX5_write_86 (fun r_41 hr_42 => ?_)
          obtain rfl := show r_41 = _ from hr_42
          refine zx_val (y := bI (true)) (by rw [ix_in (by omega) hjn]; rfl) ?_
          refine lv_iload_n hx hb dX5_write_89 rfl (lv_at hl 5 rfl) ?_
          refine lv_iconst (v := nI (1)) hx hb dX5_write_90 (by decide) ?_
          refine lv_bipush (v := nI (100)) hx hb dX5_write_91 (by decide) ?_
          refine zk_S_i (n := 3) (As := [.int (v1), .int (nI (1)), .int (nI (100))]) (rest := [.int (bI (true)), .ref (gd 0)]) hx hb hml hts hown hZ hP (c_X5_isIn l D cA _ v1 (nI (1)) (nI (100))) gX5_write_X5_isIn rfl ⟨rfl, rfl⟩ ⟨by decide +kernel, Nat.le_of_ble_eq_true rfl, Nat.le_of_ble_eq_true rfl⟩ hl.1 rfl (Nat.le_of_ble_eq_true rfl) ⟨Nat.le_of_ble_eq_true rfl, Nat.le_of_ble_eq_true rfl⟩ rfl dX5_write_93 (fun r_43 hr_44 => ?_)
          obtain rfl := show r_43 = _ from hr_44
          refine zx_val (y := bI (false)) (by rw [show (decide (nI (1) ≤ v1) && decide (v1 ≤ nI (100))) = _ from isin_rg (by omega) (by omega)]; rw [hq]; rfl) ?_
          refine lv_iload hx hb dX5_write_96 (lv_at hl 0 rfl) ?_
          refine zw_V_i (n := 3) (mc := 0) (ms := 0) (As := [.int (bI (true)), .int (bI (false)), .int (bI (false))]) (rest := []) (w1 := fun u : Unit => ws.set 0 (gd 0, zMod gd n nd nj my 2)) hx hb hml hts hown hZ hP hD hS hA (c_X5_mayAll l D cA _ _ gd n nd nj my th true false false (m0)) gX5_write_X5_mayAll rfl rfl ⟨rfl, rfl⟩ ⟨by decide +kernel, Nat.le_of_ble_eq_true rfl, Nat.le_of_ble_eq_true rfl⟩ m0 rfl hl.1 rfl (Nat.le_of_ble_eq_true rfl) ⟨Nat.le_of_ble_eq_true rfl, Nat.le_of_ble_eq_true rfl⟩ rfl dX5_write_98 (fun r_45 u_47 H locs hr_46 hP hD hS hz_47 => ?_)
          obtain rfl := show r_45 = _ from hr_46
          have hP : va_P D vwCl (ws.set 0 (gd 0, zMod gd n nd nj my 2)) H := hP
          have hD : va_D A (ws.set 0 (gd 0, zMod gd n nd nj my 2)) := hD
          refine zb_ne (tgt := 106) hx hb dX5_write_101 (by decide) (fun c_48 => Bool.noConfusion c_48) (fun c_48 => ?_)
          refine lv_iconst (v := nI (0)) hx hb dX5_write_104 (by decide) ?_
          exact zr_qi (S := va_W) (w1 := fun u => u) (ws.set 0 (gd 0, zMod gd n nd nj my 2)) hx hb hr hlocks (⟨(mKeep_set mKeep_rf (by decide)), (by rw [hK]; exact (mL_0 hm0 n nd nj my 2))⟩) hP hD hS (rfl) dX5_write_105
        · refine lv_aload_n hx hb dX5_write_46 rfl (lv_at hl 2 rfl) ?_
          refine lv_iload hx hb dX5_write_47 (lv_at hl 0 rfl) ?_
          refine zk_V_i (n := 1) (As := [.int (nI (t))]) (rest := []) hx hb hml hts hown hZ hP (c_X5_behind l D cA _ hm0 t (by omega) (hfc10 _ htn) bo (hIT _ htn).2.2.2.2.2.2.2.1 (hIT _ htn).2.2.2.2.2.2.2.2.1 (fun f hf => hM3 _ f htn hf)) gX5_write_X5_behind rfl rfl ⟨rfl, rfl⟩ ⟨by decide +kernel, Nat.le_of_ble_eq_true rfl, Nat.le_of_ble_eq_true rfl⟩ m0 rfl hl.1 rfl (Nat.le_of_ble_eq_true rfl) ⟨Nat.le_of_ble_eq_true rfl, Nat.le_of_ble_eq_true rfl⟩ rfl dX5_write_49 (fun r_49 hr_50 => ?_)
          obtain rfl := show r_49 = _ from hr_50
          refine lv_i2l (v := lN (bo t (fc t))) hx hb dX5_write_52 (nI_l (by omega)) ?_
          refine lv_iload_n hx hb dX5_write_53 rfl (lv_at hl 4 rfl) ?_
          refine lv_i2l (v := (v1).toInt64) hx hb dX5_write_54 rfl ?_
          refine lv_ladd hx hb dX5_write_55 ?_
          refine lv_aload_n hx hb dX5_write_56 rfl (lv_at hl 2 rfl) ?_
          refine va_get (D := D) (ci := 5) (v := .ref (gd 1)) (C := RX5) (T := TX5) (N := 26) hx hb hts iX5 hown hZ.1 hP 0 m0 rfl 1 (by decide) (hts (.fieldLink RX5 7 "TapeRoboticsModel" "tracks" "[I") (by decide +kernel)) (fun _ h9 => h9) rfl dX5_write_57 ?_
          refine lv_iload hx hb dX5_write_60 (lv_at hl 0 rfl) ?_
          refine va_iald hx hb hZ.1 hP 1 0 m1 rfl (vp_in_nI (show t < 8 by omega) (by omega)) dX5_write_62 ?_
          rw [nI_clamp (show t < 2 ^ 31 by omega)]
          refine lv_aload_n hx hb dX5_write_63 rfl (lv_at hl 2 rfl) ?_
          refine va_get (D := D) (ci := 5) (v := .ref (gd 2)) (C := RX5) (T := TX5) (N := 26) hx hb hts iX5 hown hZ.1 hP 0 m0 rfl 2 (by decide) (hts (.fieldLink RX5 13 "TapeRoboticsModel" "length" "[I") (by decide +kernel)) (fun _ h9 => h9) rfl dX5_write_64 ?_
          refine lv_iload hx hb dX5_write_67 (lv_at hl 0 rfl) ?_
          refine va_iald hx hb hZ.1 hP 2 0 m2 rfl (vp_in_nI (show t < 8 by omega) (by omega)) dX5_write_69 ?_
          rw [nI_clamp (show t < 2 ^ 31 by omega)]
          refine zo_mul hx hb dX5_write_70 ?_
          refine lv_i2l (v := lN ((tr t) * (le t))) hx hb dX5_write_71 (nI_l (by omega)) ?_
          refine W.lcmp hx hb dX5_write_72 ?_
          refine lv_if_gt (tgt := 80) hx hb dX5_write_73 (by decide) (fun c_51 => ?_) (fun c_51 => ?_)
          · refine lv_iconst (v := nI (0)) hx hb dX5_write_80 (by decide) ?_
            refine lv_istore (lv' := [(5, .int (nI (0))), (4, .int (nI (t))), (3, .int (bI (true))), (0, .ref (gd 0)), (1, .int (nI (j))), (2, .int (v1))]) hx hb dX5_write_81 hl (by decide) rfl (fun ls hl => ?_)
            refine lv_aload_n hx hb dX5_write_83 rfl (lv_at hl 3 rfl) ?_
            refine lv_aload_n hx hb dX5_write_84 rfl (lv_at hl 3 rfl) ?_
            refine lv_iload_n hx hb dX5_write_85 rfl (lv_at hl 4 rfl) ?_
            refine zk_V_i (n := 1) (As := [.int (nI (j))]) (rest := [.ref (gd 0)]) hx hb hml hts hown hZ hP (c_X5_isDrive l D cA _ hm0 (by omega) (nI (j))) gX5_write_X5_isDrive rfl rfl ⟨rfl, rfl⟩ ⟨by decide +kernel, Nat.le_of_ble_eq_true rfl, Nat.le_of_ble_eq_true rfl⟩ m0 rfl hl.1 rfl (Nat.le_of_ble_eq_true rfl) ⟨Nat.le_of_ble_eq_true rfl, Nat.le_of_ble_eq_true rfl⟩ rfl dX5_write_86 (fun r_52 hr_53 => ?_)
            obtain rfl := show r_52 = _ from hr_53
            refine zx_val (y := bI (true)) (by rw [ix_in (by omega) hjn]; rfl) ?_
            refine lv_iload_n hx hb dX5_write_89 rfl (lv_at hl 5 rfl) ?_
            refine lv_iconst (v := nI (1)) hx hb dX5_write_90 (by decide) ?_
            refine lv_bipush (v := nI (100)) hx hb dX5_write_91 (by decide) ?_
            refine zk_S_i (n := 3) (As := [.int (v1), .int (nI (1)), .int (nI (100))]) (rest := [.int (bI (true)), .ref (gd 0)]) hx hb hml hts hown hZ hP (c_X5_isIn l D cA _ v1 (nI (1)) (nI (100))) gX5_write_X5_isIn rfl ⟨rfl, rfl⟩ ⟨by decide +kernel, Nat.le_of_ble_eq_true rfl, Nat.le_of_ble_eq_true rfl⟩ hl.1 rfl (Nat.le_of_ble_eq_true rfl) ⟨Nat.le_of_ble_eq_true rfl, Nat.le_of_ble_eq_true rfl⟩ rfl dX5_write_93 (fun r_54 hr_55 => ?_)
            obtain rfl := show r_54 = _ from hr_55
            refine zx_val (y := bI (false)) (by rw [show (decide (nI (1) ≤ v1) && decide (v1 ≤ nI (100))) = _ from isin_rg (by omega) (by omega)]; rw [hq]; rfl) ?_
            refine lv_iload hx hb dX5_write_96 (lv_at hl 0 rfl) ?_
            refine zw_V_i (n := 3) (mc := 0) (ms := 0) (As := [.int (bI (true)), .int (bI (false)), .int (bI (false))]) (rest := []) (w1 := fun u : Unit => ws.set 0 (gd 0, zMod gd n nd nj my 2)) hx hb hml hts hown hZ hP hD hS hA (c_X5_mayAll l D cA _ _ gd n nd nj my th true false false (m0)) gX5_write_X5_mayAll rfl rfl ⟨rfl, rfl⟩ ⟨by decide +kernel, Nat.le_of_ble_eq_true rfl, Nat.le_of_ble_eq_true rfl⟩ m0 rfl hl.1 rfl (Nat.le_of_ble_eq_true rfl) ⟨Nat.le_of_ble_eq_true rfl, Nat.le_of_ble_eq_true rfl⟩ rfl dX5_write_98 (fun r_56 u_58 H locs hr_57 hP hD hS hz_58 => ?_)
            obtain rfl := show r_56 = _ from hr_57
            have hP : va_P D vwCl (ws.set 0 (gd 0, zMod gd n nd nj my 2)) H := hP
            have hD : va_D A (ws.set 0 (gd 0, zMod gd n nd nj my 2)) := hD
            refine zb_ne (tgt := 106) hx hb dX5_write_101 (by decide) (fun c_59 => Bool.noConfusion c_59) (fun c_59 => ?_)
            refine lv_iconst (v := nI (0)) hx hb dX5_write_104 (by decide) ?_
            exact zr_qi (S := va_W) (w1 := fun u => u) (ws.set 0 (gd 0, zMod gd n nd nj my 2)) hx hb hr hlocks (⟨(mKeep_set mKeep_rf (by decide)), (by rw [hK]; exact (mL_0 hm0 n nd nj my 2))⟩) hP hD hS (rfl) dX5_write_105
          · refine lv_iconst (v := nI (1)) hx hb dX5_write_76 (by decide) ?_
            refine lv_goto (tgt := 81) hx hb dX5_write_77 (by decide) ?_
            refine lv_istore (lv' := [(5, .int (nI (1))), (4, .int (nI (t))), (3, .int (bI (true))), (0, .ref (gd 0)), (1, .int (nI (j))), (2, .int (v1))]) hx hb dX5_write_81 hl (by decide) rfl (fun ls hl => ?_)
            refine lv_aload_n hx hb dX5_write_83 rfl (lv_at hl 3 rfl) ?_
            refine lv_aload_n hx hb dX5_write_84 rfl (lv_at hl 3 rfl) ?_
            refine lv_iload_n hx hb dX5_write_85 rfl (lv_at hl 4 rfl) ?_
            refine zk_V_i (n := 1) (As := [.int (nI (j))]) (rest := [.ref (gd 0)]) hx hb hml hts hown hZ hP (c_X5_isDrive l D cA _ hm0 (by omega) (nI (j))) gX5_write_X5_isDrive rfl rfl ⟨rfl, rfl⟩ ⟨by decide +kernel, Nat.le_of_ble_eq_true rfl, Nat.le_of_ble_eq_true rfl⟩ m0 rfl hl.1 rfl (Nat.le_of_ble_eq_true rfl) ⟨Nat.le_of_ble_eq_true rfl, Nat.le_of_ble_eq_true rfl⟩ rfl dX5_write_86 (fun r_60 hr_61 => ?_)
            obtain rfl := show r_60 = _ from hr_61
            refine zx_val (y := bI (true)) (by rw [ix_in (by omega) hjn]; rfl) ?_
            refine lv_iload_n hx hb dX5_write_89 rfl (lv_at hl 5 rfl) ?_
            refine lv_iconst (v := nI (1)) hx hb dX5_write_90 (by decide) ?_
            refine lv_bipush (v := nI (100)) hx hb dX5_write_91 (by decide) ?_
            refine zk_S_i (n := 3) (As := [.int (v1), .int (nI (1)), .int (nI (100))]) (rest := [.int (bI (true)), .ref (gd 0)]) hx hb hml hts hown hZ hP (c_X5_isIn l D cA _ v1 (nI (1)) (nI (100))) gX5_write_X5_isIn rfl ⟨rfl, rfl⟩ ⟨by decide +kernel, Nat.le_of_ble_eq_true rfl, Nat.le_of_ble_eq_true rfl⟩ hl.1 rfl (Nat.le_of_ble_eq_true rfl) ⟨Nat.le_of_ble_eq_true rfl, Nat.le_of_ble_eq_true rfl⟩ rfl dX5_write_93 (fun r_62 hr_63 => ?_)
            obtain rfl := show r_62 = _ from hr_63
            refine zx_val (y := bI (false)) (by rw [show (decide (nI (1) ≤ v1) && decide (v1 ≤ nI (100))) = _ from isin_rg (by omega) (by omega)]; rw [hq]; rfl) ?_
            refine lv_iload hx hb dX5_write_96 (lv_at hl 0 rfl) ?_
            refine zw_V_i (n := 3) (mc := 0) (ms := 0) (As := [.int (bI (true)), .int (bI (false)), .int (bI (true))]) (rest := []) (w1 := fun u : Unit => ws.set 0 (gd 0, zMod gd n nd nj my 2)) hx hb hml hts hown hZ hP hD hS hA (c_X5_mayAll l D cA _ _ gd n nd nj my th true false true (m0)) gX5_write_X5_mayAll rfl rfl ⟨rfl, rfl⟩ ⟨by decide +kernel, Nat.le_of_ble_eq_true rfl, Nat.le_of_ble_eq_true rfl⟩ m0 rfl hl.1 rfl (Nat.le_of_ble_eq_true rfl) ⟨Nat.le_of_ble_eq_true rfl, Nat.le_of_ble_eq_true rfl⟩ rfl dX5_write_98 (fun r_64 u_66 H locs hr_65 hP hD hS hz_66 => ?_)
            obtain rfl := show r_64 = _ from hr_65
            have hP : va_P D vwCl (ws.set 0 (gd 0, zMod gd n nd nj my 2)) H := hP
            have hD : va_D A (ws.set 0 (gd 0, zMod gd n nd nj my 2)) := hD
            refine zb_ne (tgt := 106) hx hb dX5_write_101 (by decide) (fun c_67 => Bool.noConfusion c_67) (fun c_67 => ?_)
            refine lv_iconst (v := nI (0)) hx hb dX5_write_104 (by decide) ?_
            exact zr_qi (S := va_W) (w1 := fun u => u) (ws.set 0 (gd 0, zMod gd n nd nj my 2)) hx hb hr hlocks (⟨(mKeep_set mKeep_rf (by decide)), (by rw [hK]; exact (mL_0 hm0 n nd nj my 2))⟩) hP hD hS (rfl) dX5_write_105
  · obtain ⟨hjn, rfl⟩ := ix_some ho
    obtain ⟨rfl, hb1, hb2⟩ := rg_some hq
    have hl : lv_has ls 7 [(0, .ref (gd 0)), (1, .int (nI (j))), (2, .int (nI (b)))] := hl
    rcases hht : hd j with _ | t
    · refine lv_aload_n hx hb dX5_write_0 rfl (lv_at hl 0 rfl) ?_
      refine lv_iload_n hx hb dX5_write_1 rfl (lv_at hl 1 rfl) ?_
      refine zk_V_i (n := 1) (As := [.int (nI (j))]) (rest := []) hx hb hml hts hown hZ hP (c_X5_hasTape l D cA _ hm0 hd3 hH8 (nI (j))) gX5_write_X5_hasTape rfl rfl ⟨rfl, rfl⟩ ⟨by decide +kernel, Nat.le_of_ble_eq_true rfl, Nat.le_of_ble_eq_true rfl⟩ m0 rfl hl.1 rfl (Nat.le_of_ble_eq_true rfl) ⟨Nat.le_of_ble_eq_true rfl, Nat.le_of_ble_eq_true rfl⟩ rfl dX5_write_2 (fun r_68 hr_69 => ?_)
      obtain rfl := show r_68 = _ from hr_69
      refine zx_val (y := bI (false)) (by rw [ix_in (by omega) hjn]; show bI (hd j).isSome = _; rw [hht]; rfl) ?_
      refine lv_istore_n (lv' := [(3, .int (bI (false))), (0, .ref (gd 0)), (1, .int (nI (j))), (2, .int (nI (b)))]) hx hb dX5_write_5 rfl hl (by decide) rfl (fun ls hl => ?_)
      refine lv_iload_n hx hb dX5_write_6 rfl (lv_at hl 0 rfl) ?_
      refine zb_eq (tgt := 19) hx hb dX5_write_7 (by decide) (fun c_70 => ?_) (fun c_70 => Bool.noConfusion c_70)
      refine lv_iconst (v := nI (0)) hx hb dX5_write_19 (by decide) ?_
      refine lv_istore (lv' := [(4, .int (nI (0))), (3, .int (bI (false))), (0, .ref (gd 0)), (1, .int (nI (j))), (2, .int (nI (b)))]) hx hb dX5_write_20 hl (by decide) rfl (fun ls hl => ?_)
      refine lv_iload_n hx hb dX5_write_22 rfl (lv_at hl 1 rfl) ?_
      refine zb_eq (tgt := 80) hx hb dX5_write_23 (by decide) (fun c_71 => ?_) (fun c_71 => Bool.noConfusion c_71)
      refine lv_iconst (v := nI (0)) hx hb dX5_write_80 (by decide) ?_
      refine lv_istore (lv' := [(5, .int (nI (0))), (4, .int (nI (0))), (3, .int (bI (false))), (0, .ref (gd 0)), (1, .int (nI (j))), (2, .int (nI (b)))]) hx hb dX5_write_81 hl (by decide) rfl (fun ls hl => ?_)
      refine lv_aload_n hx hb dX5_write_83 rfl (lv_at hl 3 rfl) ?_
      refine lv_aload_n hx hb dX5_write_84 rfl (lv_at hl 3 rfl) ?_
      refine lv_iload_n hx hb dX5_write_85 rfl (lv_at hl 4 rfl) ?_
      refine zk_V_i (n := 1) (As := [.int (nI (j))]) (rest := [.ref (gd 0)]) hx hb hml hts hown hZ hP (c_X5_isDrive l D cA _ hm0 (by omega) (nI (j))) gX5_write_X5_isDrive rfl rfl ⟨rfl, rfl⟩ ⟨by decide +kernel, Nat.le_of_ble_eq_true rfl, Nat.le_of_ble_eq_true rfl⟩ m0 rfl hl.1 rfl (Nat.le_of_ble_eq_true rfl) ⟨Nat.le_of_ble_eq_true rfl, Nat.le_of_ble_eq_true rfl⟩ rfl dX5_write_86 (fun r_72 hr_73 => ?_)
      obtain rfl := show r_72 = _ from hr_73
      refine zx_val (y := bI (true)) (by rw [ix_in (by omega) hjn]; rfl) ?_
      refine lv_iload_n hx hb dX5_write_89 rfl (lv_at hl 5 rfl) ?_
      refine lv_iconst (v := nI (1)) hx hb dX5_write_90 (by decide) ?_
      refine lv_bipush (v := nI (100)) hx hb dX5_write_91 (by decide) ?_
      refine zk_S_i (n := 3) (As := [.int (nI (b)), .int (nI (1)), .int (nI (100))]) (rest := [.int (bI (true)), .ref (gd 0)]) hx hb hml hts hown hZ hP (c_X5_isIn l D cA _ (nI (b)) (nI (1)) (nI (100))) gX5_write_X5_isIn rfl ⟨rfl, rfl⟩ ⟨by decide +kernel, Nat.le_of_ble_eq_true rfl, Nat.le_of_ble_eq_true rfl⟩ hl.1 rfl (Nat.le_of_ble_eq_true rfl) ⟨Nat.le_of_ble_eq_true rfl, Nat.le_of_ble_eq_true rfl⟩ rfl dX5_write_93 (fun r_74 hr_75 => ?_)
      obtain rfl := show r_74 = _ from hr_75
      refine zx_val (y := bI (true)) (by rw [show (decide (nI (1) ≤ nI (b)) && decide (nI (b) ≤ nI (100))) = _ from isin_rg (by omega) (by omega)]; rw [hq]; rfl) ?_
      refine lv_iload hx hb dX5_write_96 (lv_at hl 0 rfl) ?_
      refine zw_V_i (n := 3) (mc := 0) (ms := 0) (As := [.int (bI (true)), .int (bI (true)), .int (bI (false))]) (rest := []) (w1 := fun u : Unit => ws.set 0 (gd 0, zMod gd n nd nj my 3)) hx hb hml hts hown hZ hP hD hS hA (c_X5_mayAll l D cA _ _ gd n nd nj my th true true false (m0)) gX5_write_X5_mayAll rfl rfl ⟨rfl, rfl⟩ ⟨by decide +kernel, Nat.le_of_ble_eq_true rfl, Nat.le_of_ble_eq_true rfl⟩ m0 rfl hl.1 rfl (Nat.le_of_ble_eq_true rfl) ⟨Nat.le_of_ble_eq_true rfl, Nat.le_of_ble_eq_true rfl⟩ rfl dX5_write_98 (fun r_76 u_78 H locs hr_77 hP hD hS hz_78 => ?_)
      obtain rfl := show r_76 = _ from hr_77
      have hP : va_P D vwCl (ws.set 0 (gd 0, zMod gd n nd nj my 3)) H := hP
      have hD : va_D A (ws.set 0 (gd 0, zMod gd n nd nj my 3)) := hD
      refine zb_ne (tgt := 106) hx hb dX5_write_101 (by decide) (fun c_79 => Bool.noConfusion c_79) (fun c_79 => ?_)
      refine lv_iconst (v := nI (0)) hx hb dX5_write_104 (by decide) ?_
      exact zr_qi (S := va_W) (w1 := fun u => u) (ws.set 0 (gd 0, zMod gd n nd nj my 3)) hx hb hr hlocks (⟨(mKeep_set mKeep_rf (by decide)), (by rw [hK]; exact (mL_0 hm0 n nd nj my 3))⟩) hP hD hS (rfl) dX5_write_105
    · obtain ⟨htn, -⟩ := (hID j hjn).2.2.2 t hht
      have hfc10t := hfc10 t htn
      obtain ⟨htr1, htr8, hle4, hle200, -, -, -, hbo0, hbinc, hbtop⟩ := hIT t htn
      have hct11 := (hID j hjn).2.1
      have hmul : tr t * le t ≤ 8 * 200 := Nat.mul_le_mul htr8 hle200
      have hc9 : ¬ (ct j < 12 ∧ fc t < 10 ∧ bo t (fc t) + b ≤ tr t * le t) := fun q => by
        (try dsimp only at hc)
        rw [hht] at hc
        (try dsimp only at hc)
        rw [decide_eq_true q.1, decide_eq_true q.2] at hc; cases hc
      refine lv_aload_n hx hb dX5_write_0 rfl (lv_at hl 0 rfl) ?_
      refine lv_iload_n hx hb dX5_write_1 rfl (lv_at hl 1 rfl) ?_
      refine zk_V_i (n := 1) (As := [.int (nI (j))]) (rest := []) hx hb hml hts hown hZ hP (c_X5_hasTape l D cA _ hm0 hd3 hH8 (nI (j))) gX5_write_X5_hasTape rfl rfl ⟨rfl, rfl⟩ ⟨by decide +kernel, Nat.le_of_ble_eq_true rfl, Nat.le_of_ble_eq_true rfl⟩ m0 rfl hl.1 rfl (Nat.le_of_ble_eq_true rfl) ⟨Nat.le_of_ble_eq_true rfl, Nat.le_of_ble_eq_true rfl⟩ rfl dX5_write_2 (fun r_80 hr_81 => ?_)
      obtain rfl := show r_80 = _ from hr_81
      refine zx_val (y := bI (true)) (by rw [ix_in (by omega) hjn]; show bI (hd j).isSome = _; rw [hht]; rfl) ?_
      refine lv_istore_n (lv' := [(3, .int (bI (true))), (0, .ref (gd 0)), (1, .int (nI (j))), (2, .int (nI (b)))]) hx hb dX5_write_5 rfl hl (by decide) rfl (fun ls hl => ?_)
      refine lv_iload_n hx hb dX5_write_6 rfl (lv_at hl 0 rfl) ?_
      refine zb_eq (tgt := 19) hx hb dX5_write_7 (by decide) (fun c_82 => Bool.noConfusion c_82) (fun c_82 => ?_)
      refine lv_aload_n hx hb dX5_write_10 rfl (lv_at hl 1 rfl) ?_
      refine va_get (D := D) (ci := 5) (v := .ref (gd 12)) (C := RX5) (T := TX5) (N := 26) hx hb hts iX5 hown hZ.1 hP 0 m0 rfl 13 (by decide) (hts (.fieldLink RX5 44 "TapeRoboticsModel" "held" "[I") (by decide +kernel)) (fun _ h9 => h9) rfl dX5_write_11 ?_
      refine lv_iload_n hx hb dX5_write_14 rfl (lv_at hl 2 rfl) ?_
      refine va_iald hx hb hZ.1 hP 12 0 m12 rfl (vp_in_nI (show j < 3 by omega) (by omega)) dX5_write_15 ?_
      rw [nI_clamp (show j < 2 ^ 31 by omega)]
      refine zx_val (y := nI (t)) (by rw [hht]; rfl) ?_
      refine lv_goto (tgt := 20) hx hb dX5_write_16 (by decide) ?_
      refine lv_istore (lv' := [(4, .int (nI (t))), (3, .int (bI (true))), (0, .ref (gd 0)), (1, .int (nI (j))), (2, .int (nI (b)))]) hx hb dX5_write_20 hl (by decide) rfl (fun ls hl => ?_)
      refine lv_iload_n hx hb dX5_write_22 rfl (lv_at hl 1 rfl) ?_
      refine zb_eq (tgt := 80) hx hb dX5_write_23 (by decide) (fun c_83 => Bool.noConfusion c_83) (fun c_83 => ?_)
      refine lv_aload_n hx hb dX5_write_26 rfl (lv_at hl 2 rfl) ?_
      refine lv_iload_n hx hb dX5_write_27 rfl (lv_at hl 3 rfl) ?_
      refine zk_V_i (n := 1) (As := [.int (nI (j))]) (rest := []) hx hb hml hts hown hZ hP (c_X5_isClean l D cA _ hm0 j (by omega) (by first | omega | (dsimp only; omega))) gX5_write_X5_isClean rfl rfl ⟨rfl, rfl⟩ ⟨by decide +kernel, Nat.le_of_ble_eq_true rfl, Nat.le_of_ble_eq_true rfl⟩ m0 rfl hl.1 rfl (Nat.le_of_ble_eq_true rfl) ⟨Nat.le_of_ble_eq_true rfl, Nat.le_of_ble_eq_true rfl⟩ rfl dX5_write_28 (fun r_84 hr_85 => ?_)
      obtain rfl := show r_84 = _ from hr_85
      refine zb_eq (tgt := 80) hx hb dX5_write_31 (by decide) (fun c_86 => ?_) (fun c_86 => ?_)
      · refine lv_iconst (v := nI (0)) hx hb dX5_write_80 (by decide) ?_
        refine lv_istore (lv' := [(5, .int (nI (0))), (4, .int (nI (t))), (3, .int (bI (true))), (0, .ref (gd 0)), (1, .int (nI (j))), (2, .int (nI (b)))]) hx hb dX5_write_81 hl (by decide) rfl (fun ls hl => ?_)
        refine lv_aload_n hx hb dX5_write_83 rfl (lv_at hl 3 rfl) ?_
        refine lv_aload_n hx hb dX5_write_84 rfl (lv_at hl 3 rfl) ?_
        refine lv_iload_n hx hb dX5_write_85 rfl (lv_at hl 4 rfl) ?_
        refine zk_V_i (n := 1) (As := [.int (nI (j))]) (rest := [.ref (gd 0)]) hx hb hml hts hown hZ hP (c_X5_isDrive l D cA _ hm0 (by omega) (nI (j))) gX5_write_X5_isDrive rfl rfl ⟨rfl, rfl⟩ ⟨by decide +kernel, Nat.le_of_ble_eq_true rfl, Nat.le_of_ble_eq_true rfl⟩ m0 rfl hl.1 rfl (Nat.le_of_ble_eq_true rfl) ⟨Nat.le_of_ble_eq_true rfl, Nat.le_of_ble_eq_true rfl⟩ rfl dX5_write_86 (fun r_87 hr_88 => ?_)
        obtain rfl := show r_87 = _ from hr_88
        refine zx_val (y := bI (true)) (by rw [ix_in (by omega) hjn]; rfl) ?_
        refine lv_iload_n hx hb dX5_write_89 rfl (lv_at hl 5 rfl) ?_
        refine lv_iconst (v := nI (1)) hx hb dX5_write_90 (by decide) ?_
        refine lv_bipush (v := nI (100)) hx hb dX5_write_91 (by decide) ?_
        refine zk_S_i (n := 3) (As := [.int (nI (b)), .int (nI (1)), .int (nI (100))]) (rest := [.int (bI (true)), .ref (gd 0)]) hx hb hml hts hown hZ hP (c_X5_isIn l D cA _ (nI (b)) (nI (1)) (nI (100))) gX5_write_X5_isIn rfl ⟨rfl, rfl⟩ ⟨by decide +kernel, Nat.le_of_ble_eq_true rfl, Nat.le_of_ble_eq_true rfl⟩ hl.1 rfl (Nat.le_of_ble_eq_true rfl) ⟨Nat.le_of_ble_eq_true rfl, Nat.le_of_ble_eq_true rfl⟩ rfl dX5_write_93 (fun r_89 hr_90 => ?_)
        obtain rfl := show r_89 = _ from hr_90
        refine zx_val (y := bI (true)) (by rw [show (decide (nI (1) ≤ nI (b)) && decide (nI (b) ≤ nI (100))) = _ from isin_rg (by omega) (by omega)]; rw [hq]; rfl) ?_
        refine lv_iload hx hb dX5_write_96 (lv_at hl 0 rfl) ?_
        refine zw_V_i (n := 3) (mc := 0) (ms := 0) (As := [.int (bI (true)), .int (bI (true)), .int (bI (false))]) (rest := []) (w1 := fun u : Unit => ws.set 0 (gd 0, zMod gd n nd nj my 3)) hx hb hml hts hown hZ hP hD hS hA (c_X5_mayAll l D cA _ _ gd n nd nj my th true true false (m0)) gX5_write_X5_mayAll rfl rfl ⟨rfl, rfl⟩ ⟨by decide +kernel, Nat.le_of_ble_eq_true rfl, Nat.le_of_ble_eq_true rfl⟩ m0 rfl hl.1 rfl (Nat.le_of_ble_eq_true rfl) ⟨Nat.le_of_ble_eq_true rfl, Nat.le_of_ble_eq_true rfl⟩ rfl dX5_write_98 (fun r_91 u_93 H locs hr_92 hP hD hS hz_93 => ?_)
        obtain rfl := show r_91 = _ from hr_92
        have hP : va_P D vwCl (ws.set 0 (gd 0, zMod gd n nd nj my 3)) H := hP
        have hD : va_D A (ws.set 0 (gd 0, zMod gd n nd nj my 3)) := hD
        refine zb_ne (tgt := 106) hx hb dX5_write_101 (by decide) (fun c_94 => Bool.noConfusion c_94) (fun c_94 => ?_)
        refine lv_iconst (v := nI (0)) hx hb dX5_write_104 (by decide) ?_
        exact zr_qi (S := va_W) (w1 := fun u => u) (ws.set 0 (gd 0, zMod gd n nd nj my 3)) hx hb hr hlocks (⟨(mKeep_set mKeep_rf (by decide)), (by rw [hK]; exact (mL_0 hm0 n nd nj my 3))⟩) hP hD hS (rfl) dX5_write_105
      · have hct12 : ct j < 12 := of_decide_eq_true (by assumption)
        refine lv_aload_n hx hb dX5_write_34 rfl (lv_at hl 2 rfl) ?_
        refine va_get (D := D) (ci := 5) (v := .ref (gd 6)) (C := RX5) (T := TX5) (N := 26) hx hb hts iX5 hown hZ.1 hP 0 m0 rfl 6 (by decide) (hts (.fieldLink RX5 26 "TapeRoboticsModel" "files" "[I") (by decide +kernel)) (fun _ h9 => h9) rfl dX5_write_35 ?_
        refine lv_iload hx hb dX5_write_38 (lv_at hl 0 rfl) ?_
        refine va_iald hx hb hZ.1 hP 6 0 m6 rfl (vp_in_nI (show t < 8 by omega) (by omega)) dX5_write_40 ?_
        rw [nI_clamp (show t < 2 ^ 31 by omega)]
        refine lv_bipush (v := nI (10)) hx hb dX5_write_41 (by decide) ?_
        refine zc_ge (tgt := 80) hx hb (by omega) (by omega) dX5_write_43 (by decide) (fun c_95 => ?_) (fun c_95 => ?_)
        · refine lv_iconst (v := nI (0)) hx hb dX5_write_80 (by decide) ?_
          refine lv_istore (lv' := [(5, .int (nI (0))), (4, .int (nI (t))), (3, .int (bI (true))), (0, .ref (gd 0)), (1, .int (nI (j))), (2, .int (nI (b)))]) hx hb dX5_write_81 hl (by decide) rfl (fun ls hl => ?_)
          refine lv_aload_n hx hb dX5_write_83 rfl (lv_at hl 3 rfl) ?_
          refine lv_aload_n hx hb dX5_write_84 rfl (lv_at hl 3 rfl) ?_
          refine lv_iload_n hx hb dX5_write_85 rfl (lv_at hl 4 rfl) ?_
          refine zk_V_i (n := 1) (As := [.int (nI (j))]) (rest := [.ref (gd 0)]) hx hb hml hts hown hZ hP (c_X5_isDrive l D cA _ hm0 (by omega) (nI (j))) gX5_write_X5_isDrive rfl rfl ⟨rfl, rfl⟩ ⟨by decide +kernel, Nat.le_of_ble_eq_true rfl, Nat.le_of_ble_eq_true rfl⟩ m0 rfl hl.1 rfl (Nat.le_of_ble_eq_true rfl) ⟨Nat.le_of_ble_eq_true rfl, Nat.le_of_ble_eq_true rfl⟩ rfl dX5_write_86 (fun r_96 hr_97 => ?_)
          obtain rfl := show r_96 = _ from hr_97
          refine zx_val (y := bI (true)) (by rw [ix_in (by omega) hjn]; rfl) ?_
          refine lv_iload_n hx hb dX5_write_89 rfl (lv_at hl 5 rfl) ?_
          refine lv_iconst (v := nI (1)) hx hb dX5_write_90 (by decide) ?_
          refine lv_bipush (v := nI (100)) hx hb dX5_write_91 (by decide) ?_
          refine zk_S_i (n := 3) (As := [.int (nI (b)), .int (nI (1)), .int (nI (100))]) (rest := [.int (bI (true)), .ref (gd 0)]) hx hb hml hts hown hZ hP (c_X5_isIn l D cA _ (nI (b)) (nI (1)) (nI (100))) gX5_write_X5_isIn rfl ⟨rfl, rfl⟩ ⟨by decide +kernel, Nat.le_of_ble_eq_true rfl, Nat.le_of_ble_eq_true rfl⟩ hl.1 rfl (Nat.le_of_ble_eq_true rfl) ⟨Nat.le_of_ble_eq_true rfl, Nat.le_of_ble_eq_true rfl⟩ rfl dX5_write_93 (fun r_98 hr_99 => ?_)
          obtain rfl := show r_98 = _ from hr_99
          refine zx_val (y := bI (true)) (by rw [show (decide (nI (1) ≤ nI (b)) && decide (nI (b) ≤ nI (100))) = _ from isin_rg (by omega) (by omega)]; rw [hq]; rfl) ?_
          refine lv_iload hx hb dX5_write_96 (lv_at hl 0 rfl) ?_
          refine zw_V_i (n := 3) (mc := 0) (ms := 0) (As := [.int (bI (true)), .int (bI (true)), .int (bI (false))]) (rest := []) (w1 := fun u : Unit => ws.set 0 (gd 0, zMod gd n nd nj my 3)) hx hb hml hts hown hZ hP hD hS hA (c_X5_mayAll l D cA _ _ gd n nd nj my th true true false (m0)) gX5_write_X5_mayAll rfl rfl ⟨rfl, rfl⟩ ⟨by decide +kernel, Nat.le_of_ble_eq_true rfl, Nat.le_of_ble_eq_true rfl⟩ m0 rfl hl.1 rfl (Nat.le_of_ble_eq_true rfl) ⟨Nat.le_of_ble_eq_true rfl, Nat.le_of_ble_eq_true rfl⟩ rfl dX5_write_98 (fun r_100 u_102 H locs hr_101 hP hD hS hz_102 => ?_)
          obtain rfl := show r_100 = _ from hr_101
          have hP : va_P D vwCl (ws.set 0 (gd 0, zMod gd n nd nj my 3)) H := hP
          have hD : va_D A (ws.set 0 (gd 0, zMod gd n nd nj my 3)) := hD
          refine zb_ne (tgt := 106) hx hb dX5_write_101 (by decide) (fun c_103 => Bool.noConfusion c_103) (fun c_103 => ?_)
          refine lv_iconst (v := nI (0)) hx hb dX5_write_104 (by decide) ?_
          exact zr_qi (S := va_W) (w1 := fun u => u) (ws.set 0 (gd 0, zMod gd n nd nj my 3)) hx hb hr hlocks (⟨(mKeep_set mKeep_rf (by decide)), (by rw [hK]; exact (mL_0 hm0 n nd nj my 3))⟩) hP hD hS (rfl) dX5_write_105
        · refine lv_aload_n hx hb dX5_write_46 rfl (lv_at hl 2 rfl) ?_
          refine lv_iload hx hb dX5_write_47 (lv_at hl 0 rfl) ?_
          refine zk_V_i (n := 1) (As := [.int (nI (t))]) (rest := []) hx hb hml hts hown hZ hP (c_X5_behind l D cA _ hm0 t (by omega) (hfc10 _ htn) bo (hIT _ htn).2.2.2.2.2.2.2.1 (hIT _ htn).2.2.2.2.2.2.2.2.1 (fun f hf => hM3 _ f htn hf)) gX5_write_X5_behind rfl rfl ⟨rfl, rfl⟩ ⟨by decide +kernel, Nat.le_of_ble_eq_true rfl, Nat.le_of_ble_eq_true rfl⟩ m0 rfl hl.1 rfl (Nat.le_of_ble_eq_true rfl) ⟨Nat.le_of_ble_eq_true rfl, Nat.le_of_ble_eq_true rfl⟩ rfl dX5_write_49 (fun r_104 hr_105 => ?_)
          obtain rfl := show r_104 = _ from hr_105
          refine lv_i2l (v := lN (bo t (fc t))) hx hb dX5_write_52 (nI_l (by omega)) ?_
          refine lv_iload_n hx hb dX5_write_53 rfl (lv_at hl 4 rfl) ?_
          refine lv_i2l (v := lN (b)) hx hb dX5_write_54 (nI_l (by omega)) ?_
          refine lv_ladd hx hb dX5_write_55 ?_
          refine zx_v (b := .long (lN ((bo t (fc t)) + (b)))) (by rw [lN_add]) ?_
          refine lv_aload_n hx hb dX5_write_56 rfl (lv_at hl 2 rfl) ?_
          refine va_get (D := D) (ci := 5) (v := .ref (gd 1)) (C := RX5) (T := TX5) (N := 26) hx hb hts iX5 hown hZ.1 hP 0 m0 rfl 1 (by decide) (hts (.fieldLink RX5 7 "TapeRoboticsModel" "tracks" "[I") (by decide +kernel)) (fun _ h9 => h9) rfl dX5_write_57 ?_
          refine lv_iload hx hb dX5_write_60 (lv_at hl 0 rfl) ?_
          refine va_iald hx hb hZ.1 hP 1 0 m1 rfl (vp_in_nI (show t < 8 by omega) (by omega)) dX5_write_62 ?_
          rw [nI_clamp (show t < 2 ^ 31 by omega)]
          refine lv_aload_n hx hb dX5_write_63 rfl (lv_at hl 2 rfl) ?_
          refine va_get (D := D) (ci := 5) (v := .ref (gd 2)) (C := RX5) (T := TX5) (N := 26) hx hb hts iX5 hown hZ.1 hP 0 m0 rfl 2 (by decide) (hts (.fieldLink RX5 13 "TapeRoboticsModel" "length" "[I") (by decide +kernel)) (fun _ h9 => h9) rfl dX5_write_64 ?_
          refine lv_iload hx hb dX5_write_67 (lv_at hl 0 rfl) ?_
          refine va_iald hx hb hZ.1 hP 2 0 m2 rfl (vp_in_nI (show t < 8 by omega) (by omega)) dX5_write_69 ?_
          rw [nI_clamp (show t < 2 ^ 31 by omega)]
          refine zo_mul hx hb dX5_write_70 ?_
          refine lv_i2l (v := lN ((tr t) * (le t))) hx hb dX5_write_71 (nI_l (by omega)) ?_
          refine W.lcmp hx hb dX5_write_72 ?_
          refine lv_if_gt (tgt := 80) hx hb dX5_write_73 (by decide) (fun c_106 => ?_) (fun c_106 => False.elim (by have h9 := mt (lcmp_gt (a := bo t (fc t) + b) (b := tr t * le t) (by omega) (by omega)).mpr c_106; omega))
          refine lv_iconst (v := nI (0)) hx hb dX5_write_80 (by decide) ?_
          refine lv_istore (lv' := [(5, .int (nI (0))), (4, .int (nI (t))), (3, .int (bI (true))), (0, .ref (gd 0)), (1, .int (nI (j))), (2, .int (nI (b)))]) hx hb dX5_write_81 hl (by decide) rfl (fun ls hl => ?_)
          refine lv_aload_n hx hb dX5_write_83 rfl (lv_at hl 3 rfl) ?_
          refine lv_aload_n hx hb dX5_write_84 rfl (lv_at hl 3 rfl) ?_
          refine lv_iload_n hx hb dX5_write_85 rfl (lv_at hl 4 rfl) ?_
          refine zk_V_i (n := 1) (As := [.int (nI (j))]) (rest := [.ref (gd 0)]) hx hb hml hts hown hZ hP (c_X5_isDrive l D cA _ hm0 (by omega) (nI (j))) gX5_write_X5_isDrive rfl rfl ⟨rfl, rfl⟩ ⟨by decide +kernel, Nat.le_of_ble_eq_true rfl, Nat.le_of_ble_eq_true rfl⟩ m0 rfl hl.1 rfl (Nat.le_of_ble_eq_true rfl) ⟨Nat.le_of_ble_eq_true rfl, Nat.le_of_ble_eq_true rfl⟩ rfl dX5_write_86 (fun r_107 hr_108 => ?_)
          obtain rfl := show r_107 = _ from hr_108
          refine zx_val (y := bI (true)) (by rw [ix_in (by omega) hjn]; rfl) ?_
          refine lv_iload_n hx hb dX5_write_89 rfl (lv_at hl 5 rfl) ?_
          refine lv_iconst (v := nI (1)) hx hb dX5_write_90 (by decide) ?_
          refine lv_bipush (v := nI (100)) hx hb dX5_write_91 (by decide) ?_
          refine zk_S_i (n := 3) (As := [.int (nI (b)), .int (nI (1)), .int (nI (100))]) (rest := [.int (bI (true)), .ref (gd 0)]) hx hb hml hts hown hZ hP (c_X5_isIn l D cA _ (nI (b)) (nI (1)) (nI (100))) gX5_write_X5_isIn rfl ⟨rfl, rfl⟩ ⟨by decide +kernel, Nat.le_of_ble_eq_true rfl, Nat.le_of_ble_eq_true rfl⟩ hl.1 rfl (Nat.le_of_ble_eq_true rfl) ⟨Nat.le_of_ble_eq_true rfl, Nat.le_of_ble_eq_true rfl⟩ rfl dX5_write_93 (fun r_109 hr_110 => ?_)
          obtain rfl := show r_109 = _ from hr_110
          refine zx_val (y := bI (true)) (by rw [show (decide (nI (1) ≤ nI (b)) && decide (nI (b) ≤ nI (100))) = _ from isin_rg (by omega) (by omega)]; rw [hq]; rfl) ?_
          refine lv_iload hx hb dX5_write_96 (lv_at hl 0 rfl) ?_
          refine zw_V_i (n := 3) (mc := 0) (ms := 0) (As := [.int (bI (true)), .int (bI (true)), .int (bI (false))]) (rest := []) (w1 := fun u : Unit => ws.set 0 (gd 0, zMod gd n nd nj my 3)) hx hb hml hts hown hZ hP hD hS hA (c_X5_mayAll l D cA _ _ gd n nd nj my th true true false (m0)) gX5_write_X5_mayAll rfl rfl ⟨rfl, rfl⟩ ⟨by decide +kernel, Nat.le_of_ble_eq_true rfl, Nat.le_of_ble_eq_true rfl⟩ m0 rfl hl.1 rfl (Nat.le_of_ble_eq_true rfl) ⟨Nat.le_of_ble_eq_true rfl, Nat.le_of_ble_eq_true rfl⟩ rfl dX5_write_98 (fun r_111 u_113 H locs hr_112 hP hD hS hz_113 => ?_)
          obtain rfl := show r_111 = _ from hr_112
          have hP : va_P D vwCl (ws.set 0 (gd 0, zMod gd n nd nj my 3)) H := hP
          have hD : va_D A (ws.set 0 (gd 0, zMod gd n nd nj my 3)) := hD
          refine zb_ne (tgt := 106) hx hb dX5_write_101 (by decide) (fun c_114 => Bool.noConfusion c_114) (fun c_114 => ?_)
          refine lv_iconst (v := nI (0)) hx hb dX5_write_104 (by decide) ?_
          exact zr_qi (S := va_W) (w1 := fun u => u) (ws.set 0 (gd 0, zMod gd n nd nj my 3)) hx hb hr hlocks (⟨(mKeep_set mKeep_rf (by decide)), (by rw [hK]; exact (mL_0 hm0 n nd nj my 3))⟩) hP hD hS (rfl) dX5_write_105

set_option maxHeartbeats 4000000 in
set_option maxRecDepth 100000 in
theorem c_X5_read_ok (l : Launch) (D : va_G) (cA : Nat → ClassId) (sz : Nat) (ws : va_W) {gd : Nat → Nat} {n : Nat} {tr : Nat → Nat} {le : Nat → Nat} {sl : Nat → Nat} {mo : Nat → Option Nat} {la : Nat → Bool} {fc : Nat → Nat} {sf : Nat → Int32} {bf : Nat → Int32} {nd : Nat} {mk : Nat → Nat} {ck : Nat → Int32} {ct : Nat → Nat} {hd : Nat → Option Nat} {pf : Nat → Int32} {nj : Nat} {jt : Nat → Int32} {jf : Nat → Nat} {dl : Nat → Nat} {fin : Nat → Bool} {my : Nat} {fls : Nat → Int32} {fod : Nat → Int32} {fle : Nat → Int32} {fro : Nat → Int32} {th : Nat} {bo : Nat → Nat → Nat} {pq : Nat → Int32} {fw : Nat → Int32} {dn : Nat} (hm : mL cA ws gd n tr le sl mo la fc sf bf nd mk ck ct hd pf nj jt jf dl fin my fls fod fle fro th) (hI : zI n tr le sl mo fc bo nd mk ct hd pq nj fw jf dl) (hM : mI n la fc bo nd ck ct hd pq pf nj fw jt fin sf bf dn) (j t P : Nat) (hjn : j < nd) (hht : hd j = some t) (hpq : pq j = nI P) (hP9 : P ≤ tr t * le t) (f : Nat) (hfn : f < fc t) (hct : ct j < 12) : Met l yX5_read wsX5_read ({ frames := 4, cells := 0, slots := 0, locals := 98 }) (va_Pc [.ref (gd 0), .int (nI (j)), .int (nI (f))] (zM D cA (ws) sz)) (va_Qi (fun (r : Int32) (u : va_W) => r = nI (legT (zpa (mk j)) (zsp (mk j)) (tr t) (le t) (bo t) P f) ∧ mKeep ws u ∧ mL cA u gd n tr le sl mo la fc sf bf nd mk (va_up ck j (ck j + nI (legT (zpa (mk j)) (zsp (mk j)) (tr t) (le t) (bo t) P f))) (va_up ct j (ct j + 1)) hd (va_up pf j (nI (bo t (f + 1)))) nj jt jf dl fin my fls fod fle fro 0) (fun u => zB D (va_A (ws) sz) (u)) (va_A (ws) sz)) 0 0 (va_A (ws) sz) := by
  refine zOpen (cc := cX5_read) (maxL := 5) (ret := (some .int)) (own := RX5) (by decide) rfl rfl (Nat.le_of_ble_eq_true rfl) ?_
  intro p e s m below meth c ls hx hb hr hml hts hown hlocks hnm ⟨hZ, hP, hD0, hsz⟩ hl
  subst hsz
  have hD := hD0.self (sz := s.heap.size)
  generalize hAe : va_A (ws) s.heap.size = A at hD ⊢
  have hA : ∀ q : Nat, s.heap.size ≤ q → A q := fun q h => by rw [← hAe]; exact Or.inr h
  have hS : va_S A s.heap s.heap [] := va_S.rf
  have iX5 : ∀ w ∈ wsX50, w ∈ wsX5_read := by decide +kernel
  have hl : lv_has ls 5 [(0, .ref (gd 0)), (1, .int (nI (j))), (2, .int (nI (f)))] := hl
  have hm0 := hm
  have hI0 := hI
  have hM0 := hM
  obtain ⟨hn8, hd3, hj60, hIT, hID, hIJ, hIdl, hIw⟩ := hI
  obtain ⟨hM1, hM2, hM3, hM4, hM5, hM6, hM7⟩ := hM
  obtain ⟨m0, m1, m2, m3, m4, m5, m6, m7, m8, m9, m10, m11, m12, m13, m14, m15, m16, m17, m18, m19, m20, m21⟩ := hm
  have hfc10 : ∀ i, i < n → fc i ≤ 10 := fun i hi => (hIT i hi).2.2.2.2.2.2.1
  have hsl12 : ∀ i, i < n → sl i < 12 := fun i hi => (hIT i hi).2.2.2.2.1
  have hH8 : ∀ j, j < nd → ∀ t, hd j = some t → t < 8 := fun j hj t h => by have := ((hID j hj).2.2.2 t h).1; omega
  have hmo3 : ∀ i, i < n → ∀ j, mo i = some j → j < nd := fun i hi j h => ((hIT i hi).2.2.2.2.2.1 j h).1
  have hfw : ∀ k, k < nj → fw k = if fin k then -1 else jt k := fun k hk => (hM5 k hk).1
  obtain ⟨hmk, hct11, -, hps⟩ := hID j hjn
  obtain ⟨htn, hmoj, -⟩ := hps t hht
  have hpf : pf j = nI P := (hM4 j t hjn hht).trans hpq
  obtain ⟨htr1, htr8, hle4, hle200, -, -, -, hbo0, hbinc, hbtop⟩ := hIT t htn
  have htr : 1 ≤ tr t ∧ tr t ≤ 8 := ⟨htr1, htr8⟩
  have hle : 4 ≤ le t ∧ le t ≤ 200 := ⟨hle4, hle200⟩
  have hmul : tr t * le t ≤ 8 * 200 := Nat.mul_le_mul htr8 hle200
  have hfx := hfc10 t htn
  have hbi := hbinc f hfn
  have hbm := bmono _ hbinc (f + 1) (by omega)
  refine lv_aload_n hx hb dX5_read_0 rfl (lv_at hl 0 rfl) ?_
  refine lv_iload_n hx hb dX5_read_1 rfl (lv_at hl 1 rfl) ?_
  refine zk_V_i (n := 1) (As := [.int (nI (j))]) (rest := []) hx hb hml hts hown hZ hP (c_X5_hasTape l D cA _ hm0 hd3 hH8 (nI (j))) gX5_read_X5_hasTape rfl rfl ⟨rfl, rfl⟩ ⟨by decide +kernel, Nat.le_of_ble_eq_true rfl, Nat.le_of_ble_eq_true rfl⟩ m0 rfl hl.1 rfl (Nat.le_of_ble_eq_true rfl) ⟨Nat.le_of_ble_eq_true rfl, Nat.le_of_ble_eq_true rfl⟩ rfl dX5_read_2 (fun r_1 hr_2 => ?_)
  obtain rfl := show r_1 = _ from hr_2
  refine zx_val (y := bI (true)) (by rw [ix_in (by omega) hjn]; show bI (hd j).isSome = _; rw [hht]; rfl) ?_
  refine lv_istore_n (lv' := [(3, .int (bI (true))), (0, .ref (gd 0)), (1, .int (nI (j))), (2, .int (nI (f)))]) hx hb dX5_read_5 rfl hl (by decide) rfl (fun ls hl => ?_)
  refine lv_aload_n hx hb dX5_read_6 rfl (lv_at hl 1 rfl) ?_
  refine lv_aload_n hx hb dX5_read_7 rfl (lv_at hl 1 rfl) ?_
  refine lv_iload_n hx hb dX5_read_8 rfl (lv_at hl 2 rfl) ?_
  refine zk_V_i (n := 1) (As := [.int (nI (j))]) (rest := [.ref (gd 0)]) hx hb hml hts hown hZ hP (c_X5_isDrive l D cA _ hm0 (by omega) (nI (j))) gX5_read_X5_isDrive rfl rfl ⟨rfl, rfl⟩ ⟨by decide +kernel, Nat.le_of_ble_eq_true rfl, Nat.le_of_ble_eq_true rfl⟩ m0 rfl hl.1 rfl (Nat.le_of_ble_eq_true rfl) ⟨Nat.le_of_ble_eq_true rfl, Nat.le_of_ble_eq_true rfl⟩ rfl dX5_read_9 (fun r_3 hr_4 => ?_)
  obtain rfl := show r_3 = _ from hr_4
  refine zx_val (y := bI (true)) (by rw [ix_in (by omega) hjn]; rfl) ?_
  refine zb_eq (tgt := 37) hx hb dX5_read_12 (by decide) (fun c_5 => Bool.noConfusion c_5) (fun c_5 => ?_)
  refine lv_iload_n hx hb dX5_read_15 rfl (lv_at hl 0 rfl) ?_
  refine zb_eq (tgt := 33) hx hb dX5_read_16 (by decide) (fun c_6 => Bool.noConfusion c_6) (fun c_6 => ?_)
  refine lv_aload_n hx hb dX5_read_19 rfl (lv_at hl 1 rfl) ?_
  refine lv_aload_n hx hb dX5_read_20 rfl (lv_at hl 1 rfl) ?_
  refine va_get (D := D) (ci := 5) (v := .ref (gd 12)) (C := RX5) (T := TX5) (N := 26) hx hb hts iX5 hown hZ.1 hP 0 m0 rfl 13 (by decide) (hts (.fieldLink RX5 44 "TapeRoboticsModel" "held" "[I") (by decide +kernel)) (fun _ h9 => h9) rfl dX5_read_21 ?_
  refine lv_iload_n hx hb dX5_read_24 rfl (lv_at hl 2 rfl) ?_
  refine va_iald hx hb hZ.1 hP 12 0 m12 rfl (vp_in_nI (show j < 3 by omega) (by omega)) dX5_read_25 ?_
  rw [nI_clamp (show j < 2 ^ 31 by omega)]
  refine zx_val (y := nI (t)) (by rw [hht]; rfl) ?_
  refine lv_iload_n hx hb dX5_read_26 rfl (lv_at hl 3 rfl) ?_
  refine zk_V_i (n := 2) (As := [.int (nI (t)), .int (nI (f))]) (rest := [.ref (gd 0)]) hx hb hml hts hown hZ hP (c_X5_isFile l D cA _ hm0 hn8 hfc10 (nI (t)) (nI (f))) gX5_read_X5_isFile rfl rfl ⟨rfl, rfl⟩ ⟨by decide +kernel, Nat.le_of_ble_eq_true rfl, Nat.le_of_ble_eq_true rfl⟩ m0 rfl hl.1 rfl (Nat.le_of_ble_eq_true rfl) ⟨Nat.le_of_ble_eq_true rfl, Nat.le_of_ble_eq_true rfl⟩ rfl dX5_read_27 (fun r_7 hr_8 => ?_)
  obtain rfl := show r_7 = _ from hr_8
  refine zx_val (y := bI (true)) (by rw [ix_in (by omega) htn]; show bI (ix (nI f) (fc t)).isSome = _; rw [ix_in (by omega) hfn]; rfl) ?_
  refine zb_eq (tgt := 37) hx hb dX5_read_30 (by decide) (fun c_9 => Bool.noConfusion c_9) (fun c_9 => ?_)
  refine lv_iconst (v := nI (1)) hx hb dX5_read_33 (by decide) ?_
  refine lv_goto (tgt := 38) hx hb dX5_read_34 (by decide) ?_
  refine lv_iload_n hx hb dX5_read_38 rfl (lv_at hl 0 rfl) ?_
  refine zb_eq (tgt := 54) hx hb dX5_read_39 (by decide) (fun c_10 => Bool.noConfusion c_10) (fun c_10 => ?_)
  refine lv_aload_n hx hb dX5_read_42 rfl (lv_at hl 1 rfl) ?_
  refine lv_iload_n hx hb dX5_read_43 rfl (lv_at hl 2 rfl) ?_
  refine zk_V_i (n := 1) (As := [.int (nI (j))]) (rest := [.int (nI (1)), .ref (gd 0)]) hx hb hml hts hown hZ hP (c_X5_isClean l D cA _ hm0 j (by omega) (by first | omega | (dsimp only; omega))) gX5_read_X5_isClean rfl rfl ⟨rfl, rfl⟩ ⟨by decide +kernel, Nat.le_of_ble_eq_true rfl, Nat.le_of_ble_eq_true rfl⟩ m0 rfl hl.1 rfl (Nat.le_of_ble_eq_true rfl) ⟨Nat.le_of_ble_eq_true rfl, Nat.le_of_ble_eq_true rfl⟩ rfl dX5_read_44 (fun r_11 hr_12 => ?_)
  obtain rfl := show r_11 = _ from hr_12
  refine zx_val (y := bI (true)) (by rw [decide_eq_true hct]) ?_
  refine zb_eq (tgt := 54) hx hb dX5_read_47 (by decide) (fun c_13 => Bool.noConfusion c_13) (fun c_13 => ?_)
  refine lv_iconst (v := nI (1)) hx hb dX5_read_50 (by decide) ?_
  refine lv_goto (tgt := 55) hx hb dX5_read_51 (by decide) ?_
  refine zw_V_i (n := 2) (mc := 0) (ms := 0) (As := [.int (bI (true)), .int (bI (true))]) (rest := []) (w1 := fun u : Unit => ws.set 0 (gd 0, zMod gd n nd nj my 0)) hx hb hml hts hown hZ hP hD hS hA (c_X5_mayBoth l D cA _ _ gd n nd nj my th true true (m0)) gX5_read_X5_mayBoth rfl rfl ⟨rfl, rfl⟩ ⟨by decide +kernel, Nat.le_of_ble_eq_true rfl, Nat.le_of_ble_eq_true rfl⟩ m0 rfl hl.1 rfl (Nat.le_of_ble_eq_true rfl) ⟨Nat.le_of_ble_eq_true rfl, Nat.le_of_ble_eq_true rfl⟩ rfl dX5_read_55 (fun r_14 u_16 H locs hr_15 hP hD hS hz_16 => ?_)
  obtain rfl := show r_14 = _ from hr_15
  have hP : va_P D vwCl (ws.set 0 (gd 0, zMod gd n nd nj my 0)) H := hP
  have hD : va_D A (ws.set 0 (gd 0, zMod gd n nd nj my 0)) := hD
  refine zb_ne (tgt := 63) hx hb dX5_read_58 (by decide) (fun c_17 => ?_) (fun c_17 => Bool.noConfusion c_17)
  refine lv_bipush (v := nI (10)) hx hb dX5_read_63 (by decide) ?_
  refine lv_aload_n hx hb dX5_read_65 rfl (lv_at hl 1 rfl) ?_
  refine va_get (D := D) (ci := 5) (v := .ref (gd 12)) (C := RX5) (T := TX5) (N := 26) hx hb hts iX5 hown hZ.1 hP 0 (zset_s m0) rfl 13 (by decide) (hts (.fieldLink RX5 44 "TapeRoboticsModel" "held" "[I") (by decide +kernel)) (fun _ h9 => h9) rfl dX5_read_66 ?_
  refine lv_iload_n hx hb dX5_read_69 rfl (lv_at hl 2 rfl) ?_
  refine va_iald hx hb hZ.1 hP 12 0 (zset_n m12 (by decide)) rfl (vp_in_nI (show j < 3 by omega) (by omega)) dX5_read_70 ?_
  rw [nI_clamp (show j < 2 ^ 31 by omega)]
  refine zx_val (y := nI (t)) (by rw [hht]; rfl) ?_
  refine zo_mul hx hb dX5_read_71 ?_
  refine lv_iload_n hx hb dX5_read_72 rfl (lv_at hl 3 rfl) ?_
  refine zo_add hx hb dX5_read_73 ?_
  refine lv_istore (lv' := [(4, .int (nI ((10 * t) + f))), (3, .int (bI (true))), (0, .ref (gd 0)), (1, .int (nI (j))), (2, .int (nI (f)))]) hx hb dX5_read_74 hl (by decide) rfl (fun ls hl => ?_)
  refine lv_aload_n hx hb dX5_read_76 rfl (lv_at hl 2 rfl) ?_
  refine lv_iload_n hx hb dX5_read_77 rfl (lv_at hl 3 rfl) ?_
  refine lv_aload_n hx hb dX5_read_78 rfl (lv_at hl 2 rfl) ?_
  refine va_get (D := D) (ci := 5) (v := .ref (gd 7)) (C := RX5) (T := TX5) (N := 26) hx hb hts iX5 hown hZ.1 hP 0 (zset_s m0) rfl 7 (by decide) (hts (.fieldLink RX5 29 "TapeRoboticsModel" "start" "[I") (by decide +kernel)) (fun _ h9 => h9) rfl dX5_read_79 ?_
  refine lv_iload hx hb dX5_read_82 (lv_at hl 0 rfl) ?_
  refine va_iald hx hb hZ.1 hP 7 0 (zset_n m7 (by decide)) rfl (vp_in_nI (show (10 * t) + f < 80 by omega) (by omega)) dX5_read_84 ?_
  rw [nI_clamp (show (10 * t) + f < 2 ^ 31 by omega)]
  refine zx_val (y := nI (bo t f)) ((hM3 t f htn hfn).1) ?_
  refine lv_aload_n hx hb dX5_read_85 rfl (lv_at hl 2 rfl) ?_
  refine va_get (D := D) (ci := 5) (v := .ref (gd 8)) (C := RX5) (T := TX5) (N := 26) hx hb hts iX5 hown hZ.1 hP 0 (zset_s m0) rfl 8 (by decide) (hts (.fieldLink RX5 32 "TapeRoboticsModel" "blocks" "[I") (by decide +kernel)) (fun _ h9 => h9) rfl dX5_read_86 ?_
  refine lv_iload hx hb dX5_read_89 (lv_at hl 0 rfl) ?_
  refine va_iald hx hb hZ.1 hP 8 0 (zset_n m8 (by decide)) rfl (vp_in_nI (show (10 * t) + f < 80 by omega) (by omega)) dX5_read_91 ?_
  rw [nI_clamp (show (10 * t) + f < 2 ^ 31 by omega)]
  refine zx_val (y := nI (bo t (f + 1) - bo t f)) ((hM3 t f htn hfn).2) ?_
  refine zw_V_i (n := 3) (mc := 0) (ms := 0) (As := [.int (nI (j)), .int (nI (bo t f)), .int (nI (bo t (f + 1) - bo t f))]) (rest := []) (w1 := fun u : va_W => u) hx hb hml hts hown hZ hP hD hS hA (c_X5_run l D cA _ _ ((mL_0 hm0 n nd nj my 0)) j t P (bo t f) (bo t (f + 1) - bo t f) (by omega) hht hmk hpf hP9 (by omega) (by omega) htr hle) gX5_read_X5_run rfl rfl ⟨rfl, rfl⟩ ⟨by decide +kernel, Nat.le_of_ble_eq_true rfl, Nat.le_of_ble_eq_true rfl⟩ (zset_s m0) rfl hl.1 rfl (Nat.le_of_ble_eq_true rfl) ⟨Nat.le_of_ble_eq_true rfl, Nat.le_of_ble_eq_true rfl⟩ rfl dX5_read_92 (fun r_18 u_20 H locs hr_19 hP hD hS hz_20 => ?_)
  have hP : va_P D vwCl (u_20) H := hP
  have hD : va_D A (u_20) := hD
  obtain ⟨rfl, hkp_20, hm_20⟩ := hr_19
  obtain ⟨m0_20, m1_20, m2_20, m3_20, m4_20, m5_20, m6_20, m7_20, m8_20, m9_20, m10_20, m11_20, m12_20, m13_20, m14_20, m15_20, m16_20, m17_20, m18_20, m19_20, m20_20, m21_20⟩ := id hm_20
  have hP : va_P D vwCl (u_20) H := hP
  have hD : va_D A (u_20) := hD
  exact zr_qi (S := va_W) (w1 := fun u => u) u_20 hx hb hr hlocks (⟨rfl, (mKeep_tr (mKeep_set mKeep_rf (by decide)) hkp_20), (by have h9 := hm_20; rw [show bo t f + (bo t (f + 1) - bo t f) = bo t (f + 1) by omega] at h9; exact h9)⟩) hP hD hS (rfl) dX5_read_95

set_option maxHeartbeats 4000000 in
set_option maxRecDepth 100000 in
theorem c_X5_read_no (l : Launch) (D : va_G) (cA : Nat → ClassId) (sz : Nat) (ws : va_W) {gd : Nat → Nat} {n : Nat} {tr : Nat → Nat} {le : Nat → Nat} {sl : Nat → Nat} {mo : Nat → Option Nat} {la : Nat → Bool} {fc : Nat → Nat} {sf : Nat → Int32} {bf : Nat → Int32} {nd : Nat} {mk : Nat → Nat} {ck : Nat → Int32} {ct : Nat → Nat} {hd : Nat → Option Nat} {pf : Nat → Int32} {nj : Nat} {jt : Nat → Int32} {jf : Nat → Nat} {dl : Nat → Nat} {fin : Nat → Bool} {my : Nat} {fls : Nat → Int32} {fod : Nat → Int32} {fle : Nat → Int32} {fro : Nat → Int32} {th : Nat} {bo : Nat → Nat → Nat} {pq : Nat → Int32} {fw : Nat → Int32} {dn : Nat} (hm : mL cA ws gd n tr le sl mo la fc sf bf nd mk ck ct hd pf nj jt jf dl fin my fls fod fle fro th) (hI : zI n tr le sl mo fc bo nd mk ct hd pq nj fw jf dl) (hM : mI n la fc bo nd ck ct hd pq pf nj fw jt fin sf bf dn) (v0 : Int32) (v1 : Int32) (h0 : (kR (ix v0 nd) hd (fun t => ix v1 (fc t)) (fun j => decide (ct j < 12))) ≠ 0) : Met l yX5_read wsX5_read ({ frames := 4, cells := 0, slots := 0, locals := 98 }) (va_Pc [.ref (gd 0), .int (v0), .int (v1)] (zM D cA (ws) sz)) (va_Qi (fun (r : Int32) (u : va_W) => mKeep ws u ∧ mL cA u gd n tr le sl mo la fc sf bf nd mk ck ct hd pf nj jt jf dl fin my fls fod fle fro (kR (ix v0 nd) hd (fun t => ix v1 (fc t)) (fun j => decide (ct j < 12)))) (fun u => zB D (va_A (ws) sz) (u)) (va_A (ws) sz)) 0 0 (va_A (ws) sz) := by
  refine zOpen (cc := cX5_read) (maxL := 5) (ret := (some .int)) (own := RX5) (by decide) rfl rfl (Nat.le_of_ble_eq_true rfl) ?_
  intro p e s m below meth c ls hx hb hr hml hts hown hlocks hnm ⟨hZ, hP, hD0, hsz⟩ hl
  subst hsz
  have hD := hD0.self (sz := s.heap.size)
  generalize hAe : va_A (ws) s.heap.size = A at hD ⊢
  have hA : ∀ q : Nat, s.heap.size ≤ q → A q := fun q h => by rw [← hAe]; exact Or.inr h
  have hS : va_S A s.heap s.heap [] := va_S.rf
  have iX5 : ∀ w ∈ wsX50, w ∈ wsX5_read := by decide +kernel
  have hl : lv_has ls 5 [(0, .ref (gd 0)), (1, .int (v0)), (2, .int (v1))] := hl
  have hm0 := hm
  have hI0 := hI
  have hM0 := hM
  obtain ⟨hn8, hd3, hj60, hIT, hID, hIJ, hIdl, hIw⟩ := hI
  obtain ⟨hM1, hM2, hM3, hM4, hM5, hM6, hM7⟩ := hM
  obtain ⟨m0, m1, m2, m3, m4, m5, m6, m7, m8, m9, m10, m11, m12, m13, m14, m15, m16, m17, m18, m19, m20, m21⟩ := hm
  have hfc10 : ∀ i, i < n → fc i ≤ 10 := fun i hi => (hIT i hi).2.2.2.2.2.2.1
  have hsl12 : ∀ i, i < n → sl i < 12 := fun i hi => (hIT i hi).2.2.2.2.1
  have hH8 : ∀ j, j < nd → ∀ t, hd j = some t → t < 8 := fun j hj t h => by have := ((hID j hj).2.2.2 t h).1; omega
  have hmo3 : ∀ i, i < n → ∀ j, mo i = some j → j < nd := fun i hi j h => ((hIT i hi).2.2.2.2.2.1 j h).1
  have hfw : ∀ k, k < nj → fw k = if fin k then -1 else jt k := fun k hk => (hM5 k hk).1
  rcases kR_no h0 with ⟨ho, hK⟩ | ⟨j, ho, hht, hK⟩ | ⟨j, t, ho, hht, hq, hK⟩ | ⟨j, t, f, ho, hht, hq, hc, hK⟩
  · refine lv_aload_n hx hb dX5_read_0 rfl (lv_at hl 0 rfl) ?_
    refine lv_iload_n hx hb dX5_read_1 rfl (lv_at hl 1 rfl) ?_
    refine zk_V_i (n := 1) (As := [.int (v0)]) (rest := []) hx hb hml hts hown hZ hP (c_X5_hasTape l D cA _ hm0 hd3 hH8 v0) gX5_read_X5_hasTape rfl rfl ⟨rfl, rfl⟩ ⟨by decide +kernel, Nat.le_of_ble_eq_true rfl, Nat.le_of_ble_eq_true rfl⟩ m0 rfl hl.1 rfl (Nat.le_of_ble_eq_true rfl) ⟨Nat.le_of_ble_eq_true rfl, Nat.le_of_ble_eq_true rfl⟩ rfl dX5_read_2 (fun r_1 hr_2 => ?_)
    obtain rfl := show r_1 = _ from hr_2
    refine zx_val (y := bI (false)) (by rw [ho]; rfl) ?_
    refine lv_istore_n (lv' := [(3, .int (bI (false))), (0, .ref (gd 0)), (1, .int (v0)), (2, .int (v1))]) hx hb dX5_read_5 rfl hl (by decide) rfl (fun ls hl => ?_)
    refine lv_aload_n hx hb dX5_read_6 rfl (lv_at hl 1 rfl) ?_
    refine lv_aload_n hx hb dX5_read_7 rfl (lv_at hl 1 rfl) ?_
    refine lv_iload_n hx hb dX5_read_8 rfl (lv_at hl 2 rfl) ?_
    refine zk_V_i (n := 1) (As := [.int (v0)]) (rest := [.ref (gd 0)]) hx hb hml hts hown hZ hP (c_X5_isDrive l D cA _ hm0 (by omega) v0) gX5_read_X5_isDrive rfl rfl ⟨rfl, rfl⟩ ⟨by decide +kernel, Nat.le_of_ble_eq_true rfl, Nat.le_of_ble_eq_true rfl⟩ m0 rfl hl.1 rfl (Nat.le_of_ble_eq_true rfl) ⟨Nat.le_of_ble_eq_true rfl, Nat.le_of_ble_eq_true rfl⟩ rfl dX5_read_9 (fun r_3 hr_4 => ?_)
    obtain rfl := show r_3 = _ from hr_4
    refine zx_val (y := bI (false)) (by rw [ho]; rfl) ?_
    refine zb_eq (tgt := 37) hx hb dX5_read_12 (by decide) (fun c_5 => ?_) (fun c_5 => Bool.noConfusion c_5)
    refine lv_iconst (v := nI (0)) hx hb dX5_read_37 (by decide) ?_
    refine lv_iload_n hx hb dX5_read_38 rfl (lv_at hl 0 rfl) ?_
    refine zb_eq (tgt := 54) hx hb dX5_read_39 (by decide) (fun c_6 => ?_) (fun c_6 => Bool.noConfusion c_6)
    refine lv_iconst (v := nI (0)) hx hb dX5_read_54 (by decide) ?_
    refine zw_V_i (n := 2) (mc := 0) (ms := 0) (As := [.int (bI (false)), .int (bI (false))]) (rest := []) (w1 := fun u : Unit => ws.set 0 (gd 0, zMod gd n nd nj my 1)) hx hb hml hts hown hZ hP hD hS hA (c_X5_mayBoth l D cA _ _ gd n nd nj my th false false (m0)) gX5_read_X5_mayBoth rfl rfl ⟨rfl, rfl⟩ ⟨by decide +kernel, Nat.le_of_ble_eq_true rfl, Nat.le_of_ble_eq_true rfl⟩ m0 rfl hl.1 rfl (Nat.le_of_ble_eq_true rfl) ⟨Nat.le_of_ble_eq_true rfl, Nat.le_of_ble_eq_true rfl⟩ rfl dX5_read_55 (fun r_7 u_9 H locs hr_8 hP hD hS hz_9 => ?_)
    obtain rfl := show r_7 = _ from hr_8
    have hP : va_P D vwCl (ws.set 0 (gd 0, zMod gd n nd nj my 1)) H := hP
    have hD : va_D A (ws.set 0 (gd 0, zMod gd n nd nj my 1)) := hD
    refine zb_ne (tgt := 63) hx hb dX5_read_58 (by decide) (fun c_10 => Bool.noConfusion c_10) (fun c_10 => ?_)
    refine lv_iconst (v := nI (0)) hx hb dX5_read_61 (by decide) ?_
    exact zr_qi (S := va_W) (w1 := fun u => u) (ws.set 0 (gd 0, zMod gd n nd nj my 1)) hx hb hr hlocks (⟨(mKeep_set mKeep_rf (by decide)), (by rw [hK]; exact (mL_0 hm0 n nd nj my 1))⟩) hP hD hS (rfl) dX5_read_62
  · obtain ⟨hjn, rfl⟩ := ix_some ho
    have hl : lv_has ls 5 [(0, .ref (gd 0)), (1, .int (nI (j))), (2, .int (v1))] := hl
    refine lv_aload_n hx hb dX5_read_0 rfl (lv_at hl 0 rfl) ?_
    refine lv_iload_n hx hb dX5_read_1 rfl (lv_at hl 1 rfl) ?_
    refine zk_V_i (n := 1) (As := [.int (nI (j))]) (rest := []) hx hb hml hts hown hZ hP (c_X5_hasTape l D cA _ hm0 hd3 hH8 (nI (j))) gX5_read_X5_hasTape rfl rfl ⟨rfl, rfl⟩ ⟨by decide +kernel, Nat.le_of_ble_eq_true rfl, Nat.le_of_ble_eq_true rfl⟩ m0 rfl hl.1 rfl (Nat.le_of_ble_eq_true rfl) ⟨Nat.le_of_ble_eq_true rfl, Nat.le_of_ble_eq_true rfl⟩ rfl dX5_read_2 (fun r_11 hr_12 => ?_)
    obtain rfl := show r_11 = _ from hr_12
    refine zx_val (y := bI (false)) (by rw [ix_in (by omega) hjn]; show bI (hd j).isSome = _; rw [hht]; rfl) ?_
    refine lv_istore_n (lv' := [(3, .int (bI (false))), (0, .ref (gd 0)), (1, .int (nI (j))), (2, .int (v1))]) hx hb dX5_read_5 rfl hl (by decide) rfl (fun ls hl => ?_)
    refine lv_aload_n hx hb dX5_read_6 rfl (lv_at hl 1 rfl) ?_
    refine lv_aload_n hx hb dX5_read_7 rfl (lv_at hl 1 rfl) ?_
    refine lv_iload_n hx hb dX5_read_8 rfl (lv_at hl 2 rfl) ?_
    refine zk_V_i (n := 1) (As := [.int (nI (j))]) (rest := [.ref (gd 0)]) hx hb hml hts hown hZ hP (c_X5_isDrive l D cA _ hm0 (by omega) (nI (j))) gX5_read_X5_isDrive rfl rfl ⟨rfl, rfl⟩ ⟨by decide +kernel, Nat.le_of_ble_eq_true rfl, Nat.le_of_ble_eq_true rfl⟩ m0 rfl hl.1 rfl (Nat.le_of_ble_eq_true rfl) ⟨Nat.le_of_ble_eq_true rfl, Nat.le_of_ble_eq_true rfl⟩ rfl dX5_read_9 (fun r_13 hr_14 => ?_)
    obtain rfl := show r_13 = _ from hr_14
    refine zx_val (y := bI (true)) (by rw [ix_in (by omega) hjn]; rfl) ?_
    refine zb_eq (tgt := 37) hx hb dX5_read_12 (by decide) (fun c_15 => Bool.noConfusion c_15) (fun c_15 => ?_)
    refine lv_iload_n hx hb dX5_read_15 rfl (lv_at hl 0 rfl) ?_
    refine zb_eq (tgt := 33) hx hb dX5_read_16 (by decide) (fun c_16 => ?_) (fun c_16 => Bool.noConfusion c_16)
    refine lv_iconst (v := nI (1)) hx hb dX5_read_33 (by decide) ?_
    refine lv_goto (tgt := 38) hx hb dX5_read_34 (by decide) ?_
    refine lv_iload_n hx hb dX5_read_38 rfl (lv_at hl 0 rfl) ?_
    refine zb_eq (tgt := 54) hx hb dX5_read_39 (by decide) (fun c_17 => ?_) (fun c_17 => Bool.noConfusion c_17)
    refine lv_iconst (v := nI (0)) hx hb dX5_read_54 (by decide) ?_
    refine zw_V_i (n := 2) (mc := 0) (ms := 0) (As := [.int (bI (true)), .int (bI (false))]) (rest := []) (w1 := fun u : Unit => ws.set 0 (gd 0, zMod gd n nd nj my 2)) hx hb hml hts hown hZ hP hD hS hA (c_X5_mayBoth l D cA _ _ gd n nd nj my th true false (m0)) gX5_read_X5_mayBoth rfl rfl ⟨rfl, rfl⟩ ⟨by decide +kernel, Nat.le_of_ble_eq_true rfl, Nat.le_of_ble_eq_true rfl⟩ m0 rfl hl.1 rfl (Nat.le_of_ble_eq_true rfl) ⟨Nat.le_of_ble_eq_true rfl, Nat.le_of_ble_eq_true rfl⟩ rfl dX5_read_55 (fun r_18 u_20 H locs hr_19 hP hD hS hz_20 => ?_)
    obtain rfl := show r_18 = _ from hr_19
    have hP : va_P D vwCl (ws.set 0 (gd 0, zMod gd n nd nj my 2)) H := hP
    have hD : va_D A (ws.set 0 (gd 0, zMod gd n nd nj my 2)) := hD
    refine zb_ne (tgt := 63) hx hb dX5_read_58 (by decide) (fun c_21 => Bool.noConfusion c_21) (fun c_21 => ?_)
    refine lv_iconst (v := nI (0)) hx hb dX5_read_61 (by decide) ?_
    exact zr_qi (S := va_W) (w1 := fun u => u) (ws.set 0 (gd 0, zMod gd n nd nj my 2)) hx hb hr hlocks (⟨(mKeep_set mKeep_rf (by decide)), (by rw [hK]; exact (mL_0 hm0 n nd nj my 2))⟩) hP hD hS (rfl) dX5_read_62
  · obtain ⟨hjn, rfl⟩ := ix_some ho
    obtain ⟨htn, -⟩ := (hID j hjn).2.2.2 t hht
    have hfc10t := hfc10 t htn
    obtain ⟨htr1, htr8, hle4, hle200, -, -, -, hbo0, hbinc, hbtop⟩ := hIT t htn
    have hct11 := (hID j hjn).2.1
    have hmul : tr t * le t ≤ 8 * 200 := Nat.mul_le_mul htr8 hle200
    have hl : lv_has ls 5 [(0, .ref (gd 0)), (1, .int (nI (j))), (2, .int (v1))] := hl
    refine lv_aload_n hx hb dX5_read_0 rfl (lv_at hl 0 rfl) ?_
    refine lv_iload_n hx hb dX5_read_1 rfl (lv_at hl 1 rfl) ?_
    refine zk_V_i (n := 1) (As := [.int (nI (j))]) (rest := []) hx hb hml hts hown hZ hP (c_X5_hasTape l D cA _ hm0 hd3 hH8 (nI (j))) gX5_read_X5_hasTape rfl rfl ⟨rfl, rfl⟩ ⟨by decide +kernel, Nat.le_of_ble_eq_true rfl, Nat.le_of_ble_eq_true rfl⟩ m0 rfl hl.1 rfl (Nat.le_of_ble_eq_true rfl) ⟨Nat.le_of_ble_eq_true rfl, Nat.le_of_ble_eq_true rfl⟩ rfl dX5_read_2 (fun r_22 hr_23 => ?_)
    obtain rfl := show r_22 = _ from hr_23
    refine zx_val (y := bI (true)) (by rw [ix_in (by omega) hjn]; show bI (hd j).isSome = _; rw [hht]; rfl) ?_
    refine lv_istore_n (lv' := [(3, .int (bI (true))), (0, .ref (gd 0)), (1, .int (nI (j))), (2, .int (v1))]) hx hb dX5_read_5 rfl hl (by decide) rfl (fun ls hl => ?_)
    refine lv_aload_n hx hb dX5_read_6 rfl (lv_at hl 1 rfl) ?_
    refine lv_aload_n hx hb dX5_read_7 rfl (lv_at hl 1 rfl) ?_
    refine lv_iload_n hx hb dX5_read_8 rfl (lv_at hl 2 rfl) ?_
    refine zk_V_i (n := 1) (As := [.int (nI (j))]) (rest := [.ref (gd 0)]) hx hb hml hts hown hZ hP (c_X5_isDrive l D cA _ hm0 (by omega) (nI (j))) gX5_read_X5_isDrive rfl rfl ⟨rfl, rfl⟩ ⟨by decide +kernel, Nat.le_of_ble_eq_true rfl, Nat.le_of_ble_eq_true rfl⟩ m0 rfl hl.1 rfl (Nat.le_of_ble_eq_true rfl) ⟨Nat.le_of_ble_eq_true rfl, Nat.le_of_ble_eq_true rfl⟩ rfl dX5_read_9 (fun r_24 hr_25 => ?_)
    obtain rfl := show r_24 = _ from hr_25
    refine zx_val (y := bI (true)) (by rw [ix_in (by omega) hjn]; rfl) ?_
    refine zb_eq (tgt := 37) hx hb dX5_read_12 (by decide) (fun c_26 => Bool.noConfusion c_26) (fun c_26 => ?_)
    refine lv_iload_n hx hb dX5_read_15 rfl (lv_at hl 0 rfl) ?_
    refine zb_eq (tgt := 33) hx hb dX5_read_16 (by decide) (fun c_27 => Bool.noConfusion c_27) (fun c_27 => ?_)
    refine lv_aload_n hx hb dX5_read_19 rfl (lv_at hl 1 rfl) ?_
    refine lv_aload_n hx hb dX5_read_20 rfl (lv_at hl 1 rfl) ?_
    refine va_get (D := D) (ci := 5) (v := .ref (gd 12)) (C := RX5) (T := TX5) (N := 26) hx hb hts iX5 hown hZ.1 hP 0 m0 rfl 13 (by decide) (hts (.fieldLink RX5 44 "TapeRoboticsModel" "held" "[I") (by decide +kernel)) (fun _ h9 => h9) rfl dX5_read_21 ?_
    refine lv_iload_n hx hb dX5_read_24 rfl (lv_at hl 2 rfl) ?_
    refine va_iald hx hb hZ.1 hP 12 0 m12 rfl (vp_in_nI (show j < 3 by omega) (by omega)) dX5_read_25 ?_
    rw [nI_clamp (show j < 2 ^ 31 by omega)]
    refine zx_val (y := nI (t)) (by rw [hht]; rfl) ?_
    refine lv_iload_n hx hb dX5_read_26 rfl (lv_at hl 3 rfl) ?_
    refine zk_V_i (n := 2) (As := [.int (nI (t)), .int (v1)]) (rest := [.ref (gd 0)]) hx hb hml hts hown hZ hP (c_X5_isFile l D cA _ hm0 hn8 hfc10 (nI (t)) v1) gX5_read_X5_isFile rfl rfl ⟨rfl, rfl⟩ ⟨by decide +kernel, Nat.le_of_ble_eq_true rfl, Nat.le_of_ble_eq_true rfl⟩ m0 rfl hl.1 rfl (Nat.le_of_ble_eq_true rfl) ⟨Nat.le_of_ble_eq_true rfl, Nat.le_of_ble_eq_true rfl⟩ rfl dX5_read_27 (fun r_28 hr_29 => ?_)
    obtain rfl := show r_28 = _ from hr_29
    refine zx_val (y := bI (false)) (by rw [ix_in (by omega) htn]; show bI (ix v1 (fc t)).isSome = _; rw [hq]; rfl) ?_
    refine zb_eq (tgt := 37) hx hb dX5_read_30 (by decide) (fun c_30 => ?_) (fun c_30 => Bool.noConfusion c_30)
    refine lv_iconst (v := nI (0)) hx hb dX5_read_37 (by decide) ?_
    refine lv_iload_n hx hb dX5_read_38 rfl (lv_at hl 0 rfl) ?_
    refine zb_eq (tgt := 54) hx hb dX5_read_39 (by decide) (fun c_31 => Bool.noConfusion c_31) (fun c_31 => ?_)
    refine lv_aload_n hx hb dX5_read_42 rfl (lv_at hl 1 rfl) ?_
    refine lv_iload_n hx hb dX5_read_43 rfl (lv_at hl 2 rfl) ?_
    refine zk_V_i (n := 1) (As := [.int (nI (j))]) (rest := [.int (nI (0)), .ref (gd 0)]) hx hb hml hts hown hZ hP (c_X5_isClean l D cA _ hm0 j (by omega) (by first | omega | (dsimp only; omega))) gX5_read_X5_isClean rfl rfl ⟨rfl, rfl⟩ ⟨by decide +kernel, Nat.le_of_ble_eq_true rfl, Nat.le_of_ble_eq_true rfl⟩ m0 rfl hl.1 rfl (Nat.le_of_ble_eq_true rfl) ⟨Nat.le_of_ble_eq_true rfl, Nat.le_of_ble_eq_true rfl⟩ rfl dX5_read_44 (fun r_32 hr_33 => ?_)
    obtain rfl := show r_32 = _ from hr_33
    refine zb_eq (tgt := 54) hx hb dX5_read_47 (by decide) (fun c_34 => ?_) (fun c_34 => ?_)
    · refine lv_iconst (v := nI (0)) hx hb dX5_read_54 (by decide) ?_
      refine zw_V_i (n := 2) (mc := 0) (ms := 0) (As := [.int (bI (false)), .int (bI (false))]) (rest := []) (w1 := fun u : Unit => ws.set 0 (gd 0, zMod gd n nd nj my 1)) hx hb hml hts hown hZ hP hD hS hA (c_X5_mayBoth l D cA _ _ gd n nd nj my th false false (m0)) gX5_read_X5_mayBoth rfl rfl ⟨rfl, rfl⟩ ⟨by decide +kernel, Nat.le_of_ble_eq_true rfl, Nat.le_of_ble_eq_true rfl⟩ m0 rfl hl.1 rfl (Nat.le_of_ble_eq_true rfl) ⟨Nat.le_of_ble_eq_true rfl, Nat.le_of_ble_eq_true rfl⟩ rfl dX5_read_55 (fun r_35 u_37 H locs hr_36 hP hD hS hz_37 => ?_)
      obtain rfl := show r_35 = _ from hr_36
      have hP : va_P D vwCl (ws.set 0 (gd 0, zMod gd n nd nj my 1)) H := hP
      have hD : va_D A (ws.set 0 (gd 0, zMod gd n nd nj my 1)) := hD
      refine zb_ne (tgt := 63) hx hb dX5_read_58 (by decide) (fun c_38 => Bool.noConfusion c_38) (fun c_38 => ?_)
      refine lv_iconst (v := nI (0)) hx hb dX5_read_61 (by decide) ?_
      exact zr_qi (S := va_W) (w1 := fun u => u) (ws.set 0 (gd 0, zMod gd n nd nj my 1)) hx hb hr hlocks (⟨(mKeep_set mKeep_rf (by decide)), (by rw [hK]; exact (mL_0 hm0 n nd nj my 1))⟩) hP hD hS (rfl) dX5_read_62
    · refine lv_iconst (v := nI (1)) hx hb dX5_read_50 (by decide) ?_
      refine lv_goto (tgt := 55) hx hb dX5_read_51 (by decide) ?_
      refine zw_V_i (n := 2) (mc := 0) (ms := 0) (As := [.int (bI (false)), .int (bI (true))]) (rest := []) (w1 := fun u : Unit => ws.set 0 (gd 0, zMod gd n nd nj my 1)) hx hb hml hts hown hZ hP hD hS hA (c_X5_mayBoth l D cA _ _ gd n nd nj my th false true (m0)) gX5_read_X5_mayBoth rfl rfl ⟨rfl, rfl⟩ ⟨by decide +kernel, Nat.le_of_ble_eq_true rfl, Nat.le_of_ble_eq_true rfl⟩ m0 rfl hl.1 rfl (Nat.le_of_ble_eq_true rfl) ⟨Nat.le_of_ble_eq_true rfl, Nat.le_of_ble_eq_true rfl⟩ rfl dX5_read_55 (fun r_39 u_41 H locs hr_40 hP hD hS hz_41 => ?_)
      obtain rfl := show r_39 = _ from hr_40
      have hP : va_P D vwCl (ws.set 0 (gd 0, zMod gd n nd nj my 1)) H := hP
      have hD : va_D A (ws.set 0 (gd 0, zMod gd n nd nj my 1)) := hD
      refine zb_ne (tgt := 63) hx hb dX5_read_58 (by decide) (fun c_42 => Bool.noConfusion c_42) (fun c_42 => ?_)
      refine lv_iconst (v := nI (0)) hx hb dX5_read_61 (by decide) ?_
      exact zr_qi (S := va_W) (w1 := fun u => u) (ws.set 0 (gd 0, zMod gd n nd nj my 1)) hx hb hr hlocks (⟨(mKeep_set mKeep_rf (by decide)), (by rw [hK]; exact (mL_0 hm0 n nd nj my 1))⟩) hP hD hS (rfl) dX5_read_62
  · obtain ⟨hjn, rfl⟩ := ix_some ho
    obtain ⟨hfn, rfl⟩ := ix_some hq
    obtain ⟨htn, -⟩ := (hID j hjn).2.2.2 t hht
    have hfc10t := hfc10 t htn
    obtain ⟨htr1, htr8, hle4, hle200, -, -, -, hbo0, hbinc, hbtop⟩ := hIT t htn
    have hct11 := (hID j hjn).2.1
    have hmul : tr t * le t ≤ 8 * 200 := Nat.mul_le_mul htr8 hle200
    have hl : lv_has ls 5 [(0, .ref (gd 0)), (1, .int (nI (j))), (2, .int (nI (f)))] := hl
    refine lv_aload_n hx hb dX5_read_0 rfl (lv_at hl 0 rfl) ?_
    refine lv_iload_n hx hb dX5_read_1 rfl (lv_at hl 1 rfl) ?_
    refine zk_V_i (n := 1) (As := [.int (nI (j))]) (rest := []) hx hb hml hts hown hZ hP (c_X5_hasTape l D cA _ hm0 hd3 hH8 (nI (j))) gX5_read_X5_hasTape rfl rfl ⟨rfl, rfl⟩ ⟨by decide +kernel, Nat.le_of_ble_eq_true rfl, Nat.le_of_ble_eq_true rfl⟩ m0 rfl hl.1 rfl (Nat.le_of_ble_eq_true rfl) ⟨Nat.le_of_ble_eq_true rfl, Nat.le_of_ble_eq_true rfl⟩ rfl dX5_read_2 (fun r_43 hr_44 => ?_)
    obtain rfl := show r_43 = _ from hr_44
    refine zx_val (y := bI (true)) (by rw [ix_in (by omega) hjn]; show bI (hd j).isSome = _; rw [hht]; rfl) ?_
    refine lv_istore_n (lv' := [(3, .int (bI (true))), (0, .ref (gd 0)), (1, .int (nI (j))), (2, .int (nI (f)))]) hx hb dX5_read_5 rfl hl (by decide) rfl (fun ls hl => ?_)
    refine lv_aload_n hx hb dX5_read_6 rfl (lv_at hl 1 rfl) ?_
    refine lv_aload_n hx hb dX5_read_7 rfl (lv_at hl 1 rfl) ?_
    refine lv_iload_n hx hb dX5_read_8 rfl (lv_at hl 2 rfl) ?_
    refine zk_V_i (n := 1) (As := [.int (nI (j))]) (rest := [.ref (gd 0)]) hx hb hml hts hown hZ hP (c_X5_isDrive l D cA _ hm0 (by omega) (nI (j))) gX5_read_X5_isDrive rfl rfl ⟨rfl, rfl⟩ ⟨by decide +kernel, Nat.le_of_ble_eq_true rfl, Nat.le_of_ble_eq_true rfl⟩ m0 rfl hl.1 rfl (Nat.le_of_ble_eq_true rfl) ⟨Nat.le_of_ble_eq_true rfl, Nat.le_of_ble_eq_true rfl⟩ rfl dX5_read_9 (fun r_45 hr_46 => ?_)
    obtain rfl := show r_45 = _ from hr_46
    refine zx_val (y := bI (true)) (by rw [ix_in (by omega) hjn]; rfl) ?_
    refine zb_eq (tgt := 37) hx hb dX5_read_12 (by decide) (fun c_47 => Bool.noConfusion c_47) (fun c_47 => ?_)
    refine lv_iload_n hx hb dX5_read_15 rfl (lv_at hl 0 rfl) ?_
    refine zb_eq (tgt := 33) hx hb dX5_read_16 (by decide) (fun c_48 => Bool.noConfusion c_48) (fun c_48 => ?_)
    refine lv_aload_n hx hb dX5_read_19 rfl (lv_at hl 1 rfl) ?_
    refine lv_aload_n hx hb dX5_read_20 rfl (lv_at hl 1 rfl) ?_
    refine va_get (D := D) (ci := 5) (v := .ref (gd 12)) (C := RX5) (T := TX5) (N := 26) hx hb hts iX5 hown hZ.1 hP 0 m0 rfl 13 (by decide) (hts (.fieldLink RX5 44 "TapeRoboticsModel" "held" "[I") (by decide +kernel)) (fun _ h9 => h9) rfl dX5_read_21 ?_
    refine lv_iload_n hx hb dX5_read_24 rfl (lv_at hl 2 rfl) ?_
    refine va_iald hx hb hZ.1 hP 12 0 m12 rfl (vp_in_nI (show j < 3 by omega) (by omega)) dX5_read_25 ?_
    rw [nI_clamp (show j < 2 ^ 31 by omega)]
    refine zx_val (y := nI (t)) (by rw [hht]; rfl) ?_
    refine lv_iload_n hx hb dX5_read_26 rfl (lv_at hl 3 rfl) ?_
    refine zk_V_i (n := 2) (As := [.int (nI (t)), .int (nI (f))]) (rest := [.ref (gd 0)]) hx hb hml hts hown hZ hP (c_X5_isFile l D cA _ hm0 hn8 hfc10 (nI (t)) (nI (f))) gX5_read_X5_isFile rfl rfl ⟨rfl, rfl⟩ ⟨by decide +kernel, Nat.le_of_ble_eq_true rfl, Nat.le_of_ble_eq_true rfl⟩ m0 rfl hl.1 rfl (Nat.le_of_ble_eq_true rfl) ⟨Nat.le_of_ble_eq_true rfl, Nat.le_of_ble_eq_true rfl⟩ rfl dX5_read_27 (fun r_49 hr_50 => ?_)
    obtain rfl := show r_49 = _ from hr_50
    refine zx_val (y := bI (true)) (by rw [ix_in (by omega) htn]; show bI (ix (nI f) (fc t)).isSome = _; rw [hq]; rfl) ?_
    refine zb_eq (tgt := 37) hx hb dX5_read_30 (by decide) (fun c_51 => Bool.noConfusion c_51) (fun c_51 => ?_)
    refine lv_iconst (v := nI (1)) hx hb dX5_read_33 (by decide) ?_
    refine lv_goto (tgt := 38) hx hb dX5_read_34 (by decide) ?_
    refine lv_iload_n hx hb dX5_read_38 rfl (lv_at hl 0 rfl) ?_
    refine zb_eq (tgt := 54) hx hb dX5_read_39 (by decide) (fun c_52 => Bool.noConfusion c_52) (fun c_52 => ?_)
    refine lv_aload_n hx hb dX5_read_42 rfl (lv_at hl 1 rfl) ?_
    refine lv_iload_n hx hb dX5_read_43 rfl (lv_at hl 2 rfl) ?_
    refine zk_V_i (n := 1) (As := [.int (nI (j))]) (rest := [.int (nI (1)), .ref (gd 0)]) hx hb hml hts hown hZ hP (c_X5_isClean l D cA _ hm0 j (by omega) (by first | omega | (dsimp only; omega))) gX5_read_X5_isClean rfl rfl ⟨rfl, rfl⟩ ⟨by decide +kernel, Nat.le_of_ble_eq_true rfl, Nat.le_of_ble_eq_true rfl⟩ m0 rfl hl.1 rfl (Nat.le_of_ble_eq_true rfl) ⟨Nat.le_of_ble_eq_true rfl, Nat.le_of_ble_eq_true rfl⟩ rfl dX5_read_44 (fun r_53 hr_54 => ?_)
    obtain rfl := show r_53 = _ from hr_54
    refine zx_val (y := bI (false)) (by rw [hc]) ?_
    refine zb_eq (tgt := 54) hx hb dX5_read_47 (by decide) (fun c_55 => ?_) (fun c_55 => Bool.noConfusion c_55)
    refine lv_iconst (v := nI (0)) hx hb dX5_read_54 (by decide) ?_
    refine zw_V_i (n := 2) (mc := 0) (ms := 0) (As := [.int (bI (true)), .int (bI (false))]) (rest := []) (w1 := fun u : Unit => ws.set 0 (gd 0, zMod gd n nd nj my 2)) hx hb hml hts hown hZ hP hD hS hA (c_X5_mayBoth l D cA _ _ gd n nd nj my th true false (m0)) gX5_read_X5_mayBoth rfl rfl ⟨rfl, rfl⟩ ⟨by decide +kernel, Nat.le_of_ble_eq_true rfl, Nat.le_of_ble_eq_true rfl⟩ m0 rfl hl.1 rfl (Nat.le_of_ble_eq_true rfl) ⟨Nat.le_of_ble_eq_true rfl, Nat.le_of_ble_eq_true rfl⟩ rfl dX5_read_55 (fun r_56 u_58 H locs hr_57 hP hD hS hz_58 => ?_)
    obtain rfl := show r_56 = _ from hr_57
    have hP : va_P D vwCl (ws.set 0 (gd 0, zMod gd n nd nj my 2)) H := hP
    have hD : va_D A (ws.set 0 (gd 0, zMod gd n nd nj my 2)) := hD
    refine zb_ne (tgt := 63) hx hb dX5_read_58 (by decide) (fun c_59 => Bool.noConfusion c_59) (fun c_59 => ?_)
    refine lv_iconst (v := nI (0)) hx hb dX5_read_61 (by decide) ?_
    exact zr_qi (S := va_W) (w1 := fun u => u) (ws.set 0 (gd 0, zMod gd n nd nj my 2)) hx hb hr hlocks (⟨(mKeep_set mKeep_rf (by decide)), (by rw [hK]; exact (mL_0 hm0 n nd nj my 2))⟩) hP hD hS (rfl) dX5_read_62

set_option maxHeartbeats 4000000 in
set_option maxRecDepth 100000 in
theorem c_X5_job_ok (l : Launch) (D : va_G) (cA : Nat → ClassId) (sz : Nat) (ws : va_W) {gd : Nat → Nat} {n : Nat} {tr : Nat → Nat} {le : Nat → Nat} {sl : Nat → Nat} {mo : Nat → Option Nat} {la : Nat → Bool} {fc : Nat → Nat} {sf : Nat → Int32} {bf : Nat → Int32} {nd : Nat} {mk : Nat → Nat} {ck : Nat → Int32} {ct : Nat → Nat} {hd : Nat → Option Nat} {pf : Nat → Int32} {nj : Nat} {jt : Nat → Int32} {jf : Nat → Nat} {dl : Nat → Nat} {fin : Nat → Bool} {my : Nat} {fls : Nat → Int32} {fod : Nat → Int32} {fle : Nat → Int32} {fro : Nat → Int32} {th : Nat} {bo : Nat → Nat → Nat} {pq : Nat → Int32} {fw : Nat → Int32} {dn : Nat} (hm : mL cA ws gd n tr le sl mo la fc sf bf nd mk ck ct hd pf nj jt jf dl fin my fls fod fle fro th) (hI : zI n tr le sl mo fc bo nd mk ct hd pq nj fw jf dl) (hM : mI n la fc bo nd ck ct hd pq pf nj fw jt fin sf bf dn) (t f d : Nat) (htn : t < n) (hfn : f < fc t) (hd9 : d ≤ 99999) (hnj : nj < 60) (hw7 : (wl fw (nI t) nj).length < 7) : Met l yX5_job wsX5_job ({ frames := 3, cells := 0, slots := 0, locals := 65 }) (va_Pc [.ref (gd 0), .int (nI (t)), .int (nI (f)), .int (nI (d))] (zM D cA (ws) sz)) (va_Qi (fun (r : Int32) (u : va_W) => r = nI nj ∧ mKeep ws u ∧ mL cA u gd n tr le sl mo la fc sf bf nd mk ck ct hd pf (nj + 1) (va_up jt nj (nI t)) (va_up jf nj f) (va_up dl nj d) fin my fls fod fle fro 0) (fun u => zB D (va_A (ws) sz) (u)) (va_A (ws) sz)) 0 0 (va_A (ws) sz) := by
  refine zOpen (cc := cX5_job) (maxL := 5) (ret := (some .int)) (own := RX5) (by decide) rfl rfl (Nat.le_of_ble_eq_true rfl) ?_
  intro p e s m below meth c ls hx hb hr hml hts hown hlocks hnm ⟨hZ, hP, hD0, hsz⟩ hl
  subst hsz
  have hD := hD0.self (sz := s.heap.size)
  generalize hAe : va_A (ws) s.heap.size = A at hD ⊢
  have hA : ∀ q : Nat, s.heap.size ≤ q → A q := fun q h => by rw [← hAe]; exact Or.inr h
  have hS : va_S A s.heap s.heap [] := va_S.rf
  have iX5 : ∀ w ∈ wsX50, w ∈ wsX5_job := by decide +kernel
  have hl : lv_has ls 5 [(0, .ref (gd 0)), (1, .int (nI (t))), (2, .int (nI (f))), (3, .int (nI (d)))] := hl
  have hm0 := hm
  have hI0 := hI
  have hM0 := hM
  obtain ⟨hn8, hd3, hj60, hIT, hID, hIJ, hIdl, hIw⟩ := hI
  obtain ⟨hM1, hM2, hM3, hM4, hM5, hM6, hM7⟩ := hM
  obtain ⟨m0, m1, m2, m3, m4, m5, m6, m7, m8, m9, m10, m11, m12, m13, m14, m15, m16, m17, m18, m19, m20, m21⟩ := hm
  have hfc10 : ∀ i, i < n → fc i ≤ 10 := fun i hi => (hIT i hi).2.2.2.2.2.2.1
  have hsl12 : ∀ i, i < n → sl i < 12 := fun i hi => (hIT i hi).2.2.2.2.1
  have hH8 : ∀ j, j < nd → ∀ t, hd j = some t → t < 8 := fun j hj t h => by have := ((hID j hj).2.2.2 t h).1; omega
  have hmo3 : ∀ i, i < n → ∀ j, mo i = some j → j < nd := fun i hi j h => ((hIT i hi).2.2.2.2.2.1 j h).1
  have hfw : ∀ k, k < nj → fw k = if fin k then -1 else jt k := fun k hk => (hM5 k hk).1
  have hfx := hfc10 t htn
  refine lv_aload_n hx hb dX5_job_0 rfl (lv_at hl 0 rfl) ?_
  refine lv_iload_n hx hb dX5_job_1 rfl (lv_at hl 1 rfl) ?_
  refine lv_iload_n hx hb dX5_job_2 rfl (lv_at hl 2 rfl) ?_
  refine zk_V_i (n := 2) (As := [.int (nI (t)), .int (nI (f))]) (rest := []) hx hb hml hts hown hZ hP (c_X5_isFile l D cA _ hm0 hn8 hfc10 (nI (t)) (nI (f))) gX5_job_X5_isFile rfl rfl ⟨rfl, rfl⟩ ⟨by decide +kernel, Nat.le_of_ble_eq_true rfl, Nat.le_of_ble_eq_true rfl⟩ m0 rfl hl.1 rfl (Nat.le_of_ble_eq_true rfl) ⟨Nat.le_of_ble_eq_true rfl, Nat.le_of_ble_eq_true rfl⟩ rfl dX5_job_3 (fun r_1 hr_2 => ?_)
  obtain rfl := show r_1 = _ from hr_2
  refine zx_val (y := bI (true)) (by rw [ix_in (by omega) htn]; show bI (ix (nI f) (fc t)).isSome = _; rw [ix_in (by omega) hfn]; rfl) ?_
  refine lv_istore (lv' := [(4, .int (bI (true))), (0, .ref (gd 0)), (1, .int (nI (t))), (2, .int (nI (f))), (3, .int (nI (d)))]) hx hb dX5_job_6 hl (by decide) rfl (fun ls hl => ?_)
  refine lv_aload_n hx hb dX5_job_8 rfl (lv_at hl 1 rfl) ?_
  refine lv_iload hx hb dX5_job_9 (lv_at hl 0 rfl) ?_
  refine lv_iload_n hx hb dX5_job_11 rfl (lv_at hl 4 rfl) ?_
  refine lv_iconst (v := nI (0)) hx hb dX5_job_12 (by decide) ?_
  refine lv_ldc (v := nI 99999) hx hb hown (hts (.constant RX5 150 99999) (by decide +kernel)) dX5_job_13 ?_
  refine zk_S_i (n := 3) (As := [.int (nI (d)), .int (nI (0)), .int (nI (99999))]) (rest := [.int (bI (true)), .ref (gd 0)]) hx hb hml hts hown hZ hP (c_X5_isIn l D cA _ (nI (d)) (nI (0)) (nI (99999))) gX5_job_X5_isIn rfl ⟨rfl, rfl⟩ ⟨by decide +kernel, Nat.le_of_ble_eq_true rfl, Nat.le_of_ble_eq_true rfl⟩ hl.1 rfl (Nat.le_of_ble_eq_true rfl) ⟨Nat.le_of_ble_eq_true rfl, Nat.le_of_ble_eq_true rfl⟩ rfl dX5_job_15 (fun r_3 hr_4 => ?_)
  obtain rfl := show r_3 = _ from hr_4
  refine zx_val (y := bI (true)) (by rw [show (decide (nI (0) ≤ nI (d)) && decide (nI (d) ≤ nI (99999))) = _ from isin_rg (by omega) (by omega), rg_0]; rw [ix_in (by omega) (by omega)]; rfl) ?_
  refine lv_iload hx hb dX5_job_18 (lv_at hl 0 rfl) ?_
  refine zb_eq (tgt := 46) hx hb dX5_job_20 (by decide) (fun c_5 => Bool.noConfusion c_5) (fun c_5 => ?_)
  refine lv_aload_n hx hb dX5_job_23 rfl (lv_at hl 1 rfl) ?_
  refine va_get (D := D) (ci := 5) (v := .int (nI (nj))) (C := RX5) (T := TX5) (N := 26) hx hb hts iX5 hown hZ.1 hP 0 m0 rfl 15 (by decide) (hts (.fieldLink RX5 144 "TapeRoboticsModel" "jobs" "I") (by decide +kernel)) (fun _ h9 => h9) rfl dX5_job_24 ?_
  refine lv_bipush (v := nI (60)) hx hb dX5_job_27 (by decide) ?_
  refine zc_ge (tgt := 46) hx hb (by omega) (by omega) dX5_job_29 (by decide) (fun c_6 => False.elim (by omega)) (fun c_6 => ?_)
  refine lv_aload_n hx hb dX5_job_32 rfl (lv_at hl 1 rfl) ?_
  refine lv_iload_n hx hb dX5_job_33 rfl (lv_at hl 2 rfl) ?_
  refine zk_V_i (n := 1) (As := [.int (nI (t))]) (rest := [.int (bI (true)), .int (bI (true)), .ref (gd 0)]) hx hb hml hts hown hZ hP (c_X5_waitingAt l D cA _ hm0 fw hfw t hj60 (by omega)) gX5_job_X5_waitingAt rfl rfl ⟨rfl, rfl⟩ ⟨by decide +kernel, Nat.le_of_ble_eq_true rfl, Nat.le_of_ble_eq_true rfl⟩ m0 rfl hl.1 rfl (Nat.le_of_ble_eq_true rfl) ⟨Nat.le_of_ble_eq_true rfl, Nat.le_of_ble_eq_true rfl⟩ rfl dX5_job_34 (fun r_7 hr_8 => ?_)
  obtain rfl := show r_7 = _ from hr_8
  refine lv_bipush (v := nI (7)) hx hb dX5_job_37 (by decide) ?_
  refine zc_ge (tgt := 46) hx hb (by omega) (by omega) dX5_job_39 (by decide) (fun c_9 => False.elim (by omega)) (fun c_9 => ?_)
  refine lv_iconst (v := nI (1)) hx hb dX5_job_42 (by decide) ?_
  refine lv_goto (tgt := 47) hx hb dX5_job_43 (by decide) ?_
  refine zw_V_i (n := 3) (mc := 0) (ms := 0) (As := [.int (bI (true)), .int (bI (true)), .int (bI (true))]) (rest := []) (w1 := fun u : Unit => ws.set 0 (gd 0, zMod gd n nd nj my 0)) hx hb hml hts hown hZ hP hD hS hA (c_X5_mayAll l D cA _ _ gd n nd nj my th true true true (m0)) gX5_job_X5_mayAll rfl rfl ⟨rfl, rfl⟩ ⟨by decide +kernel, Nat.le_of_ble_eq_true rfl, Nat.le_of_ble_eq_true rfl⟩ m0 rfl hl.1 rfl (Nat.le_of_ble_eq_true rfl) ⟨Nat.le_of_ble_eq_true rfl, Nat.le_of_ble_eq_true rfl⟩ rfl dX5_job_47 (fun r_10 u_12 H locs hr_11 hP hD hS hz_12 => ?_)
  obtain rfl := show r_10 = _ from hr_11
  have hP : va_P D vwCl (ws.set 0 (gd 0, zMod gd n nd nj my 0)) H := hP
  have hD : va_D A (ws.set 0 (gd 0, zMod gd n nd nj my 0)) := hD
  refine zb_ne (tgt := 55) hx hb dX5_job_50 (by decide) (fun c_13 => ?_) (fun c_13 => Bool.noConfusion c_13)
  refine lv_aload_n hx hb dX5_job_55 rfl (lv_at hl 1 rfl) ?_
  refine va_get (D := D) (ci := 5) (v := .ref (gd 14)) (C := RX5) (T := TX5) (N := 26) hx hb hts iX5 hown hZ.1 hP 0 (zset_s m0) rfl 16 (by decide) (hts (.fieldLink RX5 50 "TapeRoboticsModel" "jobTape" "[I") (by decide +kernel)) (fun _ h9 => h9) rfl dX5_job_56 ?_
  refine lv_aload_n hx hb dX5_job_59 rfl (lv_at hl 1 rfl) ?_
  refine va_get (D := D) (ci := 5) (v := .int (nI (nj))) (C := RX5) (T := TX5) (N := 26) hx hb hts iX5 hown hZ.1 hP 0 (zset_s m0) rfl 15 (by decide) (hts (.fieldLink RX5 144 "TapeRoboticsModel" "jobs" "I") (by decide +kernel)) (fun _ h9 => h9) rfl dX5_job_60 ?_
  refine lv_iload_n hx hb dX5_job_63 rfl (lv_at hl 2 rfl) ?_
  refine va_iast hx hb hZ.1 hP hD hS 14 0 (zset_n m14 (by decide)) rfl (vp_in_nI (show nj < 60 by omega) (by omega)) dX5_job_64 (fun H locs hP hD hS => ?_)
  rw [nI_clamp (show nj < 2 ^ 31 by omega)] at hP hD
  have hP : va_P D vwCl ((ws.set 0 (gd 0, zMod gd n nd nj my 0)).set 14 (gd 14, zInts cA 60 (va_up jt nj (nI (t))))) H := hP
  have hD : va_D A ((ws.set 0 (gd 0, zMod gd n nd nj my 0)).set 14 (gd 14, zInts cA 60 (va_up jt nj (nI (t))))) := hD
  refine lv_aload_n hx hb dX5_job_65 rfl (lv_at hl 1 rfl) ?_
  refine va_get (D := D) (ci := 5) (v := .ref (gd 15)) (C := RX5) (T := TX5) (N := 26) hx hb hts iX5 hown hZ.1 hP 0 (zset_n (zset_s m0) (by decide)) rfl 17 (by decide) (hts (.fieldLink RX5 53 "TapeRoboticsModel" "jobFile" "[I") (by decide +kernel)) (fun _ h9 => h9) rfl dX5_job_66 ?_
  refine lv_aload_n hx hb dX5_job_69 rfl (lv_at hl 1 rfl) ?_
  refine va_get (D := D) (ci := 5) (v := .int (nI (nj))) (C := RX5) (T := TX5) (N := 26) hx hb hts iX5 hown hZ.1 hP 0 (zset_n (zset_s m0) (by decide)) rfl 15 (by decide) (hts (.fieldLink RX5 144 "TapeRoboticsModel" "jobs" "I") (by decide +kernel)) (fun _ h9 => h9) rfl dX5_job_70 ?_
  refine lv_iload_n hx hb dX5_job_73 rfl (lv_at hl 3 rfl) ?_
  refine va_iast hx hb hZ.1 hP hD hS 15 0 (zset_n (zset_n m15 (by decide)) (by decide)) rfl (vp_in_nI (show nj < 60 by omega) (by omega)) dX5_job_74 (fun H locs hP hD hS => ?_)
  rw [nI_clamp (show nj < 2 ^ 31 by omega)] at hP hD
  rw [upd_nI] at hP hD
  have hP : va_P D vwCl (((ws.set 0 (gd 0, zMod gd n nd nj my 0)).set 14 (gd 14, zInts cA 60 (va_up jt nj (nI (t))))).set 15 (gd 15, zInts cA 60 (fun k => nI ((va_up jf nj f) k)))) H := hP
  have hD : va_D A (((ws.set 0 (gd 0, zMod gd n nd nj my 0)).set 14 (gd 14, zInts cA 60 (va_up jt nj (nI (t))))).set 15 (gd 15, zInts cA 60 (fun k => nI ((va_up jf nj f) k)))) := hD
  refine lv_aload_n hx hb dX5_job_75 rfl (lv_at hl 1 rfl) ?_
  refine va_get (D := D) (ci := 5) (v := .ref (gd 16)) (C := RX5) (T := TX5) (N := 26) hx hb hts iX5 hown hZ.1 hP 0 (zset_n (zset_n (zset_s m0) (by decide)) (by decide)) rfl 18 (by decide) (hts (.fieldLink RX5 56 "TapeRoboticsModel" "deadline" "[I") (by decide +kernel)) (fun _ h9 => h9) rfl dX5_job_76 ?_
  refine lv_aload_n hx hb dX5_job_79 rfl (lv_at hl 1 rfl) ?_
  refine va_get (D := D) (ci := 5) (v := .int (nI (nj))) (C := RX5) (T := TX5) (N := 26) hx hb hts iX5 hown hZ.1 hP 0 (zset_n (zset_n (zset_s m0) (by decide)) (by decide)) rfl 15 (by decide) (hts (.fieldLink RX5 144 "TapeRoboticsModel" "jobs" "I") (by decide +kernel)) (fun _ h9 => h9) rfl dX5_job_80 ?_
  refine lv_iload_n hx hb dX5_job_83 rfl (lv_at hl 4 rfl) ?_
  refine va_iast hx hb hZ.1 hP hD hS 16 0 (zset_n (zset_n (zset_n m16 (by decide)) (by decide)) (by decide)) rfl (vp_in_nI (show nj < 60 by omega) (by omega)) dX5_job_84 (fun H locs hP hD hS => ?_)
  rw [nI_clamp (show nj < 2 ^ 31 by omega)] at hP hD
  rw [upd_nI] at hP hD
  have hP : va_P D vwCl ((((ws.set 0 (gd 0, zMod gd n nd nj my 0)).set 14 (gd 14, zInts cA 60 (va_up jt nj (nI (t))))).set 15 (gd 15, zInts cA 60 (fun k => nI ((va_up jf nj f) k)))).set 16 (gd 16, zInts cA 60 (fun k => nI ((va_up dl nj d) k)))) H := hP
  have hD : va_D A ((((ws.set 0 (gd 0, zMod gd n nd nj my 0)).set 14 (gd 14, zInts cA 60 (va_up jt nj (nI (t))))).set 15 (gd 15, zInts cA 60 (fun k => nI ((va_up jf nj f) k)))).set 16 (gd 16, zInts cA 60 (fun k => nI ((va_up dl nj d) k)))) := hD
  refine lv_aload_n hx hb dX5_job_85 rfl (lv_at hl 1 rfl) ?_
  refine lv_dup hx hb dX5_job_86 rfl ?_
  refine va_get (D := D) (ci := 5) (v := .int (nI (nj))) (C := RX5) (T := TX5) (N := 26) hx hb hts iX5 hown hZ.1 hP 0 (zset_n (zset_n (zset_n (zset_s m0) (by decide)) (by decide)) (by decide)) rfl 15 (by decide) (hts (.fieldLink RX5 144 "TapeRoboticsModel" "jobs" "I") (by decide +kernel)) (fun _ h9 => h9) rfl dX5_job_87 ?_
  refine lv_iconst (v := nI (1)) hx hb dX5_job_90 (by decide) ?_
  refine zo_add hx hb dX5_job_91 ?_
  refine va_put (D := D) (ci := 5) (v := .int (nI (nj + 1))) (ty := .int) (C := RX5) (T := TX5) (N := 26) hx hb hts iX5 tyX5 tyX5_ok nmX5 hown hZ.1 hP hD hS 0 (zset_n (zset_n (zset_n (zset_s m0) (by decide)) (by decide)) (by decide)) rfl 15 (by decide) (hts (.fieldLink RX5 144 "TapeRoboticsModel" "jobs" "I") (by decide +kernel)) (fun _ h9 => h9) rfl (by decide +kernel) rfl rfl (Nat.le_of_ble_eq_true rfl) dX5_job_92 (fun H locs hP hD hS => ?_)
  have hP : va_P D vwCl (((((ws.set 0 (gd 0, zMod gd n nd nj my 0)).set 14 (gd 14, zInts cA 60 (va_up jt nj (nI (t))))).set 15 (gd 15, zInts cA 60 (fun k => nI ((va_up jf nj f) k)))).set 16 (gd 16, zInts cA 60 (fun k => nI ((va_up dl nj d) k)))).set 0 (gd 0, zMod gd n nd (nj + 1) my 0)) H := hP
  have hD : va_D A (((((ws.set 0 (gd 0, zMod gd n nd nj my 0)).set 14 (gd 14, zInts cA 60 (va_up jt nj (nI (t))))).set 15 (gd 15, zInts cA 60 (fun k => nI ((va_up jf nj f) k)))).set 16 (gd 16, zInts cA 60 (fun k => nI ((va_up dl nj d) k)))).set 0 (gd 0, zMod gd n nd (nj + 1) my 0)) := hD
  refine lv_aload_n hx hb dX5_job_95 rfl (lv_at hl 1 rfl) ?_
  refine va_get (D := D) (ci := 5) (v := .int (nI (nj + 1))) (C := RX5) (T := TX5) (N := 26) hx hb hts iX5 hown hZ.1 hP 0 (zset_s (zset_n (zset_n (zset_n (zset_s m0) (by decide)) (by decide)) (by decide))) rfl 15 (by decide) (hts (.fieldLink RX5 144 "TapeRoboticsModel" "jobs" "I") (by decide +kernel)) (fun _ h9 => h9) rfl dX5_job_96 ?_
  refine lv_iconst (v := nI (1)) hx hb dX5_job_99 (by decide) ?_
  refine lv_isub hx hb dX5_job_100 ?_
  refine zx_val (y := nI (nj)) (by rw [pk_sub (by omega), Nat.add_sub_cancel]) ?_
  exact zr_qi (S := va_W) (w1 := fun u => u) (((((ws.set 0 (gd 0, zMod gd n nd nj my 0)).set 14 (gd 14, zInts cA 60 (va_up jt nj (nI (t))))).set 15 (gd 15, zInts cA 60 (fun k => nI ((va_up jf nj f) k)))).set 16 (gd 16, zInts cA 60 (fun k => nI ((va_up dl nj d) k)))).set 0 (gd 0, zMod gd n nd (nj + 1) my 0)) hx hb hr hlocks (⟨rfl, (mKeep_set (mKeep_set (mKeep_set (mKeep_set (mKeep_set mKeep_rf (by decide)) (by decide)) (by decide)) (by decide)) (by decide)), (mL_0 (mL_16 (mL_15 (mL_14 (mL_0 hm0 n nd nj my 0) ((va_up jt nj (nI (t))))) ((va_up jf nj f))) ((va_up dl nj d))) n nd (nj + 1) my 0)⟩) hP hD hS (rfl) dX5_job_101

set_option maxHeartbeats 4000000 in
set_option maxRecDepth 100000 in
theorem c_X5_job_no (l : Launch) (D : va_G) (cA : Nat → ClassId) (sz : Nat) (ws : va_W) {gd : Nat → Nat} {n : Nat} {tr : Nat → Nat} {le : Nat → Nat} {sl : Nat → Nat} {mo : Nat → Option Nat} {la : Nat → Bool} {fc : Nat → Nat} {sf : Nat → Int32} {bf : Nat → Int32} {nd : Nat} {mk : Nat → Nat} {ck : Nat → Int32} {ct : Nat → Nat} {hd : Nat → Option Nat} {pf : Nat → Int32} {nj : Nat} {jt : Nat → Int32} {jf : Nat → Nat} {dl : Nat → Nat} {fin : Nat → Bool} {my : Nat} {fls : Nat → Int32} {fod : Nat → Int32} {fle : Nat → Int32} {fro : Nat → Int32} {th : Nat} {bo : Nat → Nat → Nat} {pq : Nat → Int32} {fw : Nat → Int32} {dn : Nat} (hm : mL cA ws gd n tr le sl mo la fc sf bf nd mk ck ct hd pf nj jt jf dl fin my fls fod fle fro th) (hI : zI n tr le sl mo fc bo nd mk ct hd pq nj fw jf dl) (hM : mI n la fc bo nd ck ct hd pq pf nj fw jt fin sf bf dn) (v0 : Int32) (v1 : Int32) (v2 : Int32) (h0 : (kJ (ix v0 n) (fun t => ix v1 (fc t)) (ix v2 100000) (fun t => decide (nj < 60) && decide ((wl fw (nI t) nj).length < 7))) ≠ 0) : Met l yX5_job wsX5_job ({ frames := 3, cells := 0, slots := 0, locals := 65 }) (va_Pc [.ref (gd 0), .int (v0), .int (v1), .int (v2)] (zM D cA (ws) sz)) (va_Qi (fun (r : Int32) (u : va_W) => mKeep ws u ∧ mL cA u gd n tr le sl mo la fc sf bf nd mk ck ct hd pf nj jt jf dl fin my fls fod fle fro (kJ (ix v0 n) (fun t => ix v1 (fc t)) (ix v2 100000) (fun t => decide (nj < 60) && decide ((wl fw (nI t) nj).length < 7)))) (fun u => zB D (va_A (ws) sz) (u)) (va_A (ws) sz)) 0 0 (va_A (ws) sz) := by
  refine zOpen (cc := cX5_job) (maxL := 5) (ret := (some .int)) (own := RX5) (by decide) rfl rfl (Nat.le_of_ble_eq_true rfl) ?_
  intro p e s m below meth c ls hx hb hr hml hts hown hlocks hnm ⟨hZ, hP, hD0, hsz⟩ hl
  subst hsz
  have hD := hD0.self (sz := s.heap.size)
  generalize hAe : va_A (ws) s.heap.size = A at hD ⊢
  have hA : ∀ q : Nat, s.heap.size ≤ q → A q := fun q h => by rw [← hAe]; exact Or.inr h
  have hS : va_S A s.heap s.heap [] := va_S.rf
  have iX5 : ∀ w ∈ wsX50, w ∈ wsX5_job := by decide +kernel
  have hl : lv_has ls 5 [(0, .ref (gd 0)), (1, .int (v0)), (2, .int (v1)), (3, .int (v2))] := hl
  have hm0 := hm
  have hI0 := hI
  have hM0 := hM
  obtain ⟨hn8, hd3, hj60, hIT, hID, hIJ, hIdl, hIw⟩ := hI
  obtain ⟨hM1, hM2, hM3, hM4, hM5, hM6, hM7⟩ := hM
  obtain ⟨m0, m1, m2, m3, m4, m5, m6, m7, m8, m9, m10, m11, m12, m13, m14, m15, m16, m17, m18, m19, m20, m21⟩ := hm
  have hfc10 : ∀ i, i < n → fc i ≤ 10 := fun i hi => (hIT i hi).2.2.2.2.2.2.1
  have hsl12 : ∀ i, i < n → sl i < 12 := fun i hi => (hIT i hi).2.2.2.2.1
  have hH8 : ∀ j, j < nd → ∀ t, hd j = some t → t < 8 := fun j hj t h => by have := ((hID j hj).2.2.2 t h).1; omega
  have hmo3 : ∀ i, i < n → ∀ j, mo i = some j → j < nd := fun i hi j h => ((hIT i hi).2.2.2.2.2.1 j h).1
  have hfw : ∀ k, k < nj → fw k = if fin k then -1 else jt k := fun k hk => (hM5 k hk).1
  rcases kJ_no h0 with ⟨ho, hK⟩ | ⟨t, ho, hq, hK⟩ | ⟨t, f, ho, hq, hd9, hK⟩ | ⟨t, f, d, ho, hq, hd9, hc, hK⟩
  · refine lv_aload_n hx hb dX5_job_0 rfl (lv_at hl 0 rfl) ?_
    refine lv_iload_n hx hb dX5_job_1 rfl (lv_at hl 1 rfl) ?_
    refine lv_iload_n hx hb dX5_job_2 rfl (lv_at hl 2 rfl) ?_
    refine zk_V_i (n := 2) (As := [.int (v0), .int (v1)]) (rest := []) hx hb hml hts hown hZ hP (c_X5_isFile l D cA _ hm0 hn8 hfc10 v0 v1) gX5_job_X5_isFile rfl rfl ⟨rfl, rfl⟩ ⟨by decide +kernel, Nat.le_of_ble_eq_true rfl, Nat.le_of_ble_eq_true rfl⟩ m0 rfl hl.1 rfl (Nat.le_of_ble_eq_true rfl) ⟨Nat.le_of_ble_eq_true rfl, Nat.le_of_ble_eq_true rfl⟩ rfl dX5_job_3 (fun r_1 hr_2 => ?_)
    obtain rfl := show r_1 = _ from hr_2
    refine zx_val (y := bI (false)) (by rw [ho]; rfl) ?_
    refine lv_istore (lv' := [(4, .int (bI (false))), (0, .ref (gd 0)), (1, .int (v0)), (2, .int (v1)), (3, .int (v2))]) hx hb dX5_job_6 hl (by decide) rfl (fun ls hl => ?_)
    refine lv_aload_n hx hb dX5_job_8 rfl (lv_at hl 1 rfl) ?_
    refine lv_iload hx hb dX5_job_9 (lv_at hl 0 rfl) ?_
    refine lv_iload_n hx hb dX5_job_11 rfl (lv_at hl 4 rfl) ?_
    refine lv_iconst (v := nI (0)) hx hb dX5_job_12 (by decide) ?_
    refine lv_ldc (v := nI 99999) hx hb hown (hts (.constant RX5 150 99999) (by decide +kernel)) dX5_job_13 ?_
    refine zk_S_i (n := 3) (As := [.int (v2), .int (nI (0)), .int (nI (99999))]) (rest := [.int (bI (false)), .ref (gd 0)]) hx hb hml hts hown hZ hP (c_X5_isIn l D cA _ v2 (nI (0)) (nI (99999))) gX5_job_X5_isIn rfl ⟨rfl, rfl⟩ ⟨by decide +kernel, Nat.le_of_ble_eq_true rfl, Nat.le_of_ble_eq_true rfl⟩ hl.1 rfl (Nat.le_of_ble_eq_true rfl) ⟨Nat.le_of_ble_eq_true rfl, Nat.le_of_ble_eq_true rfl⟩ rfl dX5_job_15 (fun r_3 hr_4 => ?_)
    obtain rfl := show r_3 = _ from hr_4
    refine lv_iload hx hb dX5_job_18 (lv_at hl 0 rfl) ?_
    refine zb_eq (tgt := 46) hx hb dX5_job_20 (by decide) (fun c_5 => ?_) (fun c_5 => Bool.noConfusion c_5)
    refine lv_iconst (v := nI (0)) hx hb dX5_job_46 (by decide) ?_
    refine zw_V_i (n := 3) (mc := 0) (ms := 0) (As := [.int (bI (false)), .int (bI (decide (nI (0) ≤ v2) && decide (v2 ≤ nI (99999)))), .int (bI (false))]) (rest := []) (w1 := fun u : Unit => ws.set 0 (gd 0, zMod gd n nd nj my 1)) hx hb hml hts hown hZ hP hD hS hA (c_X5_mayAll l D cA _ _ gd n nd nj my th false (decide (nI (0) ≤ v2) && decide (v2 ≤ nI (99999))) false (m0)) gX5_job_X5_mayAll rfl rfl ⟨rfl, rfl⟩ ⟨by decide +kernel, Nat.le_of_ble_eq_true rfl, Nat.le_of_ble_eq_true rfl⟩ m0 rfl hl.1 rfl (Nat.le_of_ble_eq_true rfl) ⟨Nat.le_of_ble_eq_true rfl, Nat.le_of_ble_eq_true rfl⟩ rfl dX5_job_47 (fun r_6 u_8 H locs hr_7 hP hD hS hz_8 => ?_)
    obtain rfl := show r_6 = _ from hr_7
    have hP : va_P D vwCl (ws.set 0 (gd 0, zMod gd n nd nj my 1)) H := hP
    have hD : va_D A (ws.set 0 (gd 0, zMod gd n nd nj my 1)) := hD
    refine zb_ne (tgt := 55) hx hb dX5_job_50 (by decide) (fun c_9 => Bool.noConfusion c_9) (fun c_9 => ?_)
    refine lv_iconst (v := nI (0)) hx hb dX5_job_53 (by decide) ?_
    exact zr_qi (S := va_W) (w1 := fun u => u) (ws.set 0 (gd 0, zMod gd n nd nj my 1)) hx hb hr hlocks (⟨(mKeep_set mKeep_rf (by decide)), (by rw [hK]; exact (mL_0 hm0 n nd nj my 1))⟩) hP hD hS (rfl) dX5_job_54
  · obtain ⟨htn, rfl⟩ := ix_some ho
    have hfx := hfc10 t htn
    have hwl9 := hIw t htn
    have hl : lv_has ls 5 [(0, .ref (gd 0)), (1, .int (nI (t))), (2, .int (v1)), (3, .int (v2))] := hl
    refine lv_aload_n hx hb dX5_job_0 rfl (lv_at hl 0 rfl) ?_
    refine lv_iload_n hx hb dX5_job_1 rfl (lv_at hl 1 rfl) ?_
    refine lv_iload_n hx hb dX5_job_2 rfl (lv_at hl 2 rfl) ?_
    refine zk_V_i (n := 2) (As := [.int (nI (t)), .int (v1)]) (rest := []) hx hb hml hts hown hZ hP (c_X5_isFile l D cA _ hm0 hn8 hfc10 (nI (t)) v1) gX5_job_X5_isFile rfl rfl ⟨rfl, rfl⟩ ⟨by decide +kernel, Nat.le_of_ble_eq_true rfl, Nat.le_of_ble_eq_true rfl⟩ m0 rfl hl.1 rfl (Nat.le_of_ble_eq_true rfl) ⟨Nat.le_of_ble_eq_true rfl, Nat.le_of_ble_eq_true rfl⟩ rfl dX5_job_3 (fun r_10 hr_11 => ?_)
    obtain rfl := show r_10 = _ from hr_11
    refine zx_val (y := bI (false)) (by rw [ix_in (by omega) htn]; show bI (ix v1 (fc t)).isSome = _; rw [hq]; rfl) ?_
    refine lv_istore (lv' := [(4, .int (bI (false))), (0, .ref (gd 0)), (1, .int (nI (t))), (2, .int (v1)), (3, .int (v2))]) hx hb dX5_job_6 hl (by decide) rfl (fun ls hl => ?_)
    refine lv_aload_n hx hb dX5_job_8 rfl (lv_at hl 1 rfl) ?_
    refine lv_iload hx hb dX5_job_9 (lv_at hl 0 rfl) ?_
    refine lv_iload_n hx hb dX5_job_11 rfl (lv_at hl 4 rfl) ?_
    refine lv_iconst (v := nI (0)) hx hb dX5_job_12 (by decide) ?_
    refine lv_ldc (v := nI 99999) hx hb hown (hts (.constant RX5 150 99999) (by decide +kernel)) dX5_job_13 ?_
    refine zk_S_i (n := 3) (As := [.int (v2), .int (nI (0)), .int (nI (99999))]) (rest := [.int (bI (false)), .ref (gd 0)]) hx hb hml hts hown hZ hP (c_X5_isIn l D cA _ v2 (nI (0)) (nI (99999))) gX5_job_X5_isIn rfl ⟨rfl, rfl⟩ ⟨by decide +kernel, Nat.le_of_ble_eq_true rfl, Nat.le_of_ble_eq_true rfl⟩ hl.1 rfl (Nat.le_of_ble_eq_true rfl) ⟨Nat.le_of_ble_eq_true rfl, Nat.le_of_ble_eq_true rfl⟩ rfl dX5_job_15 (fun r_12 hr_13 => ?_)
    obtain rfl := show r_12 = _ from hr_13
    refine lv_iload hx hb dX5_job_18 (lv_at hl 0 rfl) ?_
    refine zb_eq (tgt := 46) hx hb dX5_job_20 (by decide) (fun c_14 => ?_) (fun c_14 => Bool.noConfusion c_14)
    refine lv_iconst (v := nI (0)) hx hb dX5_job_46 (by decide) ?_
    refine zw_V_i (n := 3) (mc := 0) (ms := 0) (As := [.int (bI (false)), .int (bI (decide (nI (0) ≤ v2) && decide (v2 ≤ nI (99999)))), .int (bI (false))]) (rest := []) (w1 := fun u : Unit => ws.set 0 (gd 0, zMod gd n nd nj my 1)) hx hb hml hts hown hZ hP hD hS hA (c_X5_mayAll l D cA _ _ gd n nd nj my th false (decide (nI (0) ≤ v2) && decide (v2 ≤ nI (99999))) false (m0)) gX5_job_X5_mayAll rfl rfl ⟨rfl, rfl⟩ ⟨by decide +kernel, Nat.le_of_ble_eq_true rfl, Nat.le_of_ble_eq_true rfl⟩ m0 rfl hl.1 rfl (Nat.le_of_ble_eq_true rfl) ⟨Nat.le_of_ble_eq_true rfl, Nat.le_of_ble_eq_true rfl⟩ rfl dX5_job_47 (fun r_15 u_17 H locs hr_16 hP hD hS hz_17 => ?_)
    obtain rfl := show r_15 = _ from hr_16
    have hP : va_P D vwCl (ws.set 0 (gd 0, zMod gd n nd nj my 1)) H := hP
    have hD : va_D A (ws.set 0 (gd 0, zMod gd n nd nj my 1)) := hD
    refine zb_ne (tgt := 55) hx hb dX5_job_50 (by decide) (fun c_18 => Bool.noConfusion c_18) (fun c_18 => ?_)
    refine lv_iconst (v := nI (0)) hx hb dX5_job_53 (by decide) ?_
    exact zr_qi (S := va_W) (w1 := fun u => u) (ws.set 0 (gd 0, zMod gd n nd nj my 1)) hx hb hr hlocks (⟨(mKeep_set mKeep_rf (by decide)), (by rw [hK]; exact (mL_0 hm0 n nd nj my 1))⟩) hP hD hS (rfl) dX5_job_54
  · obtain ⟨htn, rfl⟩ := ix_some ho
    have hfx := hfc10 t htn
    have hwl9 := hIw t htn
    have hl : lv_has ls 5 [(0, .ref (gd 0)), (1, .int (nI (t))), (2, .int (v1)), (3, .int (v2))] := hl
    refine lv_aload_n hx hb dX5_job_0 rfl (lv_at hl 0 rfl) ?_
    refine lv_iload_n hx hb dX5_job_1 rfl (lv_at hl 1 rfl) ?_
    refine lv_iload_n hx hb dX5_job_2 rfl (lv_at hl 2 rfl) ?_
    refine zk_V_i (n := 2) (As := [.int (nI (t)), .int (v1)]) (rest := []) hx hb hml hts hown hZ hP (c_X5_isFile l D cA _ hm0 hn8 hfc10 (nI (t)) v1) gX5_job_X5_isFile rfl rfl ⟨rfl, rfl⟩ ⟨by decide +kernel, Nat.le_of_ble_eq_true rfl, Nat.le_of_ble_eq_true rfl⟩ m0 rfl hl.1 rfl (Nat.le_of_ble_eq_true rfl) ⟨Nat.le_of_ble_eq_true rfl, Nat.le_of_ble_eq_true rfl⟩ rfl dX5_job_3 (fun r_19 hr_20 => ?_)
    obtain rfl := show r_19 = _ from hr_20
    refine zx_val (y := bI (true)) (by rw [ix_in (by omega) htn]; show bI (ix v1 (fc t)).isSome = _; rw [hq]; rfl) ?_
    refine lv_istore (lv' := [(4, .int (bI (true))), (0, .ref (gd 0)), (1, .int (nI (t))), (2, .int (v1)), (3, .int (v2))]) hx hb dX5_job_6 hl (by decide) rfl (fun ls hl => ?_)
    refine lv_aload_n hx hb dX5_job_8 rfl (lv_at hl 1 rfl) ?_
    refine lv_iload hx hb dX5_job_9 (lv_at hl 0 rfl) ?_
    refine lv_iload_n hx hb dX5_job_11 rfl (lv_at hl 4 rfl) ?_
    refine lv_iconst (v := nI (0)) hx hb dX5_job_12 (by decide) ?_
    refine lv_ldc (v := nI 99999) hx hb hown (hts (.constant RX5 150 99999) (by decide +kernel)) dX5_job_13 ?_
    refine zk_S_i (n := 3) (As := [.int (v2), .int (nI (0)), .int (nI (99999))]) (rest := [.int (bI (true)), .ref (gd 0)]) hx hb hml hts hown hZ hP (c_X5_isIn l D cA _ v2 (nI (0)) (nI (99999))) gX5_job_X5_isIn rfl ⟨rfl, rfl⟩ ⟨by decide +kernel, Nat.le_of_ble_eq_true rfl, Nat.le_of_ble_eq_true rfl⟩ hl.1 rfl (Nat.le_of_ble_eq_true rfl) ⟨Nat.le_of_ble_eq_true rfl, Nat.le_of_ble_eq_true rfl⟩ rfl dX5_job_15 (fun r_21 hr_22 => ?_)
    obtain rfl := show r_21 = _ from hr_22
    refine zx_val (y := bI (false)) (by rw [show (decide (nI (0) ≤ v2) && decide (v2 ≤ nI (99999))) = _ from isin_rg (by omega) (by omega), rg_0]; rw [hd9]; rfl) ?_
    refine lv_iload hx hb dX5_job_18 (lv_at hl 0 rfl) ?_
    refine zb_eq (tgt := 46) hx hb dX5_job_20 (by decide) (fun c_23 => Bool.noConfusion c_23) (fun c_23 => ?_)
    refine lv_aload_n hx hb dX5_job_23 rfl (lv_at hl 1 rfl) ?_
    refine va_get (D := D) (ci := 5) (v := .int (nI (nj))) (C := RX5) (T := TX5) (N := 26) hx hb hts iX5 hown hZ.1 hP 0 m0 rfl 15 (by decide) (hts (.fieldLink RX5 144 "TapeRoboticsModel" "jobs" "I") (by decide +kernel)) (fun _ h9 => h9) rfl dX5_job_24 ?_
    refine lv_bipush (v := nI (60)) hx hb dX5_job_27 (by decide) ?_
    refine zc_ge (tgt := 46) hx hb (by omega) (by omega) dX5_job_29 (by decide) (fun c_24 => ?_) (fun c_24 => ?_)
    · refine lv_iconst (v := nI (0)) hx hb dX5_job_46 (by decide) ?_
      refine zw_V_i (n := 3) (mc := 0) (ms := 0) (As := [.int (bI (true)), .int (bI (false)), .int (bI (false))]) (rest := []) (w1 := fun u : Unit => ws.set 0 (gd 0, zMod gd n nd nj my 2)) hx hb hml hts hown hZ hP hD hS hA (c_X5_mayAll l D cA _ _ gd n nd nj my th true false false (m0)) gX5_job_X5_mayAll rfl rfl ⟨rfl, rfl⟩ ⟨by decide +kernel, Nat.le_of_ble_eq_true rfl, Nat.le_of_ble_eq_true rfl⟩ m0 rfl hl.1 rfl (Nat.le_of_ble_eq_true rfl) ⟨Nat.le_of_ble_eq_true rfl, Nat.le_of_ble_eq_true rfl⟩ rfl dX5_job_47 (fun r_25 u_27 H locs hr_26 hP hD hS hz_27 => ?_)
      obtain rfl := show r_25 = _ from hr_26
      have hP : va_P D vwCl (ws.set 0 (gd 0, zMod gd n nd nj my 2)) H := hP
      have hD : va_D A (ws.set 0 (gd 0, zMod gd n nd nj my 2)) := hD
      refine zb_ne (tgt := 55) hx hb dX5_job_50 (by decide) (fun c_28 => Bool.noConfusion c_28) (fun c_28 => ?_)
      refine lv_iconst (v := nI (0)) hx hb dX5_job_53 (by decide) ?_
      exact zr_qi (S := va_W) (w1 := fun u => u) (ws.set 0 (gd 0, zMod gd n nd nj my 2)) hx hb hr hlocks (⟨(mKeep_set mKeep_rf (by decide)), (by rw [hK]; exact (mL_0 hm0 n nd nj my 2))⟩) hP hD hS (rfl) dX5_job_54
    · refine lv_aload_n hx hb dX5_job_32 rfl (lv_at hl 1 rfl) ?_
      refine lv_iload_n hx hb dX5_job_33 rfl (lv_at hl 2 rfl) ?_
      refine zk_V_i (n := 1) (As := [.int (nI (t))]) (rest := [.int (bI (false)), .int (bI (true)), .ref (gd 0)]) hx hb hml hts hown hZ hP (c_X5_waitingAt l D cA _ hm0 fw hfw t hj60 (by omega)) gX5_job_X5_waitingAt rfl rfl ⟨rfl, rfl⟩ ⟨by decide +kernel, Nat.le_of_ble_eq_true rfl, Nat.le_of_ble_eq_true rfl⟩ m0 rfl hl.1 rfl (Nat.le_of_ble_eq_true rfl) ⟨Nat.le_of_ble_eq_true rfl, Nat.le_of_ble_eq_true rfl⟩ rfl dX5_job_34 (fun r_29 hr_30 => ?_)
      obtain rfl := show r_29 = _ from hr_30
      refine lv_bipush (v := nI (7)) hx hb dX5_job_37 (by decide) ?_
      refine zc_ge (tgt := 46) hx hb (by omega) (by omega) dX5_job_39 (by decide) (fun c_31 => ?_) (fun c_31 => ?_)
      · refine lv_iconst (v := nI (0)) hx hb dX5_job_46 (by decide) ?_
        refine zw_V_i (n := 3) (mc := 0) (ms := 0) (As := [.int (bI (true)), .int (bI (false)), .int (bI (false))]) (rest := []) (w1 := fun u : Unit => ws.set 0 (gd 0, zMod gd n nd nj my 2)) hx hb hml hts hown hZ hP hD hS hA (c_X5_mayAll l D cA _ _ gd n nd nj my th true false false (m0)) gX5_job_X5_mayAll rfl rfl ⟨rfl, rfl⟩ ⟨by decide +kernel, Nat.le_of_ble_eq_true rfl, Nat.le_of_ble_eq_true rfl⟩ m0 rfl hl.1 rfl (Nat.le_of_ble_eq_true rfl) ⟨Nat.le_of_ble_eq_true rfl, Nat.le_of_ble_eq_true rfl⟩ rfl dX5_job_47 (fun r_32 u_34 H locs hr_33 hP hD hS hz_34 => ?_)
        obtain rfl := show r_32 = _ from hr_33
        have hP : va_P D vwCl (ws.set 0 (gd 0, zMod gd n nd nj my 2)) H := hP
        have hD : va_D A (ws.set 0 (gd 0, zMod gd n nd nj my 2)) := hD
        refine zb_ne (tgt := 55) hx hb dX5_job_50 (by decide) (fun c_35 => Bool.noConfusion c_35) (fun c_35 => ?_)
        refine lv_iconst (v := nI (0)) hx hb dX5_job_53 (by decide) ?_
        exact zr_qi (S := va_W) (w1 := fun u => u) (ws.set 0 (gd 0, zMod gd n nd nj my 2)) hx hb hr hlocks (⟨(mKeep_set mKeep_rf (by decide)), (by rw [hK]; exact (mL_0 hm0 n nd nj my 2))⟩) hP hD hS (rfl) dX5_job_54
      · refine lv_iconst (v := nI (1)) hx hb dX5_job_42 (by decide) ?_
        refine lv_goto (tgt := 47) hx hb dX5_job_43 (by decide) ?_
        refine zw_V_i (n := 3) (mc := 0) (ms := 0) (As := [.int (bI (true)), .int (bI (false)), .int (bI (true))]) (rest := []) (w1 := fun u : Unit => ws.set 0 (gd 0, zMod gd n nd nj my 2)) hx hb hml hts hown hZ hP hD hS hA (c_X5_mayAll l D cA _ _ gd n nd nj my th true false true (m0)) gX5_job_X5_mayAll rfl rfl ⟨rfl, rfl⟩ ⟨by decide +kernel, Nat.le_of_ble_eq_true rfl, Nat.le_of_ble_eq_true rfl⟩ m0 rfl hl.1 rfl (Nat.le_of_ble_eq_true rfl) ⟨Nat.le_of_ble_eq_true rfl, Nat.le_of_ble_eq_true rfl⟩ rfl dX5_job_47 (fun r_36 u_38 H locs hr_37 hP hD hS hz_38 => ?_)
        obtain rfl := show r_36 = _ from hr_37
        have hP : va_P D vwCl (ws.set 0 (gd 0, zMod gd n nd nj my 2)) H := hP
        have hD : va_D A (ws.set 0 (gd 0, zMod gd n nd nj my 2)) := hD
        refine zb_ne (tgt := 55) hx hb dX5_job_50 (by decide) (fun c_39 => Bool.noConfusion c_39) (fun c_39 => ?_)
        refine lv_iconst (v := nI (0)) hx hb dX5_job_53 (by decide) ?_
        exact zr_qi (S := va_W) (w1 := fun u => u) (ws.set 0 (gd 0, zMod gd n nd nj my 2)) hx hb hr hlocks (⟨(mKeep_set mKeep_rf (by decide)), (by rw [hK]; exact (mL_0 hm0 n nd nj my 2))⟩) hP hD hS (rfl) dX5_job_54
  · obtain ⟨htn, rfl⟩ := ix_some ho
    have hfx := hfc10 t htn
    have hwl9 := hIw t htn
    have hc9 : ¬ (nj < 60 ∧ (wl fw (nI t) nj).length < 7) := fun q => by
      (try dsimp only at hc)
      rw [decide_eq_true q.1, decide_eq_true q.2] at hc; cases hc
    have hl : lv_has ls 5 [(0, .ref (gd 0)), (1, .int (nI (t))), (2, .int (v1)), (3, .int (v2))] := hl
    refine lv_aload_n hx hb dX5_job_0 rfl (lv_at hl 0 rfl) ?_
    refine lv_iload_n hx hb dX5_job_1 rfl (lv_at hl 1 rfl) ?_
    refine lv_iload_n hx hb dX5_job_2 rfl (lv_at hl 2 rfl) ?_
    refine zk_V_i (n := 2) (As := [.int (nI (t)), .int (v1)]) (rest := []) hx hb hml hts hown hZ hP (c_X5_isFile l D cA _ hm0 hn8 hfc10 (nI (t)) v1) gX5_job_X5_isFile rfl rfl ⟨rfl, rfl⟩ ⟨by decide +kernel, Nat.le_of_ble_eq_true rfl, Nat.le_of_ble_eq_true rfl⟩ m0 rfl hl.1 rfl (Nat.le_of_ble_eq_true rfl) ⟨Nat.le_of_ble_eq_true rfl, Nat.le_of_ble_eq_true rfl⟩ rfl dX5_job_3 (fun r_40 hr_41 => ?_)
    obtain rfl := show r_40 = _ from hr_41
    refine zx_val (y := bI (true)) (by rw [ix_in (by omega) htn]; show bI (ix v1 (fc t)).isSome = _; rw [hq]; rfl) ?_
    refine lv_istore (lv' := [(4, .int (bI (true))), (0, .ref (gd 0)), (1, .int (nI (t))), (2, .int (v1)), (3, .int (v2))]) hx hb dX5_job_6 hl (by decide) rfl (fun ls hl => ?_)
    refine lv_aload_n hx hb dX5_job_8 rfl (lv_at hl 1 rfl) ?_
    refine lv_iload hx hb dX5_job_9 (lv_at hl 0 rfl) ?_
    refine lv_iload_n hx hb dX5_job_11 rfl (lv_at hl 4 rfl) ?_
    refine lv_iconst (v := nI (0)) hx hb dX5_job_12 (by decide) ?_
    refine lv_ldc (v := nI 99999) hx hb hown (hts (.constant RX5 150 99999) (by decide +kernel)) dX5_job_13 ?_
    refine zk_S_i (n := 3) (As := [.int (v2), .int (nI (0)), .int (nI (99999))]) (rest := [.int (bI (true)), .ref (gd 0)]) hx hb hml hts hown hZ hP (c_X5_isIn l D cA _ v2 (nI (0)) (nI (99999))) gX5_job_X5_isIn rfl ⟨rfl, rfl⟩ ⟨by decide +kernel, Nat.le_of_ble_eq_true rfl, Nat.le_of_ble_eq_true rfl⟩ hl.1 rfl (Nat.le_of_ble_eq_true rfl) ⟨Nat.le_of_ble_eq_true rfl, Nat.le_of_ble_eq_true rfl⟩ rfl dX5_job_15 (fun r_42 hr_43 => ?_)
    obtain rfl := show r_42 = _ from hr_43
    refine zx_val (y := bI (true)) (by rw [show (decide (nI (0) ≤ v2) && decide (v2 ≤ nI (99999))) = _ from isin_rg (by omega) (by omega), rg_0]; rw [hd9]; rfl) ?_
    refine lv_iload hx hb dX5_job_18 (lv_at hl 0 rfl) ?_
    refine zb_eq (tgt := 46) hx hb dX5_job_20 (by decide) (fun c_44 => Bool.noConfusion c_44) (fun c_44 => ?_)
    refine lv_aload_n hx hb dX5_job_23 rfl (lv_at hl 1 rfl) ?_
    refine va_get (D := D) (ci := 5) (v := .int (nI (nj))) (C := RX5) (T := TX5) (N := 26) hx hb hts iX5 hown hZ.1 hP 0 m0 rfl 15 (by decide) (hts (.fieldLink RX5 144 "TapeRoboticsModel" "jobs" "I") (by decide +kernel)) (fun _ h9 => h9) rfl dX5_job_24 ?_
    refine lv_bipush (v := nI (60)) hx hb dX5_job_27 (by decide) ?_
    refine zc_ge (tgt := 46) hx hb (by omega) (by omega) dX5_job_29 (by decide) (fun c_45 => ?_) (fun c_45 => ?_)
    · refine lv_iconst (v := nI (0)) hx hb dX5_job_46 (by decide) ?_
      refine zw_V_i (n := 3) (mc := 0) (ms := 0) (As := [.int (bI (true)), .int (bI (true)), .int (bI (false))]) (rest := []) (w1 := fun u : Unit => ws.set 0 (gd 0, zMod gd n nd nj my 3)) hx hb hml hts hown hZ hP hD hS hA (c_X5_mayAll l D cA _ _ gd n nd nj my th true true false (m0)) gX5_job_X5_mayAll rfl rfl ⟨rfl, rfl⟩ ⟨by decide +kernel, Nat.le_of_ble_eq_true rfl, Nat.le_of_ble_eq_true rfl⟩ m0 rfl hl.1 rfl (Nat.le_of_ble_eq_true rfl) ⟨Nat.le_of_ble_eq_true rfl, Nat.le_of_ble_eq_true rfl⟩ rfl dX5_job_47 (fun r_46 u_48 H locs hr_47 hP hD hS hz_48 => ?_)
      obtain rfl := show r_46 = _ from hr_47
      have hP : va_P D vwCl (ws.set 0 (gd 0, zMod gd n nd nj my 3)) H := hP
      have hD : va_D A (ws.set 0 (gd 0, zMod gd n nd nj my 3)) := hD
      refine zb_ne (tgt := 55) hx hb dX5_job_50 (by decide) (fun c_49 => Bool.noConfusion c_49) (fun c_49 => ?_)
      refine lv_iconst (v := nI (0)) hx hb dX5_job_53 (by decide) ?_
      exact zr_qi (S := va_W) (w1 := fun u => u) (ws.set 0 (gd 0, zMod gd n nd nj my 3)) hx hb hr hlocks (⟨(mKeep_set mKeep_rf (by decide)), (by rw [hK]; exact (mL_0 hm0 n nd nj my 3))⟩) hP hD hS (rfl) dX5_job_54
    · refine lv_aload_n hx hb dX5_job_32 rfl (lv_at hl 1 rfl) ?_
      refine lv_iload_n hx hb dX5_job_33 rfl (lv_at hl 2 rfl) ?_
      refine zk_V_i (n := 1) (As := [.int (nI (t))]) (rest := [.int (bI (true)), .int (bI (true)), .ref (gd 0)]) hx hb hml hts hown hZ hP (c_X5_waitingAt l D cA _ hm0 fw hfw t hj60 (by omega)) gX5_job_X5_waitingAt rfl rfl ⟨rfl, rfl⟩ ⟨by decide +kernel, Nat.le_of_ble_eq_true rfl, Nat.le_of_ble_eq_true rfl⟩ m0 rfl hl.1 rfl (Nat.le_of_ble_eq_true rfl) ⟨Nat.le_of_ble_eq_true rfl, Nat.le_of_ble_eq_true rfl⟩ rfl dX5_job_34 (fun r_50 hr_51 => ?_)
      obtain rfl := show r_50 = _ from hr_51
      refine lv_bipush (v := nI (7)) hx hb dX5_job_37 (by decide) ?_
      refine zc_ge (tgt := 46) hx hb (by omega) (by omega) dX5_job_39 (by decide) (fun c_52 => ?_) (fun c_52 => False.elim (by omega))
      refine lv_iconst (v := nI (0)) hx hb dX5_job_46 (by decide) ?_
      refine zw_V_i (n := 3) (mc := 0) (ms := 0) (As := [.int (bI (true)), .int (bI (true)), .int (bI (false))]) (rest := []) (w1 := fun u : Unit => ws.set 0 (gd 0, zMod gd n nd nj my 3)) hx hb hml hts hown hZ hP hD hS hA (c_X5_mayAll l D cA _ _ gd n nd nj my th true true false (m0)) gX5_job_X5_mayAll rfl rfl ⟨rfl, rfl⟩ ⟨by decide +kernel, Nat.le_of_ble_eq_true rfl, Nat.le_of_ble_eq_true rfl⟩ m0 rfl hl.1 rfl (Nat.le_of_ble_eq_true rfl) ⟨Nat.le_of_ble_eq_true rfl, Nat.le_of_ble_eq_true rfl⟩ rfl dX5_job_47 (fun r_53 u_55 H locs hr_54 hP hD hS hz_55 => ?_)
      obtain rfl := show r_53 = _ from hr_54
      have hP : va_P D vwCl (ws.set 0 (gd 0, zMod gd n nd nj my 3)) H := hP
      have hD : va_D A (ws.set 0 (gd 0, zMod gd n nd nj my 3)) := hD
      refine zb_ne (tgt := 55) hx hb dX5_job_50 (by decide) (fun c_56 => Bool.noConfusion c_56) (fun c_56 => ?_)
      refine lv_iconst (v := nI (0)) hx hb dX5_job_53 (by decide) ?_
      exact zr_qi (S := va_W) (w1 := fun u => u) (ws.set 0 (gd 0, zMod gd n nd nj my 3)) hx hb hr hlocks (⟨(mKeep_set mKeep_rf (by decide)), (by rw [hK]; exact (mL_0 hm0 n nd nj my 3))⟩) hP hD hS (rfl) dX5_job_54

