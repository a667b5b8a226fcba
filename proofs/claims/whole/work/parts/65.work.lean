def wkG (Js : Nat → Nat) (fin : Nat → Bool) : Nat → Nat → Bool
  | 0 => fin
  | i + 1 => va_up (wkG Js fin i) (Js i) true
set_option maxHeartbeats 4000000 in
set_option maxRecDepth 100000 in
theorem c_X5_triedTime_ok (l : Launch) (D : va_G) (cA : Nat → ClassId) (sz : Nat) (ws : va_W) {gd : Nat → Nat} {n : Nat} {tr : Nat → Nat} {le : Nat → Nat} {sl : Nat → Nat} {mo : Nat → Option Nat} {la : Nat → Bool} {fc : Nat → Nat} {sf : Nat → Int32} {bf : Nat → Int32} {nd : Nat} {mk : Nat → Nat} {ck : Nat → Int32} {ct : Nat → Nat} {hd : Nat → Option Nat} {pf : Nat → Int32} {nj : Nat} {jt : Nat → Int32} {jf : Nat → Nat} {dl : Nat → Nat} {fin : Nat → Bool} {my : Nat} {fls : Nat → Int32} {fod : Nat → Int32} {fle : Nat → Int32} {fro : Nat → Int32} {th : Nat} {bo : Nat → Nat → Nat} {pq : Nat → Int32} {fw : Nat → Int32} {dn : Nat} (hm : mL cA ws gd n tr le sl mo la fc sf bf nd mk ck ct hd pf nj jt jf dl fin my fls fod fle fro th) (hI : zI n tr le sl mo fc bo nd mk ct hd pq nj fw jf dl) (hM : mI n la fc bo nd ck ct hd pq pf nj fw jt fin sf bf dn) (j9 t9 P9 : Nat) (hj9 : j9 < nd) (hht : hd j9 = some t9) (hpq : pq j9 = nI P9) (hP9 : P9 ≤ tr t9 * le t9) : Met l yX5_triedTime wsX5_triedTime ({ frames := 6, cells := 0, slots := 0, locals := 145 }) (va_Pc [.ref (gd 0), .int (nI (j9))] (zM D cA (ws) sz)) (va_Qi (fun (r : Int32) (u : va_W) => r = nI (BT (LG mk tr le bo jf j9 t9 P9 (wl fw (nI t9) nj)) (wl fw (nI t9) nj).length (np 0) 7) ∧ mKeep ws u ∧ ∃ my9 fls9 fod9 fle9 fro9, mL cA u gd n tr le sl mo la fc sf bf nd mk ck ct hd pf nj jt jf dl fin my9 fls9 fod9 fle9 fro9 0) (fun u => zB D (va_A (ws) sz) (u)) (va_A (ws) sz)) 0 0 (va_A (ws) sz) := by
  refine zOpen (cc := cX5_triedTime) (maxL := 2) (ret := (some .int)) (own := RX5) (by decide) rfl rfl (Nat.le_of_ble_eq_true rfl) ?_
  intro p e s m below meth c ls hx hb hr hml hts hown hlocks hnm ⟨hZ, hP, hD0, hsz⟩ hl
  subst hsz
  have hD := hD0.self (sz := s.heap.size)
  generalize hAe : va_A (ws) s.heap.size = A at hD ⊢
  have hA : ∀ q : Nat, s.heap.size ≤ q → A q := fun q h => by rw [← hAe]; exact Or.inr h
  have hS : va_S A s.heap s.heap [] := va_S.rf
  have hl : lv_has ls 2 [(0, .ref (gd 0)), (1, .int (nI (j9)))] := hl
  have hm0 := hm
  have hI0 := hI
  have hM0 := hM
  obtain ⟨hn8, hd3, hj60, hIT, hID, hIJ, hIdl, hIw⟩ := hI
  obtain ⟨hM1, hM2, hM3, hM4, hM5, hM6, hM7⟩ := hM
  obtain ⟨m0, m1, m2, m3, m4, m5, m6, m7, m8, m9, m10, m11, m12, m13, m14, m15, m16, m17, m18, m19, m20, m21⟩ := hm
  have hfc10 : ∀ i, i < n → fc i ≤ 10 := fun i hi => (hIT i hi).2.2.2.2.2.2.1
  have hsl12 : ∀ i, i < n → sl i < 12 := fun i hi => (hIT i hi).2.2.2.2.1
  have hH8 : ∀ j, j < nd → ∀ t, hd j = some t → t < 8 := fun j hj t h => by have := ((hID j hj).2.2.2 t h).1; omega
  have hmo3 : ∀ i, i < n → ∀ j, mo i = some j → j < nd := fun i hi j h => ((hIT i hi).2.2.2.2.2.1 j h).1
  have hfw : ∀ k, k < nj → fw k = if fin k then -1 else jt k := fun k hk => (hM5 k hk).1
  refine lv_aload_n hx hb dX5_triedTime_0 rfl (lv_at hl 0 rfl) ?_
  refine lv_iload_n hx hb dX5_triedTime_1 rfl (lv_at hl 1 rfl) ?_
  refine zw_V_i (n := 1) (mc := 0) (ms := 0) (As := [.int (nI (j9))]) (rest := []) (w1 := fun u : va_W => u) hx hb hml hts hown hZ hP hD hS hA (c_X5_bestTime_ok l D cA _ _ hm0 hI0 hM0 j9 t9 P9 hj9 hht hpq hP9) gX5_triedTime_X5_bestTime rfl rfl ⟨rfl, rfl⟩ ⟨by decide +kernel, Nat.le_of_ble_eq_true rfl, Nat.le_of_ble_eq_true rfl⟩ m0 rfl hl.1 rfl (Nat.le_of_ble_eq_true rfl) ⟨Nat.le_of_ble_eq_true rfl, Nat.le_of_ble_eq_true rfl⟩ rfl dX5_triedTime_2 (fun r_1 u_3 H locs hr_2 hP hD hS hz_3 => ?_)
  have hP : va_P D vwCl (u_3) H := hP
  have hD : va_D A (u_3) := hD
  obtain ⟨rfl, hkp_3, my9, fls9, fod9, fle9, fro9, hm_3⟩ := hr_2
  obtain ⟨m0_3, m1_3, m2_3, m3_3, m4_3, m5_3, m6_3, m7_3, m8_3, m9_3, m10_3, m11_3, m12_3, m13_3, m14_3, m15_3, m16_3, m17_3, m18_3, m19_3, m20_3, m21_3⟩ := id hm_3
  have hP : va_P D vwCl (u_3) H := hP
  have hD : va_D A (u_3) := hD
  exact zr_qi (S := va_W) (w1 := fun u => u) u_3 hx hb hr hlocks (⟨rfl, (mKeep_tr mKeep_rf hkp_3), _, _, _, _, _, hm_3⟩) hP hD hS (rfl) dX5_triedTime_5

set_option maxHeartbeats 4000000 in
set_option maxRecDepth 100000 in
theorem c_X5_triedTime_no (l : Launch) (D : va_G) (cA : Nat → ClassId) (sz : Nat) (ws : va_W) {gd : Nat → Nat} {n : Nat} {tr : Nat → Nat} {le : Nat → Nat} {sl : Nat → Nat} {mo : Nat → Option Nat} {la : Nat → Bool} {fc : Nat → Nat} {sf : Nat → Int32} {bf : Nat → Int32} {nd : Nat} {mk : Nat → Nat} {ck : Nat → Int32} {ct : Nat → Nat} {hd : Nat → Option Nat} {pf : Nat → Int32} {nj : Nat} {jt : Nat → Int32} {jf : Nat → Nat} {dl : Nat → Nat} {fin : Nat → Bool} {my : Nat} {fls : Nat → Int32} {fod : Nat → Int32} {fle : Nat → Int32} {fro : Nat → Int32} {th : Nat} {bo : Nat → Nat → Nat} {pq : Nat → Int32} {fw : Nat → Int32} {dn : Nat} (hm : mL cA ws gd n tr le sl mo la fc sf bf nd mk ck ct hd pf nj jt jf dl fin my fls fod fle fro th) (hI : zI n tr le sl mo fc bo nd mk ct hd pq nj fw jf dl) (hM : mI n la fc bo nd ck ct hd pq pf nj fw jt fin sf bf dn) (v0 : Int32) (h0 : (kR (ix v0 nd) hd (fun _ => some 0) (fun _ => true)) ≠ 0) : Met l yX5_triedTime wsX5_triedTime ({ frames := 6, cells := 0, slots := 0, locals := 145 }) (va_Pc [.ref (gd 0), .int (v0)] (zM D cA (ws) sz)) (va_Qi (fun (r : Int32) (u : va_W) => mKeep ws u ∧ ∃ my9 fls9 fod9 fle9 fro9, mL cA u gd n tr le sl mo la fc sf bf nd mk ck ct hd pf nj jt jf dl fin my9 fls9 fod9 fle9 fro9 (kR (ix v0 nd) hd (fun _ => some 0) (fun _ => true))) (fun u => zB D (va_A (ws) sz) (u)) (va_A (ws) sz)) 0 0 (va_A (ws) sz) := by
  refine zOpen (cc := cX5_triedTime) (maxL := 2) (ret := (some .int)) (own := RX5) (by decide) rfl rfl (Nat.le_of_ble_eq_true rfl) ?_
  intro p e s m below meth c ls hx hb hr hml hts hown hlocks hnm ⟨hZ, hP, hD0, hsz⟩ hl
  subst hsz
  have hD := hD0.self (sz := s.heap.size)
  generalize hAe : va_A (ws) s.heap.size = A at hD ⊢
  have hA : ∀ q : Nat, s.heap.size ≤ q → A q := fun q h => by rw [← hAe]; exact Or.inr h
  have hS : va_S A s.heap s.heap [] := va_S.rf
  have hl : lv_has ls 2 [(0, .ref (gd 0)), (1, .int (v0))] := hl
  have hm0 := hm
  have hI0 := hI
  have hM0 := hM
  obtain ⟨hn8, hd3, hj60, hIT, hID, hIJ, hIdl, hIw⟩ := hI
  obtain ⟨hM1, hM2, hM3, hM4, hM5, hM6, hM7⟩ := hM
  obtain ⟨m0, m1, m2, m3, m4, m5, m6, m7, m8, m9, m10, m11, m12, m13, m14, m15, m16, m17, m18, m19, m20, m21⟩ := hm
  have hfc10 : ∀ i, i < n → fc i ≤ 10 := fun i hi => (hIT i hi).2.2.2.2.2.2.1
  have hsl12 : ∀ i, i < n → sl i < 12 := fun i hi => (hIT i hi).2.2.2.2.1
  have hH8 : ∀ j, j < nd → ∀ t, hd j = some t → t < 8 := fun j hj t h => by have := ((hID j hj).2.2.2 t h).1; omega
  have hmo3 : ∀ i, i < n → ∀ j, mo i = some j → j < nd := fun i hi j h => ((hIT i hi).2.2.2.2.2.1 j h).1
  have hfw : ∀ k, k < nj → fw k = if fin k then -1 else jt k := fun k hk => (hM5 k hk).1
  · have hK : 0 = 0 := rfl
    refine lv_aload_n hx hb dX5_triedTime_0 rfl (lv_at hl 0 rfl) ?_
    refine lv_iload_n hx hb dX5_triedTime_1 rfl (lv_at hl 1 rfl) ?_
    refine zw_V_i (n := 1) (mc := 0) (ms := 0) (As := [.int (v0)]) (rest := []) (w1 := fun u : va_W => u) hx hb hml hts hown hZ hP hD hS hA (c_X5_bestTime_no l D cA _ _ hm0 hI0 hM0 v0 h0) gX5_triedTime_X5_bestTime rfl rfl ⟨rfl, rfl⟩ ⟨by decide +kernel, Nat.le_of_ble_eq_true rfl, Nat.le_of_ble_eq_true rfl⟩ m0 rfl hl.1 rfl (Nat.le_of_ble_eq_true rfl) ⟨Nat.le_of_ble_eq_true rfl, Nat.le_of_ble_eq_true rfl⟩ rfl dX5_triedTime_2 (fun r_1 u_3 H locs hr_2 hP hD hS hz_3 => ?_)
    have hP : va_P D vwCl (u_3) H := hP
    have hD : va_D A (u_3) := hD
    obtain ⟨hkp_3, my9, fls9, fod9, fle9, fro9, hm_3⟩ := hr_2
    obtain ⟨m0_3, m1_3, m2_3, m3_3, m4_3, m5_3, m6_3, m7_3, m8_3, m9_3, m10_3, m11_3, m12_3, m13_3, m14_3, m15_3, m16_3, m17_3, m18_3, m19_3, m20_3, m21_3⟩ := id hm_3
    have hP : va_P D vwCl (u_3) H := hP
    have hD : va_D A (u_3) := hD
    exact zr_qi (S := va_W) (w1 := fun u => u) u_3 hx hb hr hlocks (⟨(mKeep_tr mKeep_rf hkp_3), _, _, _, _, _, (by exact hm_3)⟩) hP hD hS (rfl) dX5_triedTime_5

set_option maxHeartbeats 4000000 in
set_option maxRecDepth 100000 in
theorem c_X5_work_ok (l : Launch) (D : va_G) (cA : Nat → ClassId) (sz : Nat) (ws : va_W) {gd : Nat → Nat} {n : Nat} {tr : Nat → Nat} {le : Nat → Nat} {sl : Nat → Nat} {mo : Nat → Option Nat} {la : Nat → Bool} {fc : Nat → Nat} {sf : Nat → Int32} {bf : Nat → Int32} {nd : Nat} {mk : Nat → Nat} {ck : Nat → Int32} {ct : Nat → Nat} {hd : Nat → Option Nat} {pf : Nat → Int32} {nj : Nat} {jt : Nat → Int32} {jf : Nat → Nat} {dl : Nat → Nat} {fin : Nat → Bool} {my : Nat} {fls : Nat → Int32} {fod : Nat → Int32} {fle : Nat → Int32} {fro : Nat → Int32} {th : Nat} {bo : Nat → Nat → Nat} {pq : Nat → Int32} {fw : Nat → Int32} {dn : Nat} (hm : mL cA ws gd n tr le sl mo la fc sf bf nd mk ck ct hd pf nj jt jf dl fin my fls fod fle fro th) (hI : zI n tr le sl mo fc bo nd mk ct hd pq nj fw jf dl) (hM : mI n la fc bo nd ck ct hd pq pf nj fw jt fin sf bf dn) (j9 t9 P9 : Nat) (hj9 : j9 < nd) (hht : hd j9 = some t9) (hpq : pq j9 = nI P9) (hP9 : P9 ≤ tr t9 * le t9) (hct9 : ct j9 < 12) : Met l yX5_work wsX5_work ({ frames := 5, cells := 0, slots := 0, locals := 124 }) (va_Pc [.ref (gd 0), .int (nI (j9))] (zM D cA (ws) sz)) (va_Qi (fun (r : Int32) (u : va_W) => r = nI (wkL mk tr le bo jf dl j9 t9 (fun i9 => (wl fw (nI t9) nj).getD ((BO (LG mk tr le bo jf j9 t9 P9 (wl fw (nI t9) nj)) (wl fw (nI t9) nj).length (np 0) 7).getD i9 0) 0) P9 (ck j9) (min (wl fw (nI t9) nj).length (12 - ct j9))) ∧ mKeep ws u ∧ ∃ my9 fls9 fod9 fle9 fro9, mL cA u gd n tr le sl mo la fc sf bf nd mk (va_up ck j9 (wkC mk tr le bo jf j9 t9 (fun i9 => (wl fw (nI t9) nj).getD ((BO (LG mk tr le bo jf j9 t9 P9 (wl fw (nI t9) nj)) (wl fw (nI t9) nj).length (np 0) 7).getD i9 0) 0) P9 (ck j9) (min (wl fw (nI t9) nj).length (12 - ct j9)))) (va_up ct j9 (ct j9 + (min (wl fw (nI t9) nj).length (12 - ct j9)))) hd (va_up pf j9 (nI (wkP bo jf t9 (fun i9 => (wl fw (nI t9) nj).getD ((BO (LG mk tr le bo jf j9 t9 P9 (wl fw (nI t9) nj)) (wl fw (nI t9) nj).length (np 0) 7).getD i9 0) 0) P9 (min (wl fw (nI t9) nj).length (12 - ct j9))))) nj jt jf dl (wkG (fun i9 => (wl fw (nI t9) nj).getD ((BO (LG mk tr le bo jf j9 t9 P9 (wl fw (nI t9) nj)) (wl fw (nI t9) nj).length (np 0) 7).getD i9 0) 0) fin (min (wl fw (nI t9) nj).length (12 - ct j9))) my9 fls9 fod9 fle9 fro9 0) (fun u => zB D (va_A (ws) sz) (u)) (va_A (ws) sz)) 0 0 (va_A (ws) sz) := by
  refine zOpen (cc := cX5_work) (maxL := 7) (ret := (some .int)) (own := RX5) (by decide) rfl rfl (Nat.le_of_ble_eq_true rfl) ?_
  intro p e s m below meth c ls hx hb hr hml hts hown hlocks hnm ⟨hZ, hP, hD0, hsz⟩ hl
  subst hsz
  have hD := hD0.self (sz := s.heap.size)
  generalize hAe : va_A (ws) s.heap.size = A at hD ⊢
  have hA : ∀ q : Nat, s.heap.size ≤ q → A q := fun q h => by rw [← hAe]; exact Or.inr h
  have hS : va_S A s.heap s.heap [] := va_S.rf
  have iX5 : ∀ w ∈ wsX50, w ∈ wsX5_work := by decide +kernel
  have hl : lv_has ls 7 [(0, .ref (gd 0)), (1, .int (nI (j9)))] := hl
  have hm0 := hm
  have hI0 := hI
  have hM0 := hM
  obtain ⟨hn8, hd3, hj60, hIT, hID, hIJ, hIdl, hIw⟩ := hI
  obtain ⟨hM1, hM2, hM3, hM4, hM5, hM6, hM7⟩ := hM
  obtain ⟨m0, m1, m2, m3, m4, m5, m6, m7, m8, m9, m10, m11, m12, m13, m14, m15, m16, m17, m18, m19, m20, m21⟩ := hm
  have hfc10 : ∀ i, i < n → fc i ≤ 10 := fun i hi => (hIT i hi).2.2.2.2.2.2.1
  have hsl12 : ∀ i, i < n → sl i < 12 := fun i hi => (hIT i hi).2.2.2.2.1
  have hH8 : ∀ j, j < nd → ∀ t, hd j = some t → t < 8 := fun j hj t h => by have := ((hID j hj).2.2.2 t h).1; omega
  have hmo3 : ∀ i, i < n → ∀ j, mo i = some j → j < nd := fun i hi j h => ((hIT i hi).2.2.2.2.2.1 j h).1
  have hfw : ∀ k, k < nj → fw k = if fin k then -1 else jt k := fun k hk => (hM5 k hk).1
  obtain ⟨hmk, hct, -, hps⟩ := hID j9 hj9
  obtain ⟨htn, hmoj, -⟩ := hps t9 hht
  have hpf : pf j9 = nI P9 := (hM4 j9 t9 hj9 hht).trans hpq
  obtain ⟨htr1, htr8, hle4, hle200, -⟩ := hIT t9 htn
  have htr : 1 ≤ tr t9 ∧ tr t9 ≤ 8 := ⟨htr1, htr8⟩
  have hle : 4 ≤ le t9 ∧ le t9 ≤ 200 := ⟨hle4, hle200⟩
  have hj3 : j9 < 3 := by omega
  have ht8 : t9 < 8 := by omega
  have hfw : ∀ k, k < nj → fw k = if fin k then -1 else jt k := fun k hk => (hM5 k hk).1
  have hw7 := hIw t9 htn
  have hJ := mJ_of hI0 hM0 htn fls
  have hLGb : ∀ a b, (LG mk tr le bo jf j9 t9 P9 (wl fw (nI t9) nj)) a b ≤ 100000 := fun a b => LG_of hI0 htn j9 P9 a b
  have hBT : ∀ p a, BT (LG mk tr le bo jf j9 t9 P9 (wl fw (nI t9) nj)) (wl fw (nI t9) nj).length p a ≤ 700000 := fun p a => Nat.le_trans (BT_le (fun a b _ => hLGb a b) p a) (by omega)
  have hbinc := (hIT t9 htn).2.2.2.2.2.2.2.2.1
  have hbtop := (hIT t9 htn).2.2.2.2.2.2.2.2.2
  have hmul : tr t9 * le t9 ≤ 8 * 200 := Nat.mul_le_mul htr8 hle200
  refine lv_aload_n hx hb dX5_work_0 rfl (lv_at hl 0 rfl) ?_
  refine lv_iload_n hx hb dX5_work_1 rfl (lv_at hl 1 rfl) ?_
  refine zk_V_i (n := 1) (As := [.int (nI (j9))]) (rest := []) hx hb hml hts hown hZ hP (c_X5_hasTape l D cA _ hm0 hd3 hH8 (nI (j9))) gX5_work_X5_hasTape rfl rfl ⟨rfl, rfl⟩ ⟨by decide +kernel, Nat.le_of_ble_eq_true rfl, Nat.le_of_ble_eq_true rfl⟩ m0 rfl hl.1 rfl (Nat.le_of_ble_eq_true rfl) ⟨Nat.le_of_ble_eq_true rfl, Nat.le_of_ble_eq_true rfl⟩ rfl dX5_work_2 (fun r_1 hr_2 => ?_)
  obtain rfl := show r_1 = _ from hr_2
  refine zx_val (y := bI (true)) (by rw [ix_in (by omega) hj9]; show bI (hd j9).isSome = _; rw [hht]; rfl) ?_
  refine lv_istore_n (lv' := [(2, .int (bI (true))), (0, .ref (gd 0)), (1, .int (nI (j9)))]) hx hb dX5_work_5 rfl hl (by decide) rfl (fun ls hl => ?_)
  refine lv_aload_n hx hb dX5_work_6 rfl (lv_at hl 1 rfl) ?_
  refine lv_aload_n hx hb dX5_work_7 rfl (lv_at hl 1 rfl) ?_
  refine lv_iload_n hx hb dX5_work_8 rfl (lv_at hl 2 rfl) ?_
  refine zk_V_i (n := 1) (As := [.int (nI (j9))]) (rest := [.ref (gd 0)]) hx hb hml hts hown hZ hP (c_X5_isDrive l D cA _ hm0 (by omega) (nI (j9))) gX5_work_X5_isDrive rfl rfl ⟨rfl, rfl⟩ ⟨by decide +kernel, Nat.le_of_ble_eq_true rfl, Nat.le_of_ble_eq_true rfl⟩ m0 rfl hl.1 rfl (Nat.le_of_ble_eq_true rfl) ⟨Nat.le_of_ble_eq_true rfl, Nat.le_of_ble_eq_true rfl⟩ rfl dX5_work_9 (fun r_3 hr_4 => ?_)
  obtain rfl := show r_3 = _ from hr_4
  refine zx_val (y := bI (true)) (by rw [ix_in (by omega) hj9]; rfl) ?_
  refine lv_iload_n hx hb dX5_work_12 rfl (lv_at hl 0 rfl) ?_
  refine zb_eq (tgt := 28) hx hb dX5_work_13 (by decide) (fun c_5 => Bool.noConfusion c_5) (fun c_5 => ?_)
  refine lv_aload_n hx hb dX5_work_16 rfl (lv_at hl 1 rfl) ?_
  refine lv_iload_n hx hb dX5_work_17 rfl (lv_at hl 2 rfl) ?_
  refine zk_V_i (n := 1) (As := [.int (nI (j9))]) (rest := [.int (bI (true)), .ref (gd 0)]) hx hb hml hts hown hZ hP (c_X5_isClean l D cA _ hm0 j9 (by omega) (by first | omega | (rw [va_up_self]; omega))) gX5_work_X5_isClean rfl rfl ⟨rfl, rfl⟩ ⟨by decide +kernel, Nat.le_of_ble_eq_true rfl, Nat.le_of_ble_eq_true rfl⟩ m0 rfl hl.1 rfl (Nat.le_of_ble_eq_true rfl) ⟨Nat.le_of_ble_eq_true rfl, Nat.le_of_ble_eq_true rfl⟩ rfl dX5_work_18 (fun r_6 hr_7 => ?_)
  obtain rfl := show r_6 = _ from hr_7
  refine zx_val (y := bI (true)) (by rw [decide_eq_true hct9]) ?_
  refine zb_eq (tgt := 28) hx hb dX5_work_21 (by decide) (fun c_8 => Bool.noConfusion c_8) (fun c_8 => ?_)
  refine lv_iconst (v := nI (1)) hx hb dX5_work_24 (by decide) ?_
  refine lv_goto (tgt := 29) hx hb dX5_work_25 (by decide) ?_
  refine zw_V_i (n := 2) (mc := 0) (ms := 0) (As := [.int (bI (true)), .int (bI (true))]) (rest := []) (w1 := fun u : Unit => ws.set 0 (gd 0, zMod gd n nd nj my 0)) hx hb hml hts hown hZ hP hD hS hA (c_X5_mayBoth l D cA _ _ gd n nd nj my th true true (m0)) gX5_work_X5_mayBoth rfl rfl ⟨rfl, rfl⟩ ⟨by decide +kernel, Nat.le_of_ble_eq_true rfl, Nat.le_of_ble_eq_true rfl⟩ m0 rfl hl.1 rfl (Nat.le_of_ble_eq_true rfl) ⟨Nat.le_of_ble_eq_true rfl, Nat.le_of_ble_eq_true rfl⟩ rfl dX5_work_29 (fun r_9 u_11 H locs hr_10 hP hD hS hz_11 => ?_)
  obtain rfl := show r_9 = _ from hr_10
  have hP : va_P D vwCl (ws.set 0 (gd 0, zMod gd n nd nj my 0)) H := hP
  have hD : va_D A (ws.set 0 (gd 0, zMod gd n nd nj my 0)) := hD
  refine zb_ne (tgt := 37) hx hb dX5_work_32 (by decide) (fun c_12 => ?_) (fun c_12 => Bool.noConfusion c_12)
  refine lv_aload_n hx hb dX5_work_37 rfl (lv_at hl 1 rfl) ?_
  refine lv_iload_n hx hb dX5_work_38 rfl (lv_at hl 2 rfl) ?_
  refine zw_V_i (n := 1) (mc := 0) (ms := 0) (As := [.int (nI (j9))]) (rest := []) (w1 := fun u : va_W × (Nat → Int32) => u.1) hx hb hml hts hown hZ hP hD hS hA (c_X5_arrange l D cA _ _ ((mL_0 hm0 n nd nj my 0)) hI0 hM0 j9 t9 P9 hj9 hht hpq hP9) gX5_work_X5_arrange rfl rfl ⟨rfl, rfl⟩ ⟨by decide +kernel, Nat.le_of_ble_eq_true rfl, Nat.le_of_ble_eq_true rfl⟩ (zset_s m0) rfl hl.1 rfl (Nat.le_of_ble_eq_true rfl) ⟨Nat.le_of_ble_eq_true rfl, Nat.le_of_ble_eq_true rfl⟩ rfl dX5_work_39 (fun r_13 u_15 H locs hr_14 hP hD hS hz_15 => ?_)
  have hP : va_P D vwCl (u_15.1) H := hP
  have hD : va_D A (u_15.1) := hD
  obtain ⟨w_16, x_17⟩ := u_15
  obtain ⟨rfl, hkp_17, hm_17⟩ := hr_14
  obtain ⟨m0_17, m1_17, m2_17, m3_17, m4_17, m5_17, m6_17, m7_17, m8_17, m9_17, m10_17, m11_17, m12_17, m13_17, m14_17, m15_17, m16_17, m17_17, m18_17, m19_17, m20_17, m21_17⟩ := id hm_17
  have hP : va_P D vwCl (w_16) H := hP
  have hD : va_D A (w_16) := hD
  refine lv_pop hx hb dX5_work_42 rfl ?_
  refine lv_iconst (v := nI (0)) hx hb dX5_work_43 (by decide) ?_
  refine lv_istore_n (lv' := [(3, .int (nI (0))), (2, .int (bI (true))), (0, .ref (gd 0)), (1, .int (nI (j9)))]) hx hb dX5_work_44 rfl hl (by decide) rfl (fun ls hl => ?_)
  refine lv_iconst (v := nI (0)) hx hb dX5_work_45 (by decide) ?_
  refine lv_istore (lv' := [(4, .int (nI (0))), (3, .int (nI (0))), (2, .int (bI (true))), (0, .ref (gd 0)), (1, .int (nI (j9)))]) hx hb dX5_work_46 hl (by decide) rfl (fun ls hl => ?_)
  obtain ⟨zle, hzle⟩ : ∃ z, z = x_17 := ⟨_, rfl⟩
  refine z_loopW (α := Nat × Nat × va_W) (fun v => (wl fw (nI t9) nj).length - v.1) (fun v H locs ls => lv_has ls 7 [(0, .ref (gd 0)), (1, .int (nI (j9))), (4, .int (nI (v.1))), (3, .int (nI (v.2.1)))] ∧ va_P D vwCl (v.2.2) H ∧ va_D A (v.2.2) ∧ va_S A s.heap H locs ∧ mKeep ws v.2.2 ∧ mL cA v.2.2 gd n tr le sl mo la fc sf bf nd mk (va_up ck j9 (wkC mk tr le bo jf j9 t9 (fun i9 => (wl fw (nI t9) nj).getD ((BO (LG mk tr le bo jf j9 t9 P9 (wl fw (nI t9) nj)) (wl fw (nI t9) nj).length (np 0) 7).getD i9 0) 0) P9 (ck j9) v.1)) (va_up ct j9 (ct j9 + v.1)) hd (va_up pf j9 (nI (wkP bo jf t9 (fun i9 => (wl fw (nI t9) nj).getD ((BO (LG mk tr le bo jf j9 t9 P9 (wl fw (nI t9) nj)) (wl fw (nI t9) nj).length (np 0) 7).getD i9 0) 0) P9 v.1))) nj jt jf dl (wkG (fun i9 => (wl fw (nI t9) nj).getD ((BO (LG mk tr le bo jf j9 t9 P9 (wl fw (nI t9) nj)) (wl fw (nI t9) nj).length (np 0) 7).getD i9 0) 0) fin v.1) (wl fw (nI t9) nj).length (colF fls (wl fw (nI t9) nj)) (colF fod (BO (LG mk tr le bo jf j9 t9 P9 (wl fw (nI t9) nj)) (wl fw (nI t9) nj).length (np 0) 7)) zle fro 0 ∧ v.2.1 = (wkL mk tr le bo jf dl j9 t9 (fun i9 => (wl fw (nI t9) nj).getD ((BO (LG mk tr le bo jf j9 t9 P9 (wl fw (nI t9) nj)) (wl fw (nI t9) nj).length (np 0) 7).getD i9 0) 0) P9 (ck j9) v.1) ∧ v.1 ≤ (wl fw (nI t9) nj).length ∧ ct j9 + v.1 ≤ 12) (fun _ => []) (0, 0, w_16) ⟨lv_sub hl [3, 4, 0, 1] rfl, hP, hD, hS, (mKeep_tr (mKeep_set mKeep_rf (by decide)) hkp_17), (show mL cA w_16 gd n tr le sl mo la fc sf bf nd mk (va_up ck j9 (wkC mk tr le bo jf j9 t9 (fun i9 => (wl fw (nI t9) nj).getD ((BO (LG mk tr le bo jf j9 t9 P9 (wl fw (nI t9) nj)) (wl fw (nI t9) nj).length (np 0) 7).getD i9 0) 0) P9 (ck j9) 0)) (va_up ct j9 (ct j9 + 0)) hd (va_up pf j9 (nI (wkP bo jf t9 (fun i9 => (wl fw (nI t9) nj).getD ((BO (LG mk tr le bo jf j9 t9 P9 (wl fw (nI t9) nj)) (wl fw (nI t9) nj).length (np 0) 7).getD i9 0) 0) P9 0))) nj jt jf dl (wkG (fun i9 => (wl fw (nI t9) nj).getD ((BO (LG mk tr le bo jf j9 t9 P9 (wl fw (nI t9) nj)) (wl fw (nI t9) nj).length (np 0) 7).getD i9 0) 0) fin 0) (wl fw (nI t9) nj).length (colF fls (wl fw (nI t9) nj)) (colF fod (BO (LG mk tr le bo jf j9 t9 P9 (wl fw (nI t9) nj)) (wl fw (nI t9) nj).length (np 0) 7)) zle fro 0 from by
      have e1 : va_up pf j9 (nI (wkP bo jf t9 (fun i9 => (wl fw (nI t9) nj).getD ((BO (LG mk tr le bo jf j9 t9 P9 (wl fw (nI t9) nj)) (wl fw (nI t9) nj).length (np 0) 7).getD i9 0) 0) P9 0)) = pf := by
        show va_up pf j9 (nI P9) = pf
        rw [← hpf, va_up_id]
      have e2 : va_up ck j9 (wkC mk tr le bo jf j9 t9 (fun i9 => (wl fw (nI t9) nj).getD ((BO (LG mk tr le bo jf j9 t9 P9 (wl fw (nI t9) nj)) (wl fw (nI t9) nj).length (np 0) 7).getD i9 0) 0) P9 (ck j9) 0) = ck := va_up_id _ _
      have e3 : va_up ct j9 (ct j9 + 0) = ct := va_up_id _ _
      rw [e1, e2, e3, hzle]; exact hm_17), rfl, Nat.zero_le _, (by dsimp only; omega)⟩ ?_
  intro v ih48 H locs ls hv
  obtain ⟨i, x, w9⟩ := v
  obtain ⟨hl, hP, hD, hS, hI⟩ := hv
  have hP : va_P D vwCl (w9) H := hP
  have hD : va_D A (w9) := hD
  have hl : lv_has ls 7 [(0, .ref (gd 0)), (1, .int (nI (j9))), (4, .int (nI (i))), (3, .int (nI (x)))] := hl
  have hI : mKeep ws w9 ∧ mL cA w9 gd n tr le sl mo la fc sf bf nd mk (va_up ck j9 (wkC mk tr le bo jf j9 t9 (fun i9 => (wl fw (nI t9) nj).getD ((BO (LG mk tr le bo jf j9 t9 P9 (wl fw (nI t9) nj)) (wl fw (nI t9) nj).length (np 0) 7).getD i9 0) 0) P9 (ck j9) i)) (va_up ct j9 (ct j9 + i)) hd (va_up pf j9 (nI (wkP bo jf t9 (fun i9 => (wl fw (nI t9) nj).getD ((BO (LG mk tr le bo jf j9 t9 P9 (wl fw (nI t9) nj)) (wl fw (nI t9) nj).length (np 0) 7).getD i9 0) 0) P9 i))) nj jt jf dl (wkG (fun i9 => (wl fw (nI t9) nj).getD ((BO (LG mk tr le bo jf j9 t9 P9 (wl fw (nI t9) nj)) (wl fw (nI t9) nj).length (np 0) 7).getD i9 0) 0) fin i) (wl fw (nI t9) nj).length (colF fls (wl fw (nI t9) nj)) (colF fod (BO (LG mk tr le bo jf j9 t9 P9 (wl fw (nI t9) nj)) (wl fw (nI t9) nj).length (np 0) 7)) zle fro 0 ∧ x = (wkL mk tr le bo jf dl j9 t9 (fun i9 => (wl fw (nI t9) nj).getD ((BO (LG mk tr le bo jf j9 t9 P9 (wl fw (nI t9) nj)) (wl fw (nI t9) nj).length (np 0) 7).getD i9 0) 0) P9 (ck j9) i) ∧ i ≤ (wl fw (nI t9) nj).length ∧ ct j9 + i ≤ 12 := hI
  obtain ⟨hkp9, hm0, hI⟩ := hI
  obtain ⟨m0, m1, m2, m3, m4, m5, m6, m7, m8, m9, m10, m11, m12, m13, m14, m15, m16, m17, m18, m19, m20, m21⟩ := id hm0
  obtain ⟨hx1, hi, hc12⟩ := hI
  have hlai := wkL_le (mk := mk) (tr := tr) (le := le) (bo := bo) (jf := jf) (dl := dl) (j := j9) (t := t9) (Js := (fun i9 => (wl fw (nI t9) nj).getD ((BO (LG mk tr le bo jf j9 t9 P9 (wl fw (nI t9) nj)) (wl fw (nI t9) nj).length (np 0) 7).getD i9 0) 0)) (P := P9) (c := ck j9) i
  refine lv_iload hx hb dX5_work_48 (lv_at hl 2 rfl) ?_
  refine lv_aload_n hx hb dX5_work_50 rfl (lv_at hl 0 rfl) ?_
  refine va_get (D := D) (ci := 5) (v := .int (nI ((wl fw (nI t9) nj).length))) (C := RX5) (T := TX5) (N := 26) hx hb hts iX5 hown hZ.1 hP 0 m0 rfl 20 (by decide) (hts (.fieldLink RX5 164 "TapeRoboticsModel" "many" "I") (by decide +kernel)) (fun _ h9 => h9) rfl dX5_work_51 ?_
  refine zc_ge (tgt := 139) hx hb (by omega) (by omega) dX5_work_54 (by decide) (fun c_18 => ?_) (fun c_18 => ?_)
  · have hfin : i = (min (wl fw (nI t9) nj).length (12 - ct j9)) := by
      rcases Nat.lt_or_ge i (wl fw (nI t9) nj).length with h9 | h9
      · have h8 : ¬ ct j9 + i < 12 := by first | exact of_decide_eq_false (by assumption) | exact absurd h9 (Nat.not_lt.mpr (by assumption))
        rw [Nat.min_eq_right (by omega)]; omega
      · rw [Nat.min_eq_left (by omega)]; exact Nat.le_antisymm hi h9
    refine lv_iload_n hx hb dX5_work_139 rfl (lv_at hl 3 rfl) ?_
    exact zr_qi (S := va_W) (w1 := fun u => u) w9 hx hb hr hlocks (⟨by rw [← hfin, hx1], hkp9, _, _, _, _, _, (by rw [← hfin]; exact hm0)⟩) hP hD hS (rfl) dX5_work_140
  · refine lv_aload_n hx hb dX5_work_57 rfl (lv_at hl 0 rfl) ?_
    refine lv_iload_n hx hb dX5_work_58 rfl (lv_at hl 1 rfl) ?_
    refine zk_V_i (n := 1) (As := [.int (nI (j9))]) (rest := []) hx hb hml hts hown hZ hP (c_X5_isClean l D cA _ hm0 j9 (by omega) (by first | omega | (rw [va_up_self]; omega))) gX5_work_X5_isClean rfl rfl ⟨rfl, rfl⟩ ⟨by decide +kernel, Nat.le_of_ble_eq_true rfl, Nat.le_of_ble_eq_true rfl⟩ m0 rfl hl.1 rfl (Nat.le_of_ble_eq_true rfl) ⟨Nat.le_of_ble_eq_true rfl, Nat.le_of_ble_eq_true rfl⟩ rfl dX5_work_59 (fun r_19 hr_20 => ?_)
    obtain rfl := show r_19 = _ from hr_20
    refine zx_val (y := bI (decide (ct j9 + i < 12))) (by rw [va_up_self]) ?_
    refine zb_eq (tgt := 139) hx hb dX5_work_62 (by decide) (fun c_21 => ?_) (fun c_21 => ?_)
    · have hfin : i = (min (wl fw (nI t9) nj).length (12 - ct j9)) := by
        rcases Nat.lt_or_ge i (wl fw (nI t9) nj).length with h9 | h9
        · have h8 : ¬ ct j9 + i < 12 := by first | exact of_decide_eq_false (by assumption) | exact absurd h9 (Nat.not_lt.mpr (by assumption))
          rw [Nat.min_eq_right (by omega)]; omega
        · rw [Nat.min_eq_left (by omega)]; exact Nat.le_antisymm hi h9
      refine lv_iload_n hx hb dX5_work_139 rfl (lv_at hl 3 rfl) ?_
      exact zr_qi (S := va_W) (w1 := fun u => u) w9 hx hb hr hlocks (⟨by rw [← hfin, hx1], hkp9, _, _, _, _, _, (by rw [← hfin]; exact hm0)⟩) hP hD hS (rfl) dX5_work_140
    · have hcl9 : ct j9 + i < 12 := of_decide_eq_true (by assumption)
      have him : i < (wl fw (nI t9) nj).length := by omega
      have hboL : (BO (LG mk tr le bo jf j9 t9 P9 (wl fw (nI t9) nj)) (wl fw (nI t9) nj).length (np 0) 7).length = (wl fw (nI t9) nj).length := by rw [BO_length, np_0, cnt_all]
      have hboM : ∀ x, x ∈ (BO (LG mk tr le bo jf j9 t9 P9 (wl fw (nI t9) nj)) (wl fw (nI t9) nj).length (np 0) 7) → x < (wl fw (nI t9) nj).length := fun x hx => (BO_mem hx).1
      obtain ⟨k9, hk9⟩ : ∃ k, k = (BO (LG mk tr le bo jf j9 t9 P9 (wl fw (nI t9) nj)) (wl fw (nI t9) nj).length (np 0) 7).getD i 0 := ⟨_, rfl⟩
      have hkM : k9 < (wl fw (nI t9) nj).length := by rw [hk9]; exact hboM _ (getD_mem (by omega))
      obtain ⟨x9, hx9⟩ : ∃ x, x = (wl fw (nI t9) nj).getD k9 0 := ⟨_, rfl⟩
      have hxm : x9 ∈ (wl fw (nI t9) nj) := by rw [hx9]; exact getD_mem hkM
      obtain ⟨g1, g2⟩ := wl_mem hxm
      have g3 := hIJ x9 g1 t9 g2 htn
      have g4 := hbinc _ g3
      have g5 := bmono _ hbinc (jf x9 + 1) (by omega)
      have hwp9 : (wkP bo jf t9 (fun i9 => (wl fw (nI t9) nj).getD ((BO (LG mk tr le bo jf j9 t9 P9 (wl fw (nI t9) nj)) (wl fw (nI t9) nj).length (np 0) 7).getD i9 0) 0) P9 i) ≤ tr t9 * le t9 := by
        cases i with
        | zero => show P9 ≤ _; omega
        | succ i9 =>
          have h8 : (wl fw (nI t9) nj).getD ((BO (LG mk tr le bo jf j9 t9 P9 (wl fw (nI t9) nj)) (wl fw (nI t9) nj).length (np 0) 7).getD i9 0) 0 ∈ (wl fw (nI t9) nj) := getD_mem (hboM _ (getD_mem (by omega)))
          obtain ⟨k1, k2⟩ := wl_mem h8
          have k3 := hIJ _ k1 t9 k2 htn
          have k5 := bmono _ hbinc (jf ((wl fw (nI t9) nj).getD ((BO (LG mk tr le bo jf j9 t9 P9 (wl fw (nI t9) nj)) (wl fw (nI t9) nj).length (np 0) 7).getD i9 0) 0) + 1) (by omega)
          show bo t9 (jf ((wl fw (nI t9) nj).getD ((BO (LG mk tr le bo jf j9 t9 P9 (wl fw (nI t9) nj)) (wl fw (nI t9) nj).length (np 0) 7).getD i9 0) 0) + 1) ≤ _
          omega
      have e1 : nI (bo t9 (jf x9) + (bo t9 (jf x9 + 1) - bo t9 (jf x9))) = nI (wkP bo jf t9 (fun i9 => (wl fw (nI t9) nj).getD ((BO (LG mk tr le bo jf j9 t9 P9 (wl fw (nI t9) nj)) (wl fw (nI t9) nj).length (np 0) 7).getD i9 0) 0) P9 (i + 1)) := by
        show _ = nI (bo t9 (jf ((wl fw (nI t9) nj).getD ((BO (LG mk tr le bo jf j9 t9 P9 (wl fw (nI t9) nj)) (wl fw (nI t9) nj).length (np 0) 7).getD i 0) 0) + 1))
        rw [← hk9, ← hx9]; congr 1; omega
      have e2 : ((va_up ck j9 (wkC mk tr le bo jf j9 t9 (fun i9 => (wl fw (nI t9) nj).getD ((BO (LG mk tr le bo jf j9 t9 P9 (wl fw (nI t9) nj)) (wl fw (nI t9) nj).length (np 0) 7).getD i9 0) 0) P9 (ck j9) i)) j9) + (nI (wayT (zpa (mk j9)) (zsp (mk j9)) (tr t9) (le t9) (wkP bo jf t9 (fun i9 => (wl fw (nI t9) nj).getD ((BO (LG mk tr le bo jf j9 t9 P9 (wl fw (nI t9) nj)) (wl fw (nI t9) nj).length (np 0) 7).getD i9 0) 0) P9 i) (bo t9 (jf x9)) + 3 * (bo t9 (jf x9 + 1) - bo t9 (jf x9)))) = (wkC mk tr le bo jf j9 t9 (fun i9 => (wl fw (nI t9) nj).getD ((BO (LG mk tr le bo jf j9 t9 P9 (wl fw (nI t9) nj)) (wl fw (nI t9) nj).length (np 0) 7).getD i9 0) 0) P9 (ck j9) (i + 1)) := by
        rw [va_up_self]
        show _ = (wkC mk tr le bo jf j9 t9 (fun i9 => (wl fw (nI t9) nj).getD ((BO (LG mk tr le bo jf j9 t9 P9 (wl fw (nI t9) nj)) (wl fw (nI t9) nj).length (np 0) 7).getD i9 0) 0) P9 (ck j9) i) + nI (legT (zpa (mk j9)) (zsp (mk j9)) (tr t9) (le t9) (bo t9) (wkP bo jf t9 (fun i9 => (wl fw (nI t9) nj).getD ((BO (LG mk tr le bo jf j9 t9 P9 (wl fw (nI t9) nj)) (wl fw (nI t9) nj).length (np 0) 7).getD i9 0) 0) P9 i) (jf ((wl fw (nI t9) nj).getD ((BO (LG mk tr le bo jf j9 t9 P9 (wl fw (nI t9) nj)) (wl fw (nI t9) nj).length (np 0) 7).getD i 0) 0)))
        rw [← hk9, ← hx9]; rfl
      have e3 : (va_up ct j9 (ct j9 + i)) j9 + 1 = ct j9 + (i + 1) := by rw [va_up_self]; omega
      have e4 : va_up (wkG (fun i9 => (wl fw (nI t9) nj).getD ((BO (LG mk tr le bo jf j9 t9 P9 (wl fw (nI t9) nj)) (wl fw (nI t9) nj).length (np 0) 7).getD i9 0) 0) fin i) x9 true = (wkG (fun i9 => (wl fw (nI t9) nj).getD ((BO (LG mk tr le bo jf j9 t9 P9 (wl fw (nI t9) nj)) (wl fw (nI t9) nj).length (np 0) 7).getD i9 0) 0) fin (i + 1)) := by
        show _ = va_up (wkG (fun i9 => (wl fw (nI t9) nj).getD ((BO (LG mk tr le bo jf j9 t9 P9 (wl fw (nI t9) nj)) (wl fw (nI t9) nj).length (np 0) 7).getD i9 0) 0) fin i) ((wl fw (nI t9) nj).getD ((BO (LG mk tr le bo jf j9 t9 P9 (wl fw (nI t9) nj)) (wl fw (nI t9) nj).length (np 0) 7).getD i 0) 0) true
        rw [← hk9, ← hx9]
      have hdl9 := hIdl x9
      refine lv_aload_n hx hb dX5_work_65 rfl (lv_at hl 0 rfl) ?_
      refine va_get (D := D) (ci := 5) (v := .ref (gd 19)) (C := RX5) (T := TX5) (N := 26) hx hb hts iX5 hown hZ.1 hP 0 m0 rfl 22 (by decide) (hts (.fieldLink RX5 65 "TapeRoboticsModel" "order" "[I") (by decide +kernel)) (fun _ h9 => h9) rfl dX5_work_66 ?_
      refine lv_iload hx hb dX5_work_69 (lv_at hl 2 rfl) ?_
      refine va_iald hx hb hZ.1 hP 19 0 m19 rfl (vp_in_nI (show i < 7 by omega) (by omega)) dX5_work_71 ?_
      rw [nI_clamp (show i < 2 ^ 31 by omega)]
      refine zx_val (y := nI (k9)) (by rw [hk9]; exact colF_in (by omega)) ?_
      refine lv_istore (lv' := [(5, .int (nI (k9))), (0, .ref (gd 0)), (1, .int (nI (j9))), (4, .int (nI (i))), (3, .int (nI (x)))]) hx hb dX5_work_72 hl (by decide) rfl (fun ls hl => ?_)
      refine lv_aload_n hx hb dX5_work_74 rfl (lv_at hl 1 rfl) ?_
      refine va_get (D := D) (ci := 5) (v := .ref (gd 18)) (C := RX5) (T := TX5) (N := 26) hx hb hts iX5 hown hZ.1 hP 0 m0 rfl 21 (by decide) (hts (.fieldLink RX5 62 "TapeRoboticsModel" "list" "[I") (by decide +kernel)) (fun _ h9 => h9) rfl dX5_work_75 ?_
      refine lv_iload hx hb dX5_work_78 (lv_at hl 0 rfl) ?_
      refine va_iald hx hb hZ.1 hP 18 0 m18 rfl (vp_in_nI (show k9 < 7 by omega) (by omega)) dX5_work_80 ?_
      rw [nI_clamp (show k9 < 2 ^ 31 by omega)]
      refine zx_val (y := nI (x9)) (by rw [hx9]; exact colF_in hkM) ?_
      refine lv_istore (lv' := [(6, .int (nI (x9))), (5, .int (nI (k9))), (0, .ref (gd 0)), (1, .int (nI (j9))), (4, .int (nI (i))), (3, .int (nI (x)))]) hx hb dX5_work_81 hl (by decide) rfl (fun ls hl => ?_)
      refine lv_aload_n hx hb dX5_work_83 rfl (lv_at hl 2 rfl) ?_
      refine lv_iload_n hx hb dX5_work_84 rfl (lv_at hl 3 rfl) ?_
      refine lv_aload_n hx hb dX5_work_85 rfl (lv_at hl 2 rfl) ?_
      refine lv_iload hx hb dX5_work_86 (lv_at hl 1 rfl) ?_
      refine zk_V_i (n := 1) (As := [.int (nI (k9))]) (rest := [.int (nI (j9)), .ref (gd 0)]) hx hb hml hts hown hZ hP (c_X5_startOf l D cA _ hm0 bo t9 (wl fw (nI t9) nj) hJ ht8 k9 hkM) gX5_work_X5_startOf rfl rfl ⟨rfl, rfl⟩ ⟨by decide +kernel, Nat.le_of_ble_eq_true rfl, Nat.le_of_ble_eq_true rfl⟩ m0 rfl hl.1 rfl (Nat.le_of_ble_eq_true rfl) ⟨Nat.le_of_ble_eq_true rfl, Nat.le_of_ble_eq_true rfl⟩ rfl dX5_work_88 (fun r_22 hr_23 => ?_)
      obtain rfl := show r_22 = _ from hr_23
      refine zx_val (y := nI (bo t9 (jf x9))) (by rw [hx9]) ?_
      refine lv_aload_n hx hb dX5_work_91 rfl (lv_at hl 2 rfl) ?_
      refine lv_iload hx hb dX5_work_92 (lv_at hl 1 rfl) ?_
      refine zk_V_i (n := 1) (As := [.int (nI (k9))]) (rest := [.int (nI (bo t9 (jf x9))), .int (nI (j9)), .ref (gd 0)]) hx hb hml hts hown hZ hP (c_X5_blocksOf l D cA _ hm0 bo t9 (wl fw (nI t9) nj) hJ ht8 k9 hkM) gX5_work_X5_blocksOf rfl rfl ⟨rfl, rfl⟩ ⟨by decide +kernel, Nat.le_of_ble_eq_true rfl, Nat.le_of_ble_eq_true rfl⟩ m0 rfl hl.1 rfl (Nat.le_of_ble_eq_true rfl) ⟨Nat.le_of_ble_eq_true rfl, Nat.le_of_ble_eq_true rfl⟩ rfl dX5_work_94 (fun r_24 hr_25 => ?_)
      obtain rfl := show r_24 = _ from hr_25
      refine zx_val (y := nI (bo t9 (jf x9 + 1) - bo t9 (jf x9))) (by rw [hx9]) ?_
      refine zw_V_i (n := 3) (mc := 0) (ms := 0) (As := [.int (nI (j9)), .int (nI (bo t9 (jf x9))), .int (nI (bo t9 (jf x9 + 1) - bo t9 (jf x9)))]) (rest := []) (w1 := fun u : va_W => u) hx hb hml hts hown hZ hP hD hS hA (c_X5_run l D cA _ _ hm0 j9 t9 (wkP bo jf t9 (fun i9 => (wl fw (nI t9) nj).getD ((BO (LG mk tr le bo jf j9 t9 P9 (wl fw (nI t9) nj)) (wl fw (nI t9) nj).length (np 0) 7).getD i9 0) 0) P9 i) (bo t9 (jf x9)) (bo t9 (jf x9 + 1) - bo t9 (jf x9)) hj3 hht hmk (va_up_self _ _ _) hwp9 (by omega) ht8 htr hle) gX5_work_X5_run rfl rfl ⟨rfl, rfl⟩ ⟨by decide +kernel, Nat.le_of_ble_eq_true rfl, Nat.le_of_ble_eq_true rfl⟩ m0 rfl hl.1 rfl (Nat.le_of_ble_eq_true rfl) ⟨Nat.le_of_ble_eq_true rfl, Nat.le_of_ble_eq_true rfl⟩ rfl dX5_work_97 (fun r_26 u_28 H locs hr_27 hP hD hS hz_28 => ?_)
      have hP : va_P D vwCl (u_28) H := hP
      have hD : va_D A (u_28) := hD
      obtain ⟨rfl, hkp_28, hm_28⟩ := hr_27
      obtain ⟨m0_28, m1_28, m2_28, m3_28, m4_28, m5_28, m6_28, m7_28, m8_28, m9_28, m10_28, m11_28, m12_28, m13_28, m14_28, m15_28, m16_28, m17_28, m18_28, m19_28, m20_28, m21_28⟩ := id hm_28
      have hP : va_P D vwCl (u_28) H := hP
      have hD : va_D A (u_28) := hD
      refine lv_pop hx hb dX5_work_100 rfl ?_
      refine lv_aload_n hx hb dX5_work_101 rfl (lv_at hl 2 rfl) ?_
      refine va_get (D := D) (ci := 5) (v := .ref (gd 17)) (C := RX5) (T := TX5) (N := 26) hx hb hts iX5 hown hZ.1 hP 0 m0_28 rfl 19 (by decide) (hts (.fieldLink RX5 59 "TapeRoboticsModel" "finished" "[Z") (by decide +kernel)) (fun _ h9 => h9) rfl dX5_work_102 ?_
      refine lv_iload hx hb dX5_work_105 (lv_at hl 0 rfl) ?_
      refine lv_iconst (v := bI (true)) hx hb dX5_work_107 (by decide) ?_
      refine va_zast hx hb hZ.1 hP hD hS 17 3 m17_28 rfl (vp_in_nI (show x9 < 60 by omega) (by omega)) dX5_work_108 (fun H locs hP hD hS => ?_)
      rw [nI_clamp (show x9 < 2 ^ 31 by omega)] at hP hD
      rw [vnarB, upd_bI] at hP hD
      have hP : va_P D vwCl (u_28.set 17 (gd 17, zBols cA 60 (fun zk9 => bI ((va_up (wkG (fun i9 => (wl fw (nI t9) nj).getD ((BO (LG mk tr le bo jf j9 t9 P9 (wl fw (nI t9) nj)) (wl fw (nI t9) nj).length (np 0) 7).getD i9 0) 0) fin i) x9 true) zk9)))) H := hP
      have hD : va_D A (u_28.set 17 (gd 17, zBols cA 60 (fun zk9 => bI ((va_up (wkG (fun i9 => (wl fw (nI t9) nj).getD ((BO (LG mk tr le bo jf j9 t9 P9 (wl fw (nI t9) nj)) (wl fw (nI t9) nj).length (np 0) 7).getD i9 0) 0) fin i) x9 true) zk9)))) := hD
      refine lv_iload_n hx hb dX5_work_109 rfl (lv_at hl 5 rfl) ?_
      refine lv_aload_n hx hb dX5_work_110 rfl (lv_at hl 2 rfl) ?_
      refine va_get (D := D) (ci := 5) (v := .ref (gd 10)) (C := RX5) (T := TX5) (N := 26) hx hb hts iX5 hown hZ.1 hP 0 (zset_n m0_28 (by decide)) rfl 11 (by decide) (hts (.fieldLink RX5 38 "TapeRoboticsModel" "clock" "[I") (by decide +kernel)) (fun _ h9 => h9) rfl dX5_work_111 ?_
      refine lv_iload_n hx hb dX5_work_114 rfl (lv_at hl 3 rfl) ?_
      refine va_iald hx hb hZ.1 hP 10 0 (zset_n m10_28 (by decide)) rfl (vp_in_nI (show j9 < 3 by omega) (by omega)) dX5_work_115 ?_
      rw [nI_clamp (show j9 < 2 ^ 31 by omega)]
      refine zx_val (y := (wkC mk tr le bo jf j9 t9 (fun i9 => (wl fw (nI t9) nj).getD ((BO (LG mk tr le bo jf j9 t9 P9 (wl fw (nI t9) nj)) (wl fw (nI t9) nj).length (np 0) 7).getD i9 0) 0) P9 (ck j9) (i + 1))) (by rw [va_up_self]; exact e2) ?_
      refine lv_aload_n hx hb dX5_work_116 rfl (lv_at hl 2 rfl) ?_
      refine va_get (D := D) (ci := 5) (v := .ref (gd 16)) (C := RX5) (T := TX5) (N := 26) hx hb hts iX5 hown hZ.1 hP 0 (zset_n m0_28 (by decide)) rfl 18 (by decide) (hts (.fieldLink RX5 56 "TapeRoboticsModel" "deadline" "[I") (by decide +kernel)) (fun _ h9 => h9) rfl dX5_work_117 ?_
      refine lv_iload hx hb dX5_work_120 (lv_at hl 0 rfl) ?_
      refine va_iald hx hb hZ.1 hP 16 0 (zset_n m16_28 (by decide)) rfl (vp_in_nI (show x9 < 60 by omega) (by omega)) dX5_work_122 ?_
      rw [nI_clamp (show x9 < 2 ^ 31 by omega)]
      refine lv_icmp_le (tgt := 130) hx hb dX5_work_123 (by decide) (fun c_29 => ?_) (fun c_29 => ?_)
      · refine lv_iconst (v := nI (0)) hx hb dX5_work_130 (by decide) ?_
        refine zo_add hx hb dX5_work_131 ?_
        refine lv_istore_n (lv' := [(3, .int (nI (x + 0))), (6, .int (nI (x9))), (5, .int (nI (k9))), (0, .ref (gd 0)), (1, .int (nI (j9))), (4, .int (nI (i)))]) hx hb dX5_work_132 rfl hl (by decide) rfl (fun ls hl => ?_)
        refine lv_iinc (v := nI (i + 1)) (lv' := [(4, .int (nI (i + 1))), (3, .int (nI (x + 0))), (6, .int (nI (x9))), (5, .int (nI (k9))), (0, .ref (gd 0)), (1, .int (nI (j9)))]) hx hb dX5_work_133 hl (k := 5) rfl (zinc 1 _) (by decide) rfl (fun ls hl => ?_)
        refine lv_goto (tgt := 48) hx hb dX5_work_136 (by decide) ?_
        exact ih48 (i + 1, x + 0, (u_28.set 17 (gd 17, zBols cA 60 (fun zk9 => bI ((va_up (wkG (fun i9 => (wl fw (nI t9) nj).getD ((BO (LG mk tr le bo jf j9 t9 P9 (wl fw (nI t9) nj)) (wl fw (nI t9) nj).length (np 0) 7).getD i9 0) 0) fin i) x9 true) zk9))))) H locs ls (by first | omega | (dsimp only; omega)) ⟨lv_sub hl [4, 5, 0, 1] rfl, hP, hD, hS, (mKeep_set (mKeep_tr hkp9 hkp_28) (by decide)), (by
            have f1 : va_up (va_up pf j9 (nI (wkP bo jf t9 (fun i9 => (wl fw (nI t9) nj).getD ((BO (LG mk tr le bo jf j9 t9 P9 (wl fw (nI t9) nj)) (wl fw (nI t9) nj).length (np 0) 7).getD i9 0) 0) P9 i))) j9 (nI (bo t9 (jf x9) + (bo t9 (jf x9 + 1) - bo t9 (jf x9)))) = va_up pf j9 (nI (wkP bo jf t9 (fun i9 => (wl fw (nI t9) nj).getD ((BO (LG mk tr le bo jf j9 t9 P9 (wl fw (nI t9) nj)) (wl fw (nI t9) nj).length (np 0) 7).getD i9 0) 0) P9 (i + 1))) := by rw [va_up_up, e1]
            have f2 : va_up (va_up ck j9 (wkC mk tr le bo jf j9 t9 (fun i9 => (wl fw (nI t9) nj).getD ((BO (LG mk tr le bo jf j9 t9 P9 (wl fw (nI t9) nj)) (wl fw (nI t9) nj).length (np 0) 7).getD i9 0) 0) P9 (ck j9) i)) j9 (((va_up ck j9 (wkC mk tr le bo jf j9 t9 (fun i9 => (wl fw (nI t9) nj).getD ((BO (LG mk tr le bo jf j9 t9 P9 (wl fw (nI t9) nj)) (wl fw (nI t9) nj).length (np 0) 7).getD i9 0) 0) P9 (ck j9) i)) j9) + (nI (wayT (zpa (mk j9)) (zsp (mk j9)) (tr t9) (le t9) (wkP bo jf t9 (fun i9 => (wl fw (nI t9) nj).getD ((BO (LG mk tr le bo jf j9 t9 P9 (wl fw (nI t9) nj)) (wl fw (nI t9) nj).length (np 0) 7).getD i9 0) 0) P9 i) (bo t9 (jf x9)) + 3 * (bo t9 (jf x9 + 1) - bo t9 (jf x9))))) = va_up ck j9 (wkC mk tr le bo jf j9 t9 (fun i9 => (wl fw (nI t9) nj).getD ((BO (LG mk tr le bo jf j9 t9 P9 (wl fw (nI t9) nj)) (wl fw (nI t9) nj).length (np 0) 7).getD i9 0) 0) P9 (ck j9) (i + 1)) := by rw [va_up_up, e2]
            have f3 : va_up (va_up ct j9 (ct j9 + i)) j9 ((va_up ct j9 (ct j9 + i)) j9 + 1) = va_up ct j9 (ct j9 + (i + 1)) := by rw [va_up_up, e3]
            show mL cA (u_28.set 17 (gd 17, zBols cA 60 (fun zk9 => bI ((va_up (wkG (fun i9 => (wl fw (nI t9) nj).getD ((BO (LG mk tr le bo jf j9 t9 P9 (wl fw (nI t9) nj)) (wl fw (nI t9) nj).length (np 0) 7).getD i9 0) 0) fin i) x9 true) zk9)))) gd n tr le sl mo la fc sf bf nd mk (va_up ck j9 (wkC mk tr le bo jf j9 t9 (fun i9 => (wl fw (nI t9) nj).getD ((BO (LG mk tr le bo jf j9 t9 P9 (wl fw (nI t9) nj)) (wl fw (nI t9) nj).length (np 0) 7).getD i9 0) 0) P9 (ck j9) (i + 1))) (va_up ct j9 (ct j9 + (i + 1))) hd (va_up pf j9 (nI (wkP bo jf t9 (fun i9 => (wl fw (nI t9) nj).getD ((BO (LG mk tr le bo jf j9 t9 P9 (wl fw (nI t9) nj)) (wl fw (nI t9) nj).length (np 0) 7).getD i9 0) 0) P9 (i + 1)))) nj jt jf dl (wkG (fun i9 => (wl fw (nI t9) nj).getD ((BO (LG mk tr le bo jf j9 t9 P9 (wl fw (nI t9) nj)) (wl fw (nI t9) nj).length (np 0) 7).getD i9 0) 0) fin (i + 1)) (wl fw (nI t9) nj).length (colF fls (wl fw (nI t9) nj)) (colF fod (BO (LG mk tr le bo jf j9 t9 P9 (wl fw (nI t9) nj)) (wl fw (nI t9) nj).length (np 0) 7)) zle fro 0
            rw [← f1, ← f2, ← f3, ← e4]
            exact (mL_17 hm_28 ((va_up (wkG (fun i9 => (wl fw (nI t9) nj).getD ((BO (LG mk tr le bo jf j9 t9 P9 (wl fw (nI t9) nj)) (wl fw (nI t9) nj).length (np 0) 7).getD i9 0) 0) fin i) x9 true)))), (by show _ = (wkL mk tr le bo jf dl j9 t9 (fun i9 => (wl fw (nI t9) nj).getD ((BO (LG mk tr le bo jf j9 t9 P9 (wl fw (nI t9) nj)) (wl fw (nI t9) nj).length (np 0) 7).getD i9 0) 0) P9 (ck j9) (i + 1)); rw [wkL, ← hx1]; first | (rw [if_pos (show (wkC mk tr le bo jf j9 t9 (fun i9 => (wl fw (nI t9) nj).getD ((BO (LG mk tr le bo jf j9 t9 P9 (wl fw (nI t9) nj)) (wl fw (nI t9) nj).length (np 0) 7).getD i9 0) 0) P9 (ck j9) (i + 1)) ≤ nI (dl ((wl fw (nI t9) nj).getD ((BO (LG mk tr le bo jf j9 t9 P9 (wl fw (nI t9) nj)) (wl fw (nI t9) nj).length (np 0) 7).getD i 0) 0)) by rw [← hk9, ← hx9]; exact c_29)]; done) | (rw [if_neg (show ¬ (wkC mk tr le bo jf j9 t9 (fun i9 => (wl fw (nI t9) nj).getD ((BO (LG mk tr le bo jf j9 t9 P9 (wl fw (nI t9) nj)) (wl fw (nI t9) nj).length (np 0) 7).getD i9 0) 0) P9 (ck j9) (i + 1)) ≤ nI (dl ((wl fw (nI t9) nj).getD ((BO (LG mk tr le bo jf j9 t9 P9 (wl fw (nI t9) nj)) (wl fw (nI t9) nj).length (np 0) 7).getD i 0) 0)) by rw [← hk9, ← hx9]; exact c_29)])), (by dsimp only; omega), (by dsimp only; omega)⟩
      · refine lv_iconst (v := nI (1)) hx hb dX5_work_126 (by decide) ?_
        refine lv_goto (tgt := 131) hx hb dX5_work_127 (by decide) ?_
        refine zo_add hx hb dX5_work_131 ?_
        refine lv_istore_n (lv' := [(3, .int (nI (x + 1))), (6, .int (nI (x9))), (5, .int (nI (k9))), (0, .ref (gd 0)), (1, .int (nI (j9))), (4, .int (nI (i)))]) hx hb dX5_work_132 rfl hl (by decide) rfl (fun ls hl => ?_)
        refine lv_iinc (v := nI (i + 1)) (lv' := [(4, .int (nI (i + 1))), (3, .int (nI (x + 1))), (6, .int (nI (x9))), (5, .int (nI (k9))), (0, .ref (gd 0)), (1, .int (nI (j9)))]) hx hb dX5_work_133 hl (k := 5) rfl (zinc 1 _) (by decide) rfl (fun ls hl => ?_)
        refine lv_goto (tgt := 48) hx hb dX5_work_136 (by decide) ?_
        exact ih48 (i + 1, x + 1, (u_28.set 17 (gd 17, zBols cA 60 (fun zk9 => bI ((va_up (wkG (fun i9 => (wl fw (nI t9) nj).getD ((BO (LG mk tr le bo jf j9 t9 P9 (wl fw (nI t9) nj)) (wl fw (nI t9) nj).length (np 0) 7).getD i9 0) 0) fin i) x9 true) zk9))))) H locs ls (by first | omega | (dsimp only; omega)) ⟨lv_sub hl [4, 5, 0, 1] rfl, hP, hD, hS, (mKeep_set (mKeep_tr hkp9 hkp_28) (by decide)), (by
            have f1 : va_up (va_up pf j9 (nI (wkP bo jf t9 (fun i9 => (wl fw (nI t9) nj).getD ((BO (LG mk tr le bo jf j9 t9 P9 (wl fw (nI t9) nj)) (wl fw (nI t9) nj).length (np 0) 7).getD i9 0) 0) P9 i))) j9 (nI (bo t9 (jf x9) + (bo t9 (jf x9 + 1) - bo t9 (jf x9)))) = va_up pf j9 (nI (wkP bo jf t9 (fun i9 => (wl fw (nI t9) nj).getD ((BO (LG mk tr le bo jf j9 t9 P9 (wl fw (nI t9) nj)) (wl fw (nI t9) nj).length (np 0) 7).getD i9 0) 0) P9 (i + 1))) := by rw [va_up_up, e1]
            have f2 : va_up (va_up ck j9 (wkC mk tr le bo jf j9 t9 (fun i9 => (wl fw (nI t9) nj).getD ((BO (LG mk tr le bo jf j9 t9 P9 (wl fw (nI t9) nj)) (wl fw (nI t9) nj).length (np 0) 7).getD i9 0) 0) P9 (ck j9) i)) j9 (((va_up ck j9 (wkC mk tr le bo jf j9 t9 (fun i9 => (wl fw (nI t9) nj).getD ((BO (LG mk tr le bo jf j9 t9 P9 (wl fw (nI t9) nj)) (wl fw (nI t9) nj).length (np 0) 7).getD i9 0) 0) P9 (ck j9) i)) j9) + (nI (wayT (zpa (mk j9)) (zsp (mk j9)) (tr t9) (le t9) (wkP bo jf t9 (fun i9 => (wl fw (nI t9) nj).getD ((BO (LG mk tr le bo jf j9 t9 P9 (wl fw (nI t9) nj)) (wl fw (nI t9) nj).length (np 0) 7).getD i9 0) 0) P9 i) (bo t9 (jf x9)) + 3 * (bo t9 (jf x9 + 1) - bo t9 (jf x9))))) = va_up ck j9 (wkC mk tr le bo jf j9 t9 (fun i9 => (wl fw (nI t9) nj).getD ((BO (LG mk tr le bo jf j9 t9 P9 (wl fw (nI t9) nj)) (wl fw (nI t9) nj).length (np 0) 7).getD i9 0) 0) P9 (ck j9) (i + 1)) := by rw [va_up_up, e2]
            have f3 : va_up (va_up ct j9 (ct j9 + i)) j9 ((va_up ct j9 (ct j9 + i)) j9 + 1) = va_up ct j9 (ct j9 + (i + 1)) := by rw [va_up_up, e3]
            show mL cA (u_28.set 17 (gd 17, zBols cA 60 (fun zk9 => bI ((va_up (wkG (fun i9 => (wl fw (nI t9) nj).getD ((BO (LG mk tr le bo jf j9 t9 P9 (wl fw (nI t9) nj)) (wl fw (nI t9) nj).length (np 0) 7).getD i9 0) 0) fin i) x9 true) zk9)))) gd n tr le sl mo la fc sf bf nd mk (va_up ck j9 (wkC mk tr le bo jf j9 t9 (fun i9 => (wl fw (nI t9) nj).getD ((BO (LG mk tr le bo jf j9 t9 P9 (wl fw (nI t9) nj)) (wl fw (nI t9) nj).length (np 0) 7).getD i9 0) 0) P9 (ck j9) (i + 1))) (va_up ct j9 (ct j9 + (i + 1))) hd (va_up pf j9 (nI (wkP bo jf t9 (fun i9 => (wl fw (nI t9) nj).getD ((BO (LG mk tr le bo jf j9 t9 P9 (wl fw (nI t9) nj)) (wl fw (nI t9) nj).length (np 0) 7).getD i9 0) 0) P9 (i + 1)))) nj jt jf dl (wkG (fun i9 => (wl fw (nI t9) nj).getD ((BO (LG mk tr le bo jf j9 t9 P9 (wl fw (nI t9) nj)) (wl fw (nI t9) nj).length (np 0) 7).getD i9 0) 0) fin (i + 1)) (wl fw (nI t9) nj).length (colF fls (wl fw (nI t9) nj)) (colF fod (BO (LG mk tr le bo jf j9 t9 P9 (wl fw (nI t9) nj)) (wl fw (nI t9) nj).length (np 0) 7)) zle fro 0
            rw [← f1, ← f2, ← f3, ← e4]
            exact (mL_17 hm_28 ((va_up (wkG (fun i9 => (wl fw (nI t9) nj).getD ((BO (LG mk tr le bo jf j9 t9 P9 (wl fw (nI t9) nj)) (wl fw (nI t9) nj).length (np 0) 7).getD i9 0) 0) fin i) x9 true)))), (by show _ = (wkL mk tr le bo jf dl j9 t9 (fun i9 => (wl fw (nI t9) nj).getD ((BO (LG mk tr le bo jf j9 t9 P9 (wl fw (nI t9) nj)) (wl fw (nI t9) nj).length (np 0) 7).getD i9 0) 0) P9 (ck j9) (i + 1)); rw [wkL, ← hx1]; first | (rw [if_pos (show (wkC mk tr le bo jf j9 t9 (fun i9 => (wl fw (nI t9) nj).getD ((BO (LG mk tr le bo jf j9 t9 P9 (wl fw (nI t9) nj)) (wl fw (nI t9) nj).length (np 0) 7).getD i9 0) 0) P9 (ck j9) (i + 1)) ≤ nI (dl ((wl fw (nI t9) nj).getD ((BO (LG mk tr le bo jf j9 t9 P9 (wl fw (nI t9) nj)) (wl fw (nI t9) nj).length (np 0) 7).getD i 0) 0)) by rw [← hk9, ← hx9]; exact c_29)]; done) | (rw [if_neg (show ¬ (wkC mk tr le bo jf j9 t9 (fun i9 => (wl fw (nI t9) nj).getD ((BO (LG mk tr le bo jf j9 t9 P9 (wl fw (nI t9) nj)) (wl fw (nI t9) nj).length (np 0) 7).getD i9 0) 0) P9 (ck j9) (i + 1)) ≤ nI (dl ((wl fw (nI t9) nj).getD ((BO (LG mk tr le bo jf j9 t9 P9 (wl fw (nI t9) nj)) (wl fw (nI t9) nj).length (np 0) 7).getD i 0) 0)) by rw [← hk9, ← hx9]; exact c_29)])), (by dsimp only; omega), (by dsimp only; omega)⟩

set_option maxHeartbeats 4000000 in
set_option maxRecDepth 100000 in
theorem c_X5_work_no (l : Launch) (D : va_G) (cA : Nat → ClassId) (sz : Nat) (ws : va_W) {gd : Nat → Nat} {n : Nat} {tr : Nat → Nat} {le : Nat → Nat} {sl : Nat → Nat} {mo : Nat → Option Nat} {la : Nat → Bool} {fc : Nat → Nat} {sf : Nat → Int32} {bf : Nat → Int32} {nd : Nat} {mk : Nat → Nat} {ck : Nat → Int32} {ct : Nat → Nat} {hd : Nat → Option Nat} {pf : Nat → Int32} {nj : Nat} {jt : Nat → Int32} {jf : Nat → Nat} {dl : Nat → Nat} {fin : Nat → Bool} {my : Nat} {fls : Nat → Int32} {fod : Nat → Int32} {fle : Nat → Int32} {fro : Nat → Int32} {th : Nat} {bo : Nat → Nat → Nat} {pq : Nat → Int32} {fw : Nat → Int32} {dn : Nat} (hm : mL cA ws gd n tr le sl mo la fc sf bf nd mk ck ct hd pf nj jt jf dl fin my fls fod fle fro th) (hI : zI n tr le sl mo fc bo nd mk ct hd pq nj fw jf dl) (hM : mI n la fc bo nd ck ct hd pq pf nj fw jt fin sf bf dn) (v0 : Int32) (h0 : (kS (ix v0 nd) (fun j => (hd j).isSome && decide (ct j < 12))) ≠ 0) : Met l yX5_work wsX5_work ({ frames := 5, cells := 0, slots := 0, locals := 124 }) (va_Pc [.ref (gd 0), .int (v0)] (zM D cA (ws) sz)) (va_Qi (fun (r : Int32) (u : va_W) => mKeep ws u ∧ ∃ my9 fls9 fod9 fle9 fro9, mL cA u gd n tr le sl mo la fc sf bf nd mk ck ct hd pf nj jt jf dl fin my9 fls9 fod9 fle9 fro9 (kS (ix v0 nd) (fun j => (hd j).isSome && decide (ct j < 12)))) (fun u => zB D (va_A (ws) sz) (u)) (va_A (ws) sz)) 0 0 (va_A (ws) sz) := by
  refine zOpen (cc := cX5_work) (maxL := 7) (ret := (some .int)) (own := RX5) (by decide) rfl rfl (Nat.le_of_ble_eq_true rfl) ?_
  intro p e s m below meth c ls hx hb hr hml hts hown hlocks hnm ⟨hZ, hP, hD0, hsz⟩ hl
  subst hsz
  have hD := hD0.self (sz := s.heap.size)
  generalize hAe : va_A (ws) s.heap.size = A at hD ⊢
  have hA : ∀ q : Nat, s.heap.size ≤ q → A q := fun q h => by rw [← hAe]; exact Or.inr h
  have hS : va_S A s.heap s.heap [] := va_S.rf
  have iX5 : ∀ w ∈ wsX50, w ∈ wsX5_work := by decide +kernel
  have hl : lv_has ls 7 [(0, .ref (gd 0)), (1, .int (v0))] := hl
  have hm0 := hm
  have hI0 := hI
  have hM0 := hM
  obtain ⟨hn8, hd3, hj60, hIT, hID, hIJ, hIdl, hIw⟩ := hI
  obtain ⟨hM1, hM2, hM3, hM4, hM5, hM6, hM7⟩ := hM
  obtain ⟨m0, m1, m2, m3, m4, m5, m6, m7, m8, m9, m10, m11, m12, m13, m14, m15, m16, m17, m18, m19, m20, m21⟩ := hm
  have hfc10 : ∀ i, i < n → fc i ≤ 10 := fun i hi => (hIT i hi).2.2.2.2.2.2.1
  have hsl12 : ∀ i, i < n → sl i < 12 := fun i hi => (hIT i hi).2.2.2.2.1
  have hH8 : ∀ j, j < nd → ∀ t, hd j = some t → t < 8 := fun j hj t h => by have := ((hID j hj).2.2.2 t h).1; omega
  have hmo3 : ∀ i, i < n → ∀ j, mo i = some j → j < nd := fun i hi j h => ((hIT i hi).2.2.2.2.2.1 j h).1
  have hfw : ∀ k, k < nj → fw k = if fin k then -1 else jt k := fun k hk => (hM5 k hk).1
  rcases kS_no h0 with ⟨ho, hK⟩ | ⟨j9, ho, hc, hK⟩
  · refine lv_aload_n hx hb dX5_work_0 rfl (lv_at hl 0 rfl) ?_
    refine lv_iload_n hx hb dX5_work_1 rfl (lv_at hl 1 rfl) ?_
    refine zk_V_i (n := 1) (As := [.int (v0)]) (rest := []) hx hb hml hts hown hZ hP (c_X5_hasTape l D cA _ hm0 hd3 hH8 v0) gX5_work_X5_hasTape rfl rfl ⟨rfl, rfl⟩ ⟨by decide +kernel, Nat.le_of_ble_eq_true rfl, Nat.le_of_ble_eq_true rfl⟩ m0 rfl hl.1 rfl (Nat.le_of_ble_eq_true rfl) ⟨Nat.le_of_ble_eq_true rfl, Nat.le_of_ble_eq_true rfl⟩ rfl dX5_work_2 (fun r_1 hr_2 => ?_)
    obtain rfl := show r_1 = _ from hr_2
    refine zx_val (y := bI (false)) (by rw [ho]; rfl) ?_
    refine lv_istore_n (lv' := [(2, .int (bI (false))), (0, .ref (gd 0)), (1, .int (v0))]) hx hb dX5_work_5 rfl hl (by decide) rfl (fun ls hl => ?_)
    refine lv_aload_n hx hb dX5_work_6 rfl (lv_at hl 1 rfl) ?_
    refine lv_aload_n hx hb dX5_work_7 rfl (lv_at hl 1 rfl) ?_
    refine lv_iload_n hx hb dX5_work_8 rfl (lv_at hl 2 rfl) ?_
    refine zk_V_i (n := 1) (As := [.int (v0)]) (rest := [.ref (gd 0)]) hx hb hml hts hown hZ hP (c_X5_isDrive l D cA _ hm0 (by omega) v0) gX5_work_X5_isDrive rfl rfl ⟨rfl, rfl⟩ ⟨by decide +kernel, Nat.le_of_ble_eq_true rfl, Nat.le_of_ble_eq_true rfl⟩ m0 rfl hl.1 rfl (Nat.le_of_ble_eq_true rfl) ⟨Nat.le_of_ble_eq_true rfl, Nat.le_of_ble_eq_true rfl⟩ rfl dX5_work_9 (fun r_3 hr_4 => ?_)
    obtain rfl := show r_3 = _ from hr_4
    refine zx_val (y := bI (false)) (by rw [ho]; rfl) ?_
    refine lv_iload_n hx hb dX5_work_12 rfl (lv_at hl 0 rfl) ?_
    refine zb_eq (tgt := 28) hx hb dX5_work_13 (by decide) (fun c_5 => ?_) (fun c_5 => Bool.noConfusion c_5)
    refine lv_iconst (v := nI (0)) hx hb dX5_work_28 (by decide) ?_
    refine zw_V_i (n := 2) (mc := 0) (ms := 0) (As := [.int (bI (false)), .int (bI (false))]) (rest := []) (w1 := fun u : Unit => ws.set 0 (gd 0, zMod gd n nd nj my 1)) hx hb hml hts hown hZ hP hD hS hA (c_X5_mayBoth l D cA _ _ gd n nd nj my th false false (m0)) gX5_work_X5_mayBoth rfl rfl ⟨rfl, rfl⟩ ⟨by decide +kernel, Nat.le_of_ble_eq_true rfl, Nat.le_of_ble_eq_true rfl⟩ m0 rfl hl.1 rfl (Nat.le_of_ble_eq_true rfl) ⟨Nat.le_of_ble_eq_true rfl, Nat.le_of_ble_eq_true rfl⟩ rfl dX5_work_29 (fun r_6 u_8 H locs hr_7 hP hD hS hz_8 => ?_)
    obtain rfl := show r_6 = _ from hr_7
    have hP : va_P D vwCl (ws.set 0 (gd 0, zMod gd n nd nj my 1)) H := hP
    have hD : va_D A (ws.set 0 (gd 0, zMod gd n nd nj my 1)) := hD
    refine zb_ne (tgt := 37) hx hb dX5_work_32 (by decide) (fun c_9 => Bool.noConfusion c_9) (fun c_9 => ?_)
    refine lv_iconst (v := nI (0)) hx hb dX5_work_35 (by decide) ?_
    exact zr_qi (S := va_W) (w1 := fun u => u) (ws.set 0 (gd 0, zMod gd n nd nj my 1)) hx hb hr hlocks (⟨(mKeep_set mKeep_rf (by decide)), _, _, _, _, _, (by rw [hK]; exact (mL_0 hm0 n nd nj my 1))⟩) hP hD hS (rfl) dX5_work_36
  · obtain ⟨hj9, rfl⟩ := ix_some ho
    have hct11 := (hID j9 hj9).2.1
    (try dsimp only at hc)
    have hl : lv_has ls 7 [(0, .ref (gd 0)), (1, .int (nI (j9)))] := hl
    rcases hht : hd j9 with _ | t9
    · refine lv_aload_n hx hb dX5_work_0 rfl (lv_at hl 0 rfl) ?_
      refine lv_iload_n hx hb dX5_work_1 rfl (lv_at hl 1 rfl) ?_
      refine zk_V_i (n := 1) (As := [.int (nI (j9))]) (rest := []) hx hb hml hts hown hZ hP (c_X5_hasTape l D cA _ hm0 hd3 hH8 (nI (j9))) gX5_work_X5_hasTape rfl rfl ⟨rfl, rfl⟩ ⟨by decide +kernel, Nat.le_of_ble_eq_true rfl, Nat.le_of_ble_eq_true rfl⟩ m0 rfl hl.1 rfl (Nat.le_of_ble_eq_true rfl) ⟨Nat.le_of_ble_eq_true rfl, Nat.le_of_ble_eq_true rfl⟩ rfl dX5_work_2 (fun r_10 hr_11 => ?_)
      obtain rfl := show r_10 = _ from hr_11
      refine zx_val (y := bI (false)) (by rw [ix_in (by omega) hj9]; show bI (hd j9).isSome = _; rw [hht]; rfl) ?_
      refine lv_istore_n (lv' := [(2, .int (bI (false))), (0, .ref (gd 0)), (1, .int (nI (j9)))]) hx hb dX5_work_5 rfl hl (by decide) rfl (fun ls hl => ?_)
      refine lv_aload_n hx hb dX5_work_6 rfl (lv_at hl 1 rfl) ?_
      refine lv_aload_n hx hb dX5_work_7 rfl (lv_at hl 1 rfl) ?_
      refine lv_iload_n hx hb dX5_work_8 rfl (lv_at hl 2 rfl) ?_
      refine zk_V_i (n := 1) (As := [.int (nI (j9))]) (rest := [.ref (gd 0)]) hx hb hml hts hown hZ hP (c_X5_isDrive l D cA _ hm0 (by omega) (nI (j9))) gX5_work_X5_isDrive rfl rfl ⟨rfl, rfl⟩ ⟨by decide +kernel, Nat.le_of_ble_eq_true rfl, Nat.le_of_ble_eq_true rfl⟩ m0 rfl hl.1 rfl (Nat.le_of_ble_eq_true rfl) ⟨Nat.le_of_ble_eq_true rfl, Nat.le_of_ble_eq_true rfl⟩ rfl dX5_work_9 (fun r_12 hr_13 => ?_)
      obtain rfl := show r_12 = _ from hr_13
      refine zx_val (y := bI (true)) (by rw [ix_in (by omega) hj9]; rfl) ?_
      refine lv_iload_n hx hb dX5_work_12 rfl (lv_at hl 0 rfl) ?_
      refine zb_eq (tgt := 28) hx hb dX5_work_13 (by decide) (fun c_14 => ?_) (fun c_14 => Bool.noConfusion c_14)
      refine lv_iconst (v := nI (0)) hx hb dX5_work_28 (by decide) ?_
      refine zw_V_i (n := 2) (mc := 0) (ms := 0) (As := [.int (bI (true)), .int (bI (false))]) (rest := []) (w1 := fun u : Unit => ws.set 0 (gd 0, zMod gd n nd nj my 2)) hx hb hml hts hown hZ hP hD hS hA (c_X5_mayBoth l D cA _ _ gd n nd nj my th true false (m0)) gX5_work_X5_mayBoth rfl rfl ⟨rfl, rfl⟩ ⟨by decide +kernel, Nat.le_of_ble_eq_true rfl, Nat.le_of_ble_eq_true rfl⟩ m0 rfl hl.1 rfl (Nat.le_of_ble_eq_true rfl) ⟨Nat.le_of_ble_eq_true rfl, Nat.le_of_ble_eq_true rfl⟩ rfl dX5_work_29 (fun r_15 u_17 H locs hr_16 hP hD hS hz_17 => ?_)
      obtain rfl := show r_15 = _ from hr_16
      have hP : va_P D vwCl (ws.set 0 (gd 0, zMod gd n nd nj my 2)) H := hP
      have hD : va_D A (ws.set 0 (gd 0, zMod gd n nd nj my 2)) := hD
      refine zb_ne (tgt := 37) hx hb dX5_work_32 (by decide) (fun c_18 => Bool.noConfusion c_18) (fun c_18 => ?_)
      refine lv_iconst (v := nI (0)) hx hb dX5_work_35 (by decide) ?_
      exact zr_qi (S := va_W) (w1 := fun u => u) (ws.set 0 (gd 0, zMod gd n nd nj my 2)) hx hb hr hlocks (⟨(mKeep_set mKeep_rf (by decide)), _, _, _, _, _, (by rw [hK]; exact (mL_0 hm0 n nd nj my 2))⟩) hP hD hS (rfl) dX5_work_36
    · rw [hht] at hc
      have hc9 : decide (ct j9 < 12) = false := hc
      refine lv_aload_n hx hb dX5_work_0 rfl (lv_at hl 0 rfl) ?_
      refine lv_iload_n hx hb dX5_work_1 rfl (lv_at hl 1 rfl) ?_
      refine zk_V_i (n := 1) (As := [.int (nI (j9))]) (rest := []) hx hb hml hts hown hZ hP (c_X5_hasTape l D cA _ hm0 hd3 hH8 (nI (j9))) gX5_work_X5_hasTape rfl rfl ⟨rfl, rfl⟩ ⟨by decide +kernel, Nat.le_of_ble_eq_true rfl, Nat.le_of_ble_eq_true rfl⟩ m0 rfl hl.1 rfl (Nat.le_of_ble_eq_true rfl) ⟨Nat.le_of_ble_eq_true rfl, Nat.le_of_ble_eq_true rfl⟩ rfl dX5_work_2 (fun r_19 hr_20 => ?_)
      obtain rfl := show r_19 = _ from hr_20
      refine zx_val (y := bI (true)) (by rw [ix_in (by omega) hj9]; show bI (hd j9).isSome = _; rw [hht]; rfl) ?_
      refine lv_istore_n (lv' := [(2, .int (bI (true))), (0, .ref (gd 0)), (1, .int (nI (j9)))]) hx hb dX5_work_5 rfl hl (by decide) rfl (fun ls hl => ?_)
      refine lv_aload_n hx hb dX5_work_6 rfl (lv_at hl 1 rfl) ?_
      refine lv_aload_n hx hb dX5_work_7 rfl (lv_at hl 1 rfl) ?_
      refine lv_iload_n hx hb dX5_work_8 rfl (lv_at hl 2 rfl) ?_
      refine zk_V_i (n := 1) (As := [.int (nI (j9))]) (rest := [.ref (gd 0)]) hx hb hml hts hown hZ hP (c_X5_isDrive l D cA _ hm0 (by omega) (nI (j9))) gX5_work_X5_isDrive rfl rfl ⟨rfl, rfl⟩ ⟨by decide +kernel, Nat.le_of_ble_eq_true rfl, Nat.le_of_ble_eq_true rfl⟩ m0 rfl hl.1 rfl (Nat.le_of_ble_eq_true rfl) ⟨Nat.le_of_ble_eq_true rfl, Nat.le_of_ble_eq_true rfl⟩ rfl dX5_work_9 (fun r_21 hr_22 => ?_)
      obtain rfl := show r_21 = _ from hr_22
      refine zx_val (y := bI (true)) (by rw [ix_in (by omega) hj9]; rfl) ?_
      refine lv_iload_n hx hb dX5_work_12 rfl (lv_at hl 0 rfl) ?_
      refine zb_eq (tgt := 28) hx hb dX5_work_13 (by decide) (fun c_23 => Bool.noConfusion c_23) (fun c_23 => ?_)
      refine lv_aload_n hx hb dX5_work_16 rfl (lv_at hl 1 rfl) ?_
      refine lv_iload_n hx hb dX5_work_17 rfl (lv_at hl 2 rfl) ?_
      refine zk_V_i (n := 1) (As := [.int (nI (j9))]) (rest := [.int (bI (true)), .ref (gd 0)]) hx hb hml hts hown hZ hP (c_X5_isClean l D cA _ hm0 j9 (by omega) (by first | omega | (dsimp only; omega))) gX5_work_X5_isClean rfl rfl ⟨rfl, rfl⟩ ⟨by decide +kernel, Nat.le_of_ble_eq_true rfl, Nat.le_of_ble_eq_true rfl⟩ m0 rfl hl.1 rfl (Nat.le_of_ble_eq_true rfl) ⟨Nat.le_of_ble_eq_true rfl, Nat.le_of_ble_eq_true rfl⟩ rfl dX5_work_18 (fun r_24 hr_25 => ?_)
      obtain rfl := show r_24 = _ from hr_25
      refine zx_val (y := bI (false)) (by rw [hc9]) ?_
      refine zb_eq (tgt := 28) hx hb dX5_work_21 (by decide) (fun c_26 => ?_) (fun c_26 => Bool.noConfusion c_26)
      refine lv_iconst (v := nI (0)) hx hb dX5_work_28 (by decide) ?_
      refine zw_V_i (n := 2) (mc := 0) (ms := 0) (As := [.int (bI (true)), .int (bI (false))]) (rest := []) (w1 := fun u : Unit => ws.set 0 (gd 0, zMod gd n nd nj my 2)) hx hb hml hts hown hZ hP hD hS hA (c_X5_mayBoth l D cA _ _ gd n nd nj my th true false (m0)) gX5_work_X5_mayBoth rfl rfl ⟨rfl, rfl⟩ ⟨by decide +kernel, Nat.le_of_ble_eq_true rfl, Nat.le_of_ble_eq_true rfl⟩ m0 rfl hl.1 rfl (Nat.le_of_ble_eq_true rfl) ⟨Nat.le_of_ble_eq_true rfl, Nat.le_of_ble_eq_true rfl⟩ rfl dX5_work_29 (fun r_27 u_29 H locs hr_28 hP hD hS hz_29 => ?_)
      obtain rfl := show r_27 = _ from hr_28
      have hP : va_P D vwCl (ws.set 0 (gd 0, zMod gd n nd nj my 2)) H := hP
      have hD : va_D A (ws.set 0 (gd 0, zMod gd n nd nj my 2)) := hD
      refine zb_ne (tgt := 37) hx hb dX5_work_32 (by decide) (fun c_30 => Bool.noConfusion c_30) (fun c_30 => ?_)
      refine lv_iconst (v := nI (0)) hx hb dX5_work_35 (by decide) ?_
      exact zr_qi (S := va_W) (w1 := fun u => u) (ws.set 0 (gd 0, zMod gd n nd nj my 2)) hx hb hr hlocks (⟨(mKeep_set mKeep_rf (by decide)), _, _, _, _, _, (by rw [hK]; exact (mL_0 hm0 n nd nj my 2))⟩) hP hD hS (rfl) dX5_work_36

