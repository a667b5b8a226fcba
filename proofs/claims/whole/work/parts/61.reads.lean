theorem k1_no {o : Option Nat} (h : k1 o ≠ 0) : o = none ∧ k1 o = 1 := by
  cases o with
  | none => exact ⟨rfl, rfl⟩
  | some a => exact absurd rfl h
theorem k1b_no {o : Option Nat} {q : Nat → Option Nat} (h : k1b o q ≠ 0) : (o = none ∧ k1b o q = 1) ∨ ∃ t, o = some t ∧ q t = none ∧ k1b o q = 1 := by
  cases o with
  | none => exact Or.inl ⟨rfl, rfl⟩
  | some a =>
    cases hq : q a with
    | none => exact Or.inr ⟨a, rfl, hq, k1b_2 rfl hq⟩
    | some b => exact absurd (by simp [k1b, hq]) h
theorem kS_no {o : Option Nat} {c : Nat → Bool} (h : kS o c ≠ 0) : (o = none ∧ kS o c = 1) ∨ ∃ a, o = some a ∧ c a = false ∧ kS o c = 2 := by
  cases o with
  | none => exact Or.inl ⟨rfl, rfl⟩
  | some a =>
    cases hq : c a with
    | false => exact Or.inr ⟨a, rfl, hq, kS_n rfl hq⟩
    | true => exact absurd (kS_y rfl hq) h
theorem k2_no {o q : Option Nat} {c : Nat → Nat → Bool} (h : k2 o q c ≠ 0) : (o = none ∧ k2 o q c = 1) ∨ (∃ a, o = some a ∧ q = none ∧ k2 o q c = 1) ∨ ∃ a b, o = some a ∧ q = some b ∧ c a b = false ∧ k2 o q c = 2 := by
  cases o with
  | none => exact Or.inl ⟨rfl, k2_l rfl⟩
  | some a =>
    cases q with
    | none => exact Or.inr (Or.inl ⟨a, rfl, rfl, k2_r rfl⟩)
    | some b =>
      cases hc : c a b with
      | false => exact Or.inr (Or.inr ⟨a, b, rfl, rfl, hc, k2_n rfl rfl hc⟩)
      | true => exact absurd (k2_y rfl rfl hc) h
theorem k3_no {o q : Option Nat} {c : Nat → Nat → Bool} (h : k3 o q c ≠ 0) : (o = none ∧ k3 o q c = 1) ∨ (∃ a, o = some a ∧ q = none ∧ k3 o q c = 2) ∨ ∃ a b, o = some a ∧ q = some b ∧ c a b = false ∧ k3 o q c = 3 := by
  cases o with
  | none => exact Or.inl ⟨rfl, k3_1 rfl⟩
  | some a =>
    cases q with
    | none => exact Or.inr (Or.inl ⟨a, rfl, rfl, k3_2 rfl rfl⟩)
    | some b =>
      cases hc : c a b with
      | false => exact Or.inr (Or.inr ⟨a, b, rfl, rfl, hc, k3_3 rfl rfl hc⟩)
      | true => exact absurd (k3_0 rfl rfl hc) h
theorem kR_no {o : Option Nat} {hd q : Nat → Option Nat} {c : Nat → Bool} (h : kR o hd q c ≠ 0) : (o = none ∧ kR o hd q c = 1) ∨ (∃ j, o = some j ∧ hd j = none ∧ kR o hd q c = 2) ∨ (∃ j t, o = some j ∧ hd j = some t ∧ q t = none ∧ kR o hd q c = 1) ∨ ∃ j t f, o = some j ∧ hd j = some t ∧ q t = some f ∧ c j = false ∧ kR o hd q c = 2 := by
  cases o with
  | none => exact Or.inl ⟨rfl, kR_1 rfl⟩
  | some j =>
    cases h1 : hd j with
    | none => exact Or.inr (Or.inl ⟨j, rfl, h1, kR_2 rfl h1⟩)
    | some t =>
      cases h2 : q t with
      | none => exact Or.inr (Or.inr (Or.inl ⟨j, t, rfl, h1, h2, kR_3 rfl h1 h2⟩))
      | some f =>
        cases h3 : c j with
        | false => exact Or.inr (Or.inr (Or.inr ⟨j, t, f, rfl, h1, h2, h3, kR_4 rfl h1 h2 h3⟩))
        | true => exact absurd (kR_0 rfl h1 h2 h3) h
theorem kJ_no {o : Option Nat} {q : Nat → Option Nat} {d : Option Nat} {c : Nat → Bool} (h : kJ o q d c ≠ 0) : (o = none ∧ kJ o q d c = 1) ∨ (∃ t, o = some t ∧ q t = none ∧ kJ o q d c = 1) ∨ (∃ t f, o = some t ∧ q t = some f ∧ d = none ∧ kJ o q d c = 2) ∨ ∃ t f e, o = some t ∧ q t = some f ∧ d = some e ∧ c t = false ∧ kJ o q d c = 3 := by
  cases o with
  | none => exact Or.inl ⟨rfl, kJ_1 rfl⟩
  | some t =>
    cases h2 : q t with
    | none => exact Or.inr (Or.inl ⟨t, rfl, h2, kJ_2 rfl h2⟩)
    | some f =>
      cases d with
      | none => exact Or.inr (Or.inr (Or.inl ⟨t, f, rfl, h2, rfl, kJ_3 rfl h2 rfl⟩))
      | some e =>
        cases h3 : c t with
        | false => exact Or.inr (Or.inr (Or.inr ⟨t, f, e, rfl, h2, rfl, h3, kJ_4 rfl h2 rfl h3⟩))
        | true => exact absurd (kJ_0 rfl h2 rfl h3) h
theorem rg_0 {v : Int32} {hi : Nat} : rg v 0 hi = ix v (hi + 1) := by
  unfold rg
  cases ix v (hi + 1) with
  | none => rfl
  | some b => exact if_pos (Nat.zero_le b)
theorem bfalse {a b : Bool} (h : (a && b) = false) : a = false ∨ b = false := by cases a <;> cases b <;> simp_all
set_option maxHeartbeats 4000000 in
set_option maxRecDepth 100000 in
theorem c_X5_files_ok (l : Launch) (D : va_G) (cA : Nat → ClassId) (sz : Nat) (ws : va_W) {gd : Nat → Nat} {n : Nat} {tr : Nat → Nat} {le : Nat → Nat} {sl : Nat → Nat} {mo : Nat → Option Nat} {la : Nat → Bool} {fc : Nat → Nat} {sf : Nat → Int32} {bf : Nat → Int32} {nd : Nat} {mk : Nat → Nat} {ck : Nat → Int32} {ct : Nat → Nat} {hd : Nat → Option Nat} {pf : Nat → Int32} {nj : Nat} {jt : Nat → Int32} {jf : Nat → Nat} {dl : Nat → Nat} {fin : Nat → Bool} {my : Nat} {fls : Nat → Int32} {fod : Nat → Int32} {fle : Nat → Int32} {fro : Nat → Int32} {th : Nat} {bo : Nat → Nat → Nat} {pq : Nat → Int32} {fw : Nat → Int32} {dn : Nat} (hm : mL cA ws gd n tr le sl mo la fc sf bf nd mk ck ct hd pf nj jt jf dl fin my fls fod fle fro th) (hI : zI n tr le sl mo fc bo nd mk ct hd pq nj fw jf dl) (hM : mI n la fc bo nd ck ct hd pq pf nj fw jt fin sf bf dn) (t : Nat) (htn : t < n) : Met l yX5_files wsX5_files ({ frames := 2, cells := 0, slots := 0, locals := 43 }) (va_Pc [.ref (gd 0), .int (nI (t))] (zM D cA (ws) sz)) (va_Qi (fun (r : Int32) (u : va_W) => r = nI (fc t) ∧ mKeep ws u ∧ mL cA u gd n tr le sl mo la fc sf bf nd mk ck ct hd pf nj jt jf dl fin my fls fod fle fro 0) (fun u => zB D (va_A (ws) sz) (u)) (va_A (ws) sz)) 0 0 (va_A (ws) sz) := by
  refine zOpen (cc := cX5_files) (maxL := 2) (ret := (some .int)) (own := RX5) (by decide) rfl rfl (Nat.le_of_ble_eq_true rfl) ?_
  intro p e s m below meth c ls hx hb hr hml hts hown hlocks hnm ⟨hZ, hP, hD0, hsz⟩ hl
  subst hsz
  have hD := hD0.self (sz := s.heap.size)
  generalize hAe : va_A (ws) s.heap.size = A at hD ⊢
  have hA : ∀ q : Nat, s.heap.size ≤ q → A q := fun q h => by rw [← hAe]; exact Or.inr h
  have hS : va_S A s.heap s.heap [] := va_S.rf
  have iX5 : ∀ w ∈ wsX50, w ∈ wsX5_files := by decide +kernel
  have hl : lv_has ls 2 [(0, .ref (gd 0)), (1, .int (nI (t)))] := hl
  have hm0 := hm
  have hI0 := hI
  have hM0 := hM
  obtain ⟨hn8, hd3, hj60, hIT, hID, hIJ, hIdl, hIw⟩ := hI
  obtain ⟨hM1, hM2, hM3, hM4, hM5, hM6, hM7⟩ := hM
  obtain ⟨m0, m1, m2, m3, m4, m5, m6, m7, m8, m9, m10, m11, m12, m13, m14, m15, m16, m17, m18, m19, m20, m21⟩ := hm
  have hfc10 : ∀ i, i < n → fc i ≤ 10 := fun i hi => (hIT i hi).2.2.2.2.2.2.1
  have hsl12 : ∀ i, i < n → sl i < 12 := fun i hi => (hIT i hi).2.2.2.2.1
  have hH8 : ∀ j, j < nd → ∀ t, hd j = some t → t < 8 := fun j hj t h => by have := ((hID j hj).2.2.2 t h).1; omega
  have hmo3 : ∀ i, i < n → ∀ j, mo i = some j → j < nd := fun i hi j h => ((hIT i hi).2.2.2.2.2.1 j h).1
  have hfw : ∀ k, k < nj → fw k = if fin k then -1 else jt k := fun k hk => (hM5 k hk).1
  refine lv_aload_n hx hb dX5_files_0 rfl (lv_at hl 0 rfl) ?_
  refine lv_aload_n hx hb dX5_files_1 rfl (lv_at hl 0 rfl) ?_
  refine lv_iload_n hx hb dX5_files_2 rfl (lv_at hl 1 rfl) ?_
  refine zk_V_i (n := 1) (As := [.int (nI (t))]) (rest := [.ref (gd 0)]) hx hb hml hts hown hZ hP (c_X5_isTape l D cA _ hm0 (by omega) (nI (t))) gX5_files_X5_isTape rfl rfl ⟨rfl, rfl⟩ ⟨by decide +kernel, Nat.le_of_ble_eq_true rfl, Nat.le_of_ble_eq_true rfl⟩ m0 rfl hl.1 rfl (Nat.le_of_ble_eq_true rfl) ⟨Nat.le_of_ble_eq_true rfl, Nat.le_of_ble_eq_true rfl⟩ rfl dX5_files_3 (fun r_1 hr_2 => ?_)
  obtain rfl := show r_1 = _ from hr_2
  refine zx_val (y := bI (true)) (by rw [ix_in (by omega) htn]; rfl) ?_
  refine zw_V_i (n := 1) (mc := 0) (ms := 0) (As := [.int (bI (true))]) (rest := []) (w1 := fun u : Unit => ws.set 0 (gd 0, zMod gd n nd nj my 0)) hx hb hml hts hown hZ hP hD hS hA (c_X5_may l D cA _ _ gd n nd nj my th true (m0)) gX5_files_X5_may rfl rfl ⟨rfl, rfl⟩ ⟨by decide +kernel, Nat.le_of_ble_eq_true rfl, Nat.le_of_ble_eq_true rfl⟩ m0 rfl hl.1 rfl (Nat.le_of_ble_eq_true rfl) ⟨Nat.le_of_ble_eq_true rfl, Nat.le_of_ble_eq_true rfl⟩ rfl dX5_files_6 (fun r_3 u_5 H locs hr_4 hP hD hS hz_5 => ?_)
  obtain rfl := show r_3 = _ from hr_4
  have hP : va_P D vwCl (ws.set 0 (gd 0, zMod gd n nd nj my 0)) H := hP
  have hD : va_D A (ws.set 0 (gd 0, zMod gd n nd nj my 0)) := hD
  refine zb_eq (tgt := 21) hx hb dX5_files_9 (by decide) (fun c_6 => Bool.noConfusion c_6) (fun c_6 => ?_)
  refine lv_aload_n hx hb dX5_files_12 rfl (lv_at hl 0 rfl) ?_
  refine va_get (D := D) (ci := 5) (v := .ref (gd 6)) (C := RX5) (T := TX5) (N := 26) hx hb hts iX5 hown hZ.1 hP 0 (zset_s m0) rfl 6 (by decide) (hts (.fieldLink RX5 26 "TapeRoboticsModel" "files" "[I") (by decide +kernel)) (fun _ h9 => h9) rfl dX5_files_13 ?_
  refine lv_iload_n hx hb dX5_files_16 rfl (lv_at hl 1 rfl) ?_
  refine va_iald hx hb hZ.1 hP 6 0 (zset_n m6 (by decide)) rfl (vp_in_nI (show t < 8 by omega) (by omega)) dX5_files_17 ?_
  rw [nI_clamp (show t < 2 ^ 31 by omega)]
  refine lv_goto (tgt := 22) hx hb dX5_files_18 (by decide) ?_
  exact zr_qi (S := va_W) (w1 := fun u => u) (ws.set 0 (gd 0, zMod gd n nd nj my 0)) hx hb hr hlocks (⟨rfl, (mKeep_set mKeep_rf (by decide)), (mL_0 hm0 n nd nj my 0)⟩) hP hD hS (rfl) dX5_files_22

set_option maxHeartbeats 4000000 in
set_option maxRecDepth 100000 in
theorem c_X5_files_no (l : Launch) (D : va_G) (cA : Nat → ClassId) (sz : Nat) (ws : va_W) {gd : Nat → Nat} {n : Nat} {tr : Nat → Nat} {le : Nat → Nat} {sl : Nat → Nat} {mo : Nat → Option Nat} {la : Nat → Bool} {fc : Nat → Nat} {sf : Nat → Int32} {bf : Nat → Int32} {nd : Nat} {mk : Nat → Nat} {ck : Nat → Int32} {ct : Nat → Nat} {hd : Nat → Option Nat} {pf : Nat → Int32} {nj : Nat} {jt : Nat → Int32} {jf : Nat → Nat} {dl : Nat → Nat} {fin : Nat → Bool} {my : Nat} {fls : Nat → Int32} {fod : Nat → Int32} {fle : Nat → Int32} {fro : Nat → Int32} {th : Nat} {bo : Nat → Nat → Nat} {pq : Nat → Int32} {fw : Nat → Int32} {dn : Nat} (hm : mL cA ws gd n tr le sl mo la fc sf bf nd mk ck ct hd pf nj jt jf dl fin my fls fod fle fro th) (hI : zI n tr le sl mo fc bo nd mk ct hd pq nj fw jf dl) (hM : mI n la fc bo nd ck ct hd pq pf nj fw jt fin sf bf dn) (v0 : Int32) (h0 : (k1 (ix v0 n)) ≠ 0) : Met l yX5_files wsX5_files ({ frames := 2, cells := 0, slots := 0, locals := 43 }) (va_Pc [.ref (gd 0), .int (v0)] (zM D cA (ws) sz)) (va_Qi (fun (r : Int32) (u : va_W) => mKeep ws u ∧ mL cA u gd n tr le sl mo la fc sf bf nd mk ck ct hd pf nj jt jf dl fin my fls fod fle fro (k1 (ix v0 n))) (fun u => zB D (va_A (ws) sz) (u)) (va_A (ws) sz)) 0 0 (va_A (ws) sz) := by
  refine zOpen (cc := cX5_files) (maxL := 2) (ret := (some .int)) (own := RX5) (by decide) rfl rfl (Nat.le_of_ble_eq_true rfl) ?_
  intro p e s m below meth c ls hx hb hr hml hts hown hlocks hnm ⟨hZ, hP, hD0, hsz⟩ hl
  subst hsz
  have hD := hD0.self (sz := s.heap.size)
  generalize hAe : va_A (ws) s.heap.size = A at hD ⊢
  have hA : ∀ q : Nat, s.heap.size ≤ q → A q := fun q h => by rw [← hAe]; exact Or.inr h
  have hS : va_S A s.heap s.heap [] := va_S.rf
  have iX5 : ∀ w ∈ wsX50, w ∈ wsX5_files := by decide +kernel
  have hl : lv_has ls 2 [(0, .ref (gd 0)), (1, .int (v0))] := hl
  have hm0 := hm
  have hI0 := hI
  have hM0 := hM
  obtain ⟨hn8, hd3, hj60, hIT, hID, hIJ, hIdl, hIw⟩ := hI
  obtain ⟨hM1, hM2, hM3, hM4, hM5, hM6, hM7⟩ := hM
  obtain ⟨m0, m1, m2, m3, m4, m5, m6, m7, m8, m9, m10, m11, m12, m13, m14, m15, m16, m17, m18, m19, m20, m21⟩ := hm
  have hfc10 : ∀ i, i < n → fc i ≤ 10 := fun i hi => (hIT i hi).2.2.2.2.2.2.1
  have hsl12 : ∀ i, i < n → sl i < 12 := fun i hi => (hIT i hi).2.2.2.2.1
  have hH8 : ∀ j, j < nd → ∀ t, hd j = some t → t < 8 := fun j hj t h => by have := ((hID j hj).2.2.2 t h).1; omega
  have hmo3 : ∀ i, i < n → ∀ j, mo i = some j → j < nd := fun i hi j h => ((hIT i hi).2.2.2.2.2.1 j h).1
  have hfw : ∀ k, k < nj → fw k = if fin k then -1 else jt k := fun k hk => (hM5 k hk).1
  obtain ⟨ho, hK⟩ := k1_no h0
  · refine lv_aload_n hx hb dX5_files_0 rfl (lv_at hl 0 rfl) ?_
    refine lv_aload_n hx hb dX5_files_1 rfl (lv_at hl 0 rfl) ?_
    refine lv_iload_n hx hb dX5_files_2 rfl (lv_at hl 1 rfl) ?_
    refine zk_V_i (n := 1) (As := [.int (v0)]) (rest := [.ref (gd 0)]) hx hb hml hts hown hZ hP (c_X5_isTape l D cA _ hm0 (by omega) v0) gX5_files_X5_isTape rfl rfl ⟨rfl, rfl⟩ ⟨by decide +kernel, Nat.le_of_ble_eq_true rfl, Nat.le_of_ble_eq_true rfl⟩ m0 rfl hl.1 rfl (Nat.le_of_ble_eq_true rfl) ⟨Nat.le_of_ble_eq_true rfl, Nat.le_of_ble_eq_true rfl⟩ rfl dX5_files_3 (fun r_1 hr_2 => ?_)
    obtain rfl := show r_1 = _ from hr_2
    refine zx_val (y := bI (false)) (by rw [ho]; rfl) ?_
    refine zw_V_i (n := 1) (mc := 0) (ms := 0) (As := [.int (bI (false))]) (rest := []) (w1 := fun u : Unit => ws.set 0 (gd 0, zMod gd n nd nj my 1)) hx hb hml hts hown hZ hP hD hS hA (c_X5_may l D cA _ _ gd n nd nj my th false (m0)) gX5_files_X5_may rfl rfl ⟨rfl, rfl⟩ ⟨by decide +kernel, Nat.le_of_ble_eq_true rfl, Nat.le_of_ble_eq_true rfl⟩ m0 rfl hl.1 rfl (Nat.le_of_ble_eq_true rfl) ⟨Nat.le_of_ble_eq_true rfl, Nat.le_of_ble_eq_true rfl⟩ rfl dX5_files_6 (fun r_3 u_5 H locs hr_4 hP hD hS hz_5 => ?_)
    obtain rfl := show r_3 = _ from hr_4
    have hP : va_P D vwCl (ws.set 0 (gd 0, zMod gd n nd nj my 1)) H := hP
    have hD : va_D A (ws.set 0 (gd 0, zMod gd n nd nj my 1)) := hD
    refine zb_eq (tgt := 21) hx hb dX5_files_9 (by decide) (fun c_6 => ?_) (fun c_6 => Bool.noConfusion c_6)
    refine lv_iconst (v := nI (0)) hx hb dX5_files_21 (by decide) ?_
    exact zr_qi (S := va_W) (w1 := fun u => u) (ws.set 0 (gd 0, zMod gd n nd nj my 1)) hx hb hr hlocks (⟨(mKeep_set mKeep_rf (by decide)), (by rw [hK]; exact (mL_0 hm0 n nd nj my 1))⟩) hP hD hS (rfl) dX5_files_22

set_option maxHeartbeats 4000000 in
set_option maxRecDepth 100000 in
theorem c_X5_waiting_ok (l : Launch) (D : va_G) (cA : Nat → ClassId) (sz : Nat) (ws : va_W) {gd : Nat → Nat} {n : Nat} {tr : Nat → Nat} {le : Nat → Nat} {sl : Nat → Nat} {mo : Nat → Option Nat} {la : Nat → Bool} {fc : Nat → Nat} {sf : Nat → Int32} {bf : Nat → Int32} {nd : Nat} {mk : Nat → Nat} {ck : Nat → Int32} {ct : Nat → Nat} {hd : Nat → Option Nat} {pf : Nat → Int32} {nj : Nat} {jt : Nat → Int32} {jf : Nat → Nat} {dl : Nat → Nat} {fin : Nat → Bool} {my : Nat} {fls : Nat → Int32} {fod : Nat → Int32} {fle : Nat → Int32} {fro : Nat → Int32} {th : Nat} {bo : Nat → Nat → Nat} {pq : Nat → Int32} {fw : Nat → Int32} {dn : Nat} (hm : mL cA ws gd n tr le sl mo la fc sf bf nd mk ck ct hd pf nj jt jf dl fin my fls fod fle fro th) (hI : zI n tr le sl mo fc bo nd mk ct hd pq nj fw jf dl) (hM : mI n la fc bo nd ck ct hd pq pf nj fw jt fin sf bf dn) (t : Nat) (htn : t < n) : Met l yX5_waiting wsX5_waiting ({ frames := 2, cells := 0, slots := 0, locals := 45 }) (va_Pc [.ref (gd 0), .int (nI (t))] (zM D cA (ws) sz)) (va_Qi (fun (r : Int32) (u : va_W) => r = nI (wl fw (nI t) nj).length ∧ mKeep ws u ∧ mL cA u gd n tr le sl mo la fc sf bf nd mk ck ct hd pf nj jt jf dl fin my fls fod fle fro 0) (fun u => zB D (va_A (ws) sz) (u)) (va_A (ws) sz)) 0 0 (va_A (ws) sz) := by
  refine zOpen (cc := cX5_waiting) (maxL := 2) (ret := (some .int)) (own := RX5) (by decide) rfl rfl (Nat.le_of_ble_eq_true rfl) ?_
  intro p e s m below meth c ls hx hb hr hml hts hown hlocks hnm ⟨hZ, hP, hD0, hsz⟩ hl
  subst hsz
  have hD := hD0.self (sz := s.heap.size)
  generalize hAe : va_A (ws) s.heap.size = A at hD ⊢
  have hA : ∀ q : Nat, s.heap.size ≤ q → A q := fun q h => by rw [← hAe]; exact Or.inr h
  have hS : va_S A s.heap s.heap [] := va_S.rf
  have hl : lv_has ls 2 [(0, .ref (gd 0)), (1, .int (nI (t)))] := hl
  have hm0 := hm
  have hI0 := hI
  have hM0 := hM
  obtain ⟨hn8, hd3, hj60, hIT, hID, hIJ, hIdl, hIw⟩ := hI
  obtain ⟨hM1, hM2, hM3, hM4, hM5, hM6, hM7⟩ := hM
  obtain ⟨m0, m1, m2, m3, m4, m5, m6, m7, m8, m9, m10, m11, m12, m13, m14, m15, m16, m17, m18, m19, m20, m21⟩ := hm
  have hfc10 : ∀ i, i < n → fc i ≤ 10 := fun i hi => (hIT i hi).2.2.2.2.2.2.1
  have hsl12 : ∀ i, i < n → sl i < 12 := fun i hi => (hIT i hi).2.2.2.2.1
  have hH8 : ∀ j, j < nd → ∀ t, hd j = some t → t < 8 := fun j hj t h => by have := ((hID j hj).2.2.2 t h).1; omega
  have hmo3 : ∀ i, i < n → ∀ j, mo i = some j → j < nd := fun i hi j h => ((hIT i hi).2.2.2.2.2.1 j h).1
  have hfw : ∀ k, k < nj → fw k = if fin k then -1 else jt k := fun k hk => (hM5 k hk).1
  refine lv_aload_n hx hb dX5_waiting_0 rfl (lv_at hl 0 rfl) ?_
  refine lv_aload_n hx hb dX5_waiting_1 rfl (lv_at hl 0 rfl) ?_
  refine lv_iload_n hx hb dX5_waiting_2 rfl (lv_at hl 1 rfl) ?_
  refine zk_V_i (n := 1) (As := [.int (nI (t))]) (rest := [.ref (gd 0)]) hx hb hml hts hown hZ hP (c_X5_isTape l D cA _ hm0 (by omega) (nI (t))) gX5_waiting_X5_isTape rfl rfl ⟨rfl, rfl⟩ ⟨by decide +kernel, Nat.le_of_ble_eq_true rfl, Nat.le_of_ble_eq_true rfl⟩ m0 rfl hl.1 rfl (Nat.le_of_ble_eq_true rfl) ⟨Nat.le_of_ble_eq_true rfl, Nat.le_of_ble_eq_true rfl⟩ rfl dX5_waiting_3 (fun r_1 hr_2 => ?_)
  obtain rfl := show r_1 = _ from hr_2
  refine zx_val (y := bI (true)) (by rw [ix_in (by omega) htn]; rfl) ?_
  refine zw_V_i (n := 1) (mc := 0) (ms := 0) (As := [.int (bI (true))]) (rest := []) (w1 := fun u : Unit => ws.set 0 (gd 0, zMod gd n nd nj my 0)) hx hb hml hts hown hZ hP hD hS hA (c_X5_may l D cA _ _ gd n nd nj my th true (m0)) gX5_waiting_X5_may rfl rfl ⟨rfl, rfl⟩ ⟨by decide +kernel, Nat.le_of_ble_eq_true rfl, Nat.le_of_ble_eq_true rfl⟩ m0 rfl hl.1 rfl (Nat.le_of_ble_eq_true rfl) ⟨Nat.le_of_ble_eq_true rfl, Nat.le_of_ble_eq_true rfl⟩ rfl dX5_waiting_6 (fun r_3 u_5 H locs hr_4 hP hD hS hz_5 => ?_)
  obtain rfl := show r_3 = _ from hr_4
  have hP : va_P D vwCl (ws.set 0 (gd 0, zMod gd n nd nj my 0)) H := hP
  have hD : va_D A (ws.set 0 (gd 0, zMod gd n nd nj my 0)) := hD
  refine zb_eq (tgt := 20) hx hb dX5_waiting_9 (by decide) (fun c_6 => Bool.noConfusion c_6) (fun c_6 => ?_)
  refine lv_aload_n hx hb dX5_waiting_12 rfl (lv_at hl 0 rfl) ?_
  refine lv_iload_n hx hb dX5_waiting_13 rfl (lv_at hl 1 rfl) ?_
  refine zk_V_i (n := 1) (As := [.int (nI (t))]) (rest := []) hx hb hml hts hown hZ hP (c_X5_waitingAt l D cA _ ((mL_0 hm0 n nd nj my 0)) fw hfw t hj60 (by omega)) gX5_waiting_X5_waitingAt rfl rfl ⟨rfl, rfl⟩ ⟨by decide +kernel, Nat.le_of_ble_eq_true rfl, Nat.le_of_ble_eq_true rfl⟩ (zset_s m0) rfl hl.1 rfl (Nat.le_of_ble_eq_true rfl) ⟨Nat.le_of_ble_eq_true rfl, Nat.le_of_ble_eq_true rfl⟩ rfl dX5_waiting_14 (fun r_7 hr_8 => ?_)
  obtain rfl := show r_7 = _ from hr_8
  refine lv_goto (tgt := 21) hx hb dX5_waiting_17 (by decide) ?_
  exact zr_qi (S := va_W) (w1 := fun u => u) (ws.set 0 (gd 0, zMod gd n nd nj my 0)) hx hb hr hlocks (⟨rfl, (mKeep_set mKeep_rf (by decide)), (mL_0 hm0 n nd nj my 0)⟩) hP hD hS (rfl) dX5_waiting_21

set_option maxHeartbeats 4000000 in
set_option maxRecDepth 100000 in
theorem c_X5_waiting_no (l : Launch) (D : va_G) (cA : Nat → ClassId) (sz : Nat) (ws : va_W) {gd : Nat → Nat} {n : Nat} {tr : Nat → Nat} {le : Nat → Nat} {sl : Nat → Nat} {mo : Nat → Option Nat} {la : Nat → Bool} {fc : Nat → Nat} {sf : Nat → Int32} {bf : Nat → Int32} {nd : Nat} {mk : Nat → Nat} {ck : Nat → Int32} {ct : Nat → Nat} {hd : Nat → Option Nat} {pf : Nat → Int32} {nj : Nat} {jt : Nat → Int32} {jf : Nat → Nat} {dl : Nat → Nat} {fin : Nat → Bool} {my : Nat} {fls : Nat → Int32} {fod : Nat → Int32} {fle : Nat → Int32} {fro : Nat → Int32} {th : Nat} {bo : Nat → Nat → Nat} {pq : Nat → Int32} {fw : Nat → Int32} {dn : Nat} (hm : mL cA ws gd n tr le sl mo la fc sf bf nd mk ck ct hd pf nj jt jf dl fin my fls fod fle fro th) (hI : zI n tr le sl mo fc bo nd mk ct hd pq nj fw jf dl) (hM : mI n la fc bo nd ck ct hd pq pf nj fw jt fin sf bf dn) (v0 : Int32) (h0 : (k1 (ix v0 n)) ≠ 0) : Met l yX5_waiting wsX5_waiting ({ frames := 2, cells := 0, slots := 0, locals := 45 }) (va_Pc [.ref (gd 0), .int (v0)] (zM D cA (ws) sz)) (va_Qi (fun (r : Int32) (u : va_W) => mKeep ws u ∧ mL cA u gd n tr le sl mo la fc sf bf nd mk ck ct hd pf nj jt jf dl fin my fls fod fle fro (k1 (ix v0 n))) (fun u => zB D (va_A (ws) sz) (u)) (va_A (ws) sz)) 0 0 (va_A (ws) sz) := by
  refine zOpen (cc := cX5_waiting) (maxL := 2) (ret := (some .int)) (own := RX5) (by decide) rfl rfl (Nat.le_of_ble_eq_true rfl) ?_
  intro p e s m below meth c ls hx hb hr hml hts hown hlocks hnm ⟨hZ, hP, hD0, hsz⟩ hl
  subst hsz
  have hD := hD0.self (sz := s.heap.size)
  generalize hAe : va_A (ws) s.heap.size = A at hD ⊢
  have hA : ∀ q : Nat, s.heap.size ≤ q → A q := fun q h => by rw [← hAe]; exact Or.inr h
  have hS : va_S A s.heap s.heap [] := va_S.rf
  have hl : lv_has ls 2 [(0, .ref (gd 0)), (1, .int (v0))] := hl
  have hm0 := hm
  have hI0 := hI
  have hM0 := hM
  obtain ⟨hn8, hd3, hj60, hIT, hID, hIJ, hIdl, hIw⟩ := hI
  obtain ⟨hM1, hM2, hM3, hM4, hM5, hM6, hM7⟩ := hM
  obtain ⟨m0, m1, m2, m3, m4, m5, m6, m7, m8, m9, m10, m11, m12, m13, m14, m15, m16, m17, m18, m19, m20, m21⟩ := hm
  have hfc10 : ∀ i, i < n → fc i ≤ 10 := fun i hi => (hIT i hi).2.2.2.2.2.2.1
  have hsl12 : ∀ i, i < n → sl i < 12 := fun i hi => (hIT i hi).2.2.2.2.1
  have hH8 : ∀ j, j < nd → ∀ t, hd j = some t → t < 8 := fun j hj t h => by have := ((hID j hj).2.2.2 t h).1; omega
  have hmo3 : ∀ i, i < n → ∀ j, mo i = some j → j < nd := fun i hi j h => ((hIT i hi).2.2.2.2.2.1 j h).1
  have hfw : ∀ k, k < nj → fw k = if fin k then -1 else jt k := fun k hk => (hM5 k hk).1
  obtain ⟨ho, hK⟩ := k1_no h0
  · refine lv_aload_n hx hb dX5_waiting_0 rfl (lv_at hl 0 rfl) ?_
    refine lv_aload_n hx hb dX5_waiting_1 rfl (lv_at hl 0 rfl) ?_
    refine lv_iload_n hx hb dX5_waiting_2 rfl (lv_at hl 1 rfl) ?_
    refine zk_V_i (n := 1) (As := [.int (v0)]) (rest := [.ref (gd 0)]) hx hb hml hts hown hZ hP (c_X5_isTape l D cA _ hm0 (by omega) v0) gX5_waiting_X5_isTape rfl rfl ⟨rfl, rfl⟩ ⟨by decide +kernel, Nat.le_of_ble_eq_true rfl, Nat.le_of_ble_eq_true rfl⟩ m0 rfl hl.1 rfl (Nat.le_of_ble_eq_true rfl) ⟨Nat.le_of_ble_eq_true rfl, Nat.le_of_ble_eq_true rfl⟩ rfl dX5_waiting_3 (fun r_1 hr_2 => ?_)
    obtain rfl := show r_1 = _ from hr_2
    refine zx_val (y := bI (false)) (by rw [ho]; rfl) ?_
    refine zw_V_i (n := 1) (mc := 0) (ms := 0) (As := [.int (bI (false))]) (rest := []) (w1 := fun u : Unit => ws.set 0 (gd 0, zMod gd n nd nj my 1)) hx hb hml hts hown hZ hP hD hS hA (c_X5_may l D cA _ _ gd n nd nj my th false (m0)) gX5_waiting_X5_may rfl rfl ⟨rfl, rfl⟩ ⟨by decide +kernel, Nat.le_of_ble_eq_true rfl, Nat.le_of_ble_eq_true rfl⟩ m0 rfl hl.1 rfl (Nat.le_of_ble_eq_true rfl) ⟨Nat.le_of_ble_eq_true rfl, Nat.le_of_ble_eq_true rfl⟩ rfl dX5_waiting_6 (fun r_3 u_5 H locs hr_4 hP hD hS hz_5 => ?_)
    obtain rfl := show r_3 = _ from hr_4
    have hP : va_P D vwCl (ws.set 0 (gd 0, zMod gd n nd nj my 1)) H := hP
    have hD : va_D A (ws.set 0 (gd 0, zMod gd n nd nj my 1)) := hD
    refine zb_eq (tgt := 20) hx hb dX5_waiting_9 (by decide) (fun c_6 => ?_) (fun c_6 => Bool.noConfusion c_6)
    refine lv_iconst (v := nI (0)) hx hb dX5_waiting_20 (by decide) ?_
    exact zr_qi (S := va_W) (w1 := fun u => u) (ws.set 0 (gd 0, zMod gd n nd nj my 1)) hx hb hr hlocks (⟨(mKeep_set mKeep_rf (by decide)), (by rw [hK]; exact (mL_0 hm0 n nd nj my 1))⟩) hP hD hS (rfl) dX5_waiting_21

set_option maxHeartbeats 4000000 in
set_option maxRecDepth 100000 in
theorem c_X5_clock_ok (l : Launch) (D : va_G) (cA : Nat → ClassId) (sz : Nat) (ws : va_W) {gd : Nat → Nat} {n : Nat} {tr : Nat → Nat} {le : Nat → Nat} {sl : Nat → Nat} {mo : Nat → Option Nat} {la : Nat → Bool} {fc : Nat → Nat} {sf : Nat → Int32} {bf : Nat → Int32} {nd : Nat} {mk : Nat → Nat} {ck : Nat → Int32} {ct : Nat → Nat} {hd : Nat → Option Nat} {pf : Nat → Int32} {nj : Nat} {jt : Nat → Int32} {jf : Nat → Nat} {dl : Nat → Nat} {fin : Nat → Bool} {my : Nat} {fls : Nat → Int32} {fod : Nat → Int32} {fle : Nat → Int32} {fro : Nat → Int32} {th : Nat} {bo : Nat → Nat → Nat} {pq : Nat → Int32} {fw : Nat → Int32} {dn : Nat} (hm : mL cA ws gd n tr le sl mo la fc sf bf nd mk ck ct hd pf nj jt jf dl fin my fls fod fle fro th) (hI : zI n tr le sl mo fc bo nd mk ct hd pq nj fw jf dl) (hM : mI n la fc bo nd ck ct hd pq pf nj fw jt fin sf bf dn) (j : Nat) (hjn : j < nd) : Met l yX5_clock wsX5_clock ({ frames := 2, cells := 0, slots := 0, locals := 43 }) (va_Pc [.ref (gd 0), .int (nI (j))] (zM D cA (ws) sz)) (va_Qi (fun (r : Int32) (u : va_W) => r = ck j ∧ mKeep ws u ∧ mL cA u gd n tr le sl mo la fc sf bf nd mk ck ct hd pf nj jt jf dl fin my fls fod fle fro 0) (fun u => zB D (va_A (ws) sz) (u)) (va_A (ws) sz)) 0 0 (va_A (ws) sz) := by
  refine zOpen (cc := cX5_clock) (maxL := 2) (ret := (some .int)) (own := RX5) (by decide) rfl rfl (Nat.le_of_ble_eq_true rfl) ?_
  intro p e s m below meth c ls hx hb hr hml hts hown hlocks hnm ⟨hZ, hP, hD0, hsz⟩ hl
  subst hsz
  have hD := hD0.self (sz := s.heap.size)
  generalize hAe : va_A (ws) s.heap.size = A at hD ⊢
  have hA : ∀ q : Nat, s.heap.size ≤ q → A q := fun q h => by rw [← hAe]; exact Or.inr h
  have hS : va_S A s.heap s.heap [] := va_S.rf
  have iX5 : ∀ w ∈ wsX50, w ∈ wsX5_clock := by decide +kernel
  have hl : lv_has ls 2 [(0, .ref (gd 0)), (1, .int (nI (j)))] := hl
  have hm0 := hm
  have hI0 := hI
  have hM0 := hM
  obtain ⟨hn8, hd3, hj60, hIT, hID, hIJ, hIdl, hIw⟩ := hI
  obtain ⟨hM1, hM2, hM3, hM4, hM5, hM6, hM7⟩ := hM
  obtain ⟨m0, m1, m2, m3, m4, m5, m6, m7, m8, m9, m10, m11, m12, m13, m14, m15, m16, m17, m18, m19, m20, m21⟩ := hm
  have hfc10 : ∀ i, i < n → fc i ≤ 10 := fun i hi => (hIT i hi).2.2.2.2.2.2.1
  have hsl12 : ∀ i, i < n → sl i < 12 := fun i hi => (hIT i hi).2.2.2.2.1
  have hH8 : ∀ j, j < nd → ∀ t, hd j = some t → t < 8 := fun j hj t h => by have := ((hID j hj).2.2.2 t h).1; omega
  have hmo3 : ∀ i, i < n → ∀ j, mo i = some j → j < nd := fun i hi j h => ((hIT i hi).2.2.2.2.2.1 j h).1
  have hfw : ∀ k, k < nj → fw k = if fin k then -1 else jt k := fun k hk => (hM5 k hk).1
  refine lv_aload_n hx hb dX5_clock_0 rfl (lv_at hl 0 rfl) ?_
  refine lv_aload_n hx hb dX5_clock_1 rfl (lv_at hl 0 rfl) ?_
  refine lv_iload_n hx hb dX5_clock_2 rfl (lv_at hl 1 rfl) ?_
  refine zk_V_i (n := 1) (As := [.int (nI (j))]) (rest := [.ref (gd 0)]) hx hb hml hts hown hZ hP (c_X5_isDrive l D cA _ hm0 (by omega) (nI (j))) gX5_clock_X5_isDrive rfl rfl ⟨rfl, rfl⟩ ⟨by decide +kernel, Nat.le_of_ble_eq_true rfl, Nat.le_of_ble_eq_true rfl⟩ m0 rfl hl.1 rfl (Nat.le_of_ble_eq_true rfl) ⟨Nat.le_of_ble_eq_true rfl, Nat.le_of_ble_eq_true rfl⟩ rfl dX5_clock_3 (fun r_1 hr_2 => ?_)
  obtain rfl := show r_1 = _ from hr_2
  refine zx_val (y := bI (true)) (by rw [ix_in (by omega) hjn]; rfl) ?_
  refine zw_V_i (n := 1) (mc := 0) (ms := 0) (As := [.int (bI (true))]) (rest := []) (w1 := fun u : Unit => ws.set 0 (gd 0, zMod gd n nd nj my 0)) hx hb hml hts hown hZ hP hD hS hA (c_X5_may l D cA _ _ gd n nd nj my th true (m0)) gX5_clock_X5_may rfl rfl ⟨rfl, rfl⟩ ⟨by decide +kernel, Nat.le_of_ble_eq_true rfl, Nat.le_of_ble_eq_true rfl⟩ m0 rfl hl.1 rfl (Nat.le_of_ble_eq_true rfl) ⟨Nat.le_of_ble_eq_true rfl, Nat.le_of_ble_eq_true rfl⟩ rfl dX5_clock_6 (fun r_3 u_5 H locs hr_4 hP hD hS hz_5 => ?_)
  obtain rfl := show r_3 = _ from hr_4
  have hP : va_P D vwCl (ws.set 0 (gd 0, zMod gd n nd nj my 0)) H := hP
  have hD : va_D A (ws.set 0 (gd 0, zMod gd n nd nj my 0)) := hD
  refine zb_eq (tgt := 21) hx hb dX5_clock_9 (by decide) (fun c_6 => Bool.noConfusion c_6) (fun c_6 => ?_)
  refine lv_aload_n hx hb dX5_clock_12 rfl (lv_at hl 0 rfl) ?_
  refine va_get (D := D) (ci := 5) (v := .ref (gd 10)) (C := RX5) (T := TX5) (N := 26) hx hb hts iX5 hown hZ.1 hP 0 (zset_s m0) rfl 11 (by decide) (hts (.fieldLink RX5 38 "TapeRoboticsModel" "clock" "[I") (by decide +kernel)) (fun _ h9 => h9) rfl dX5_clock_13 ?_
  refine lv_iload_n hx hb dX5_clock_16 rfl (lv_at hl 1 rfl) ?_
  refine va_iald hx hb hZ.1 hP 10 0 (zset_n m10 (by decide)) rfl (vp_in_nI (show j < 3 by omega) (by omega)) dX5_clock_17 ?_
  rw [nI_clamp (show j < 2 ^ 31 by omega)]
  refine lv_goto (tgt := 22) hx hb dX5_clock_18 (by decide) ?_
  exact zr_qi (S := va_W) (w1 := fun u => u) (ws.set 0 (gd 0, zMod gd n nd nj my 0)) hx hb hr hlocks (⟨rfl, (mKeep_set mKeep_rf (by decide)), (mL_0 hm0 n nd nj my 0)⟩) hP hD hS (rfl) dX5_clock_22

set_option maxHeartbeats 4000000 in
set_option maxRecDepth 100000 in
theorem c_X5_clock_no (l : Launch) (D : va_G) (cA : Nat → ClassId) (sz : Nat) (ws : va_W) {gd : Nat → Nat} {n : Nat} {tr : Nat → Nat} {le : Nat → Nat} {sl : Nat → Nat} {mo : Nat → Option Nat} {la : Nat → Bool} {fc : Nat → Nat} {sf : Nat → Int32} {bf : Nat → Int32} {nd : Nat} {mk : Nat → Nat} {ck : Nat → Int32} {ct : Nat → Nat} {hd : Nat → Option Nat} {pf : Nat → Int32} {nj : Nat} {jt : Nat → Int32} {jf : Nat → Nat} {dl : Nat → Nat} {fin : Nat → Bool} {my : Nat} {fls : Nat → Int32} {fod : Nat → Int32} {fle : Nat → Int32} {fro : Nat → Int32} {th : Nat} {bo : Nat → Nat → Nat} {pq : Nat → Int32} {fw : Nat → Int32} {dn : Nat} (hm : mL cA ws gd n tr le sl mo la fc sf bf nd mk ck ct hd pf nj jt jf dl fin my fls fod fle fro th) (hI : zI n tr le sl mo fc bo nd mk ct hd pq nj fw jf dl) (hM : mI n la fc bo nd ck ct hd pq pf nj fw jt fin sf bf dn) (v0 : Int32) (h0 : (k1 (ix v0 nd)) ≠ 0) : Met l yX5_clock wsX5_clock ({ frames := 2, cells := 0, slots := 0, locals := 43 }) (va_Pc [.ref (gd 0), .int (v0)] (zM D cA (ws) sz)) (va_Qi (fun (r : Int32) (u : va_W) => mKeep ws u ∧ mL cA u gd n tr le sl mo la fc sf bf nd mk ck ct hd pf nj jt jf dl fin my fls fod fle fro (k1 (ix v0 nd))) (fun u => zB D (va_A (ws) sz) (u)) (va_A (ws) sz)) 0 0 (va_A (ws) sz) := by
  refine zOpen (cc := cX5_clock) (maxL := 2) (ret := (some .int)) (own := RX5) (by decide) rfl rfl (Nat.le_of_ble_eq_true rfl) ?_
  intro p e s m below meth c ls hx hb hr hml hts hown hlocks hnm ⟨hZ, hP, hD0, hsz⟩ hl
  subst hsz
  have hD := hD0.self (sz := s.heap.size)
  generalize hAe : va_A (ws) s.heap.size = A at hD ⊢
  have hA : ∀ q : Nat, s.heap.size ≤ q → A q := fun q h => by rw [← hAe]; exact Or.inr h
  have hS : va_S A s.heap s.heap [] := va_S.rf
  have iX5 : ∀ w ∈ wsX50, w ∈ wsX5_clock := by decide +kernel
  have hl : lv_has ls 2 [(0, .ref (gd 0)), (1, .int (v0))] := hl
  have hm0 := hm
  have hI0 := hI
  have hM0 := hM
  obtain ⟨hn8, hd3, hj60, hIT, hID, hIJ, hIdl, hIw⟩ := hI
  obtain ⟨hM1, hM2, hM3, hM4, hM5, hM6, hM7⟩ := hM
  obtain ⟨m0, m1, m2, m3, m4, m5, m6, m7, m8, m9, m10, m11, m12, m13, m14, m15, m16, m17, m18, m19, m20, m21⟩ := hm
  have hfc10 : ∀ i, i < n → fc i ≤ 10 := fun i hi => (hIT i hi).2.2.2.2.2.2.1
  have hsl12 : ∀ i, i < n → sl i < 12 := fun i hi => (hIT i hi).2.2.2.2.1
  have hH8 : ∀ j, j < nd → ∀ t, hd j = some t → t < 8 := fun j hj t h => by have := ((hID j hj).2.2.2 t h).1; omega
  have hmo3 : ∀ i, i < n → ∀ j, mo i = some j → j < nd := fun i hi j h => ((hIT i hi).2.2.2.2.2.1 j h).1
  have hfw : ∀ k, k < nj → fw k = if fin k then -1 else jt k := fun k hk => (hM5 k hk).1
  obtain ⟨ho, hK⟩ := k1_no h0
  · refine lv_aload_n hx hb dX5_clock_0 rfl (lv_at hl 0 rfl) ?_
    refine lv_aload_n hx hb dX5_clock_1 rfl (lv_at hl 0 rfl) ?_
    refine lv_iload_n hx hb dX5_clock_2 rfl (lv_at hl 1 rfl) ?_
    refine zk_V_i (n := 1) (As := [.int (v0)]) (rest := [.ref (gd 0)]) hx hb hml hts hown hZ hP (c_X5_isDrive l D cA _ hm0 (by omega) v0) gX5_clock_X5_isDrive rfl rfl ⟨rfl, rfl⟩ ⟨by decide +kernel, Nat.le_of_ble_eq_true rfl, Nat.le_of_ble_eq_true rfl⟩ m0 rfl hl.1 rfl (Nat.le_of_ble_eq_true rfl) ⟨Nat.le_of_ble_eq_true rfl, Nat.le_of_ble_eq_true rfl⟩ rfl dX5_clock_3 (fun r_1 hr_2 => ?_)
    obtain rfl := show r_1 = _ from hr_2
    refine zx_val (y := bI (false)) (by rw [ho]; rfl) ?_
    refine zw_V_i (n := 1) (mc := 0) (ms := 0) (As := [.int (bI (false))]) (rest := []) (w1 := fun u : Unit => ws.set 0 (gd 0, zMod gd n nd nj my 1)) hx hb hml hts hown hZ hP hD hS hA (c_X5_may l D cA _ _ gd n nd nj my th false (m0)) gX5_clock_X5_may rfl rfl ⟨rfl, rfl⟩ ⟨by decide +kernel, Nat.le_of_ble_eq_true rfl, Nat.le_of_ble_eq_true rfl⟩ m0 rfl hl.1 rfl (Nat.le_of_ble_eq_true rfl) ⟨Nat.le_of_ble_eq_true rfl, Nat.le_of_ble_eq_true rfl⟩ rfl dX5_clock_6 (fun r_3 u_5 H locs hr_4 hP hD hS hz_5 => ?_)
    obtain rfl := show r_3 = _ from hr_4
    have hP : va_P D vwCl (ws.set 0 (gd 0, zMod gd n nd nj my 1)) H := hP
    have hD : va_D A (ws.set 0 (gd 0, zMod gd n nd nj my 1)) := hD
    refine zb_eq (tgt := 21) hx hb dX5_clock_9 (by decide) (fun c_6 => ?_) (fun c_6 => Bool.noConfusion c_6)
    refine lv_iconst (v := nI (0)) hx hb dX5_clock_21 (by decide) ?_
    exact zr_qi (S := va_W) (w1 := fun u => u) (ws.set 0 (gd 0, zMod gd n nd nj my 1)) hx hb hr hlocks (⟨(mKeep_set mKeep_rf (by decide)), (by rw [hK]; exact (mL_0 hm0 n nd nj my 1))⟩) hP hD hS (rfl) dX5_clock_22

set_option maxHeartbeats 4000000 in
set_option maxRecDepth 100000 in
theorem c_X5_placeOf_ok (l : Launch) (D : va_G) (cA : Nat → ClassId) (sz : Nat) (ws : va_W) {gd : Nat → Nat} {n : Nat} {tr : Nat → Nat} {le : Nat → Nat} {sl : Nat → Nat} {mo : Nat → Option Nat} {la : Nat → Bool} {fc : Nat → Nat} {sf : Nat → Int32} {bf : Nat → Int32} {nd : Nat} {mk : Nat → Nat} {ck : Nat → Int32} {ct : Nat → Nat} {hd : Nat → Option Nat} {pf : Nat → Int32} {nj : Nat} {jt : Nat → Int32} {jf : Nat → Nat} {dl : Nat → Nat} {fin : Nat → Bool} {my : Nat} {fls : Nat → Int32} {fod : Nat → Int32} {fle : Nat → Int32} {fro : Nat → Int32} {th : Nat} {bo : Nat → Nat → Nat} {pq : Nat → Int32} {fw : Nat → Int32} {dn : Nat} (hm : mL cA ws gd n tr le sl mo la fc sf bf nd mk ck ct hd pf nj jt jf dl fin my fls fod fle fro th) (hI : zI n tr le sl mo fc bo nd mk ct hd pq nj fw jf dl) (hM : mI n la fc bo nd ck ct hd pq pf nj fw jt fin sf bf dn) (t : Nat) (htn : t < n) : Met l yX5_placeOf wsX5_placeOf ({ frames := 2, cells := 0, slots := 0, locals := 43 }) (va_Pc [.ref (gd 0), .int (nI (t))] (zM D cA (ws) sz)) (va_Qi (fun (r : Int32) (u : va_W) => r = placeR mo sl t ∧ mKeep ws u ∧ mL cA u gd n tr le sl mo la fc sf bf nd mk ck ct hd pf nj jt jf dl fin my fls fod fle fro 0) (fun u => zB D (va_A (ws) sz) (u)) (va_A (ws) sz)) 0 0 (va_A (ws) sz) := by
  refine zOpen (cc := cX5_placeOf) (maxL := 2) (ret := (some .int)) (own := RX5) (by decide) rfl rfl (Nat.le_of_ble_eq_true rfl) ?_
  intro p e s m below meth c ls hx hb hr hml hts hown hlocks hnm ⟨hZ, hP, hD0, hsz⟩ hl
  subst hsz
  have hD := hD0.self (sz := s.heap.size)
  generalize hAe : va_A (ws) s.heap.size = A at hD ⊢
  have hA : ∀ q : Nat, s.heap.size ≤ q → A q := fun q h => by rw [← hAe]; exact Or.inr h
  have hS : va_S A s.heap s.heap [] := va_S.rf
  have iX5 : ∀ w ∈ wsX50, w ∈ wsX5_placeOf := by decide +kernel
  have hl : lv_has ls 2 [(0, .ref (gd 0)), (1, .int (nI (t)))] := hl
  have hm0 := hm
  have hI0 := hI
  have hM0 := hM
  obtain ⟨hn8, hd3, hj60, hIT, hID, hIJ, hIdl, hIw⟩ := hI
  obtain ⟨hM1, hM2, hM3, hM4, hM5, hM6, hM7⟩ := hM
  obtain ⟨m0, m1, m2, m3, m4, m5, m6, m7, m8, m9, m10, m11, m12, m13, m14, m15, m16, m17, m18, m19, m20, m21⟩ := hm
  have hfc10 : ∀ i, i < n → fc i ≤ 10 := fun i hi => (hIT i hi).2.2.2.2.2.2.1
  have hsl12 : ∀ i, i < n → sl i < 12 := fun i hi => (hIT i hi).2.2.2.2.1
  have hH8 : ∀ j, j < nd → ∀ t, hd j = some t → t < 8 := fun j hj t h => by have := ((hID j hj).2.2.2 t h).1; omega
  have hmo3 : ∀ i, i < n → ∀ j, mo i = some j → j < nd := fun i hi j h => ((hIT i hi).2.2.2.2.2.1 j h).1
  have hfw : ∀ k, k < nj → fw k = if fin k then -1 else jt k := fun k hk => (hM5 k hk).1
  rcases hmt : mo t with _ | j9
  · refine lv_aload_n hx hb dX5_placeOf_0 rfl (lv_at hl 0 rfl) ?_
    refine lv_aload_n hx hb dX5_placeOf_1 rfl (lv_at hl 0 rfl) ?_
    refine lv_iload_n hx hb dX5_placeOf_2 rfl (lv_at hl 1 rfl) ?_
    refine zk_V_i (n := 1) (As := [.int (nI (t))]) (rest := [.ref (gd 0)]) hx hb hml hts hown hZ hP (c_X5_isTape l D cA _ hm0 (by omega) (nI (t))) gX5_placeOf_X5_isTape rfl rfl ⟨rfl, rfl⟩ ⟨by decide +kernel, Nat.le_of_ble_eq_true rfl, Nat.le_of_ble_eq_true rfl⟩ m0 rfl hl.1 rfl (Nat.le_of_ble_eq_true rfl) ⟨Nat.le_of_ble_eq_true rfl, Nat.le_of_ble_eq_true rfl⟩ rfl dX5_placeOf_3 (fun r_1 hr_2 => ?_)
    obtain rfl := show r_1 = _ from hr_2
    refine zx_val (y := bI (true)) (by rw [ix_in (by omega) htn]; rfl) ?_
    refine zw_V_i (n := 1) (mc := 0) (ms := 0) (As := [.int (bI (true))]) (rest := []) (w1 := fun u : Unit => ws.set 0 (gd 0, zMod gd n nd nj my 0)) hx hb hml hts hown hZ hP hD hS hA (c_X5_may l D cA _ _ gd n nd nj my th true (m0)) gX5_placeOf_X5_may rfl rfl ⟨rfl, rfl⟩ ⟨by decide +kernel, Nat.le_of_ble_eq_true rfl, Nat.le_of_ble_eq_true rfl⟩ m0 rfl hl.1 rfl (Nat.le_of_ble_eq_true rfl) ⟨Nat.le_of_ble_eq_true rfl, Nat.le_of_ble_eq_true rfl⟩ rfl dX5_placeOf_6 (fun r_3 u_5 H locs hr_4 hP hD hS hz_5 => ?_)
    obtain rfl := show r_3 = _ from hr_4
    have hP : va_P D vwCl (ws.set 0 (gd 0, zMod gd n nd nj my 0)) H := hP
    have hD : va_D A (ws.set 0 (gd 0, zMod gd n nd nj my 0)) := hD
    refine zb_ne (tgt := 14) hx hb dX5_placeOf_9 (by decide) (fun c_6 => ?_) (fun c_6 => Bool.noConfusion c_6)
    refine lv_aload_n hx hb dX5_placeOf_14 rfl (lv_at hl 0 rfl) ?_
    refine va_get (D := D) (ci := 5) (v := .ref (gd 4)) (C := RX5) (T := TX5) (N := 26) hx hb hts iX5 hown hZ.1 hP 0 (zset_s m0) rfl 4 (by decide) (hts (.fieldLink RX5 19 "TapeRoboticsModel" "mounted" "[I") (by decide +kernel)) (fun _ h9 => h9) rfl dX5_placeOf_15 ?_
    refine lv_iload_n hx hb dX5_placeOf_18 rfl (lv_at hl 1 rfl) ?_
    refine va_iald hx hb hZ.1 hP 4 0 (zset_n m4 (by decide)) rfl (vp_in_nI (show t < 8 by omega) (by omega)) dX5_placeOf_19 ?_
    rw [nI_clamp (show t < 2 ^ 31 by omega)]
    refine zx_val (y := (-1)) (by rw [hmt]; rfl) ?_
    refine lv_iconst (v := (-1)) hx hb dX5_placeOf_20 (by decide) ?_
    refine lv_icmp_ne (tgt := 33) hx hb dX5_placeOf_21 (by decide) (fun c_7 => absurd rfl c_7) (fun c_7 => ?_)
    refine lv_aload_n hx hb dX5_placeOf_24 rfl (lv_at hl 0 rfl) ?_
    refine va_get (D := D) (ci := 5) (v := .ref (gd 3)) (C := RX5) (T := TX5) (N := 26) hx hb hts iX5 hown hZ.1 hP 0 (zset_s m0) rfl 3 (by decide) (hts (.fieldLink RX5 16 "TapeRoboticsModel" "slot" "[I") (by decide +kernel)) (fun _ h9 => h9) rfl dX5_placeOf_25 ?_
    refine lv_iload_n hx hb dX5_placeOf_28 rfl (lv_at hl 1 rfl) ?_
    refine va_iald hx hb hZ.1 hP 3 0 (zset_n m3 (by decide)) rfl (vp_in_nI (show t < 8 by omega) (by omega)) dX5_placeOf_29 ?_
    rw [nI_clamp (show t < 2 ^ 31 by omega)]
    refine lv_goto (tgt := 41) hx hb dX5_placeOf_30 (by decide) ?_
    exact zr_qi (S := va_W) (w1 := fun u => u) (ws.set 0 (gd 0, zMod gd n nd nj my 0)) hx hb hr hlocks (⟨by unfold placeR; rw [hmt]; rfl, (mKeep_set mKeep_rf (by decide)), (mL_0 hm0 n nd nj my 0)⟩) hP hD hS (rfl) dX5_placeOf_41
  · have hj9 := hmo3 t htn j9 hmt
    refine lv_aload_n hx hb dX5_placeOf_0 rfl (lv_at hl 0 rfl) ?_
    refine lv_aload_n hx hb dX5_placeOf_1 rfl (lv_at hl 0 rfl) ?_
    refine lv_iload_n hx hb dX5_placeOf_2 rfl (lv_at hl 1 rfl) ?_
    refine zk_V_i (n := 1) (As := [.int (nI (t))]) (rest := [.ref (gd 0)]) hx hb hml hts hown hZ hP (c_X5_isTape l D cA _ hm0 (by omega) (nI (t))) gX5_placeOf_X5_isTape rfl rfl ⟨rfl, rfl⟩ ⟨by decide +kernel, Nat.le_of_ble_eq_true rfl, Nat.le_of_ble_eq_true rfl⟩ m0 rfl hl.1 rfl (Nat.le_of_ble_eq_true rfl) ⟨Nat.le_of_ble_eq_true rfl, Nat.le_of_ble_eq_true rfl⟩ rfl dX5_placeOf_3 (fun r_8 hr_9 => ?_)
    obtain rfl := show r_8 = _ from hr_9
    refine zx_val (y := bI (true)) (by rw [ix_in (by omega) htn]; rfl) ?_
    refine zw_V_i (n := 1) (mc := 0) (ms := 0) (As := [.int (bI (true))]) (rest := []) (w1 := fun u : Unit => ws.set 0 (gd 0, zMod gd n nd nj my 0)) hx hb hml hts hown hZ hP hD hS hA (c_X5_may l D cA _ _ gd n nd nj my th true (m0)) gX5_placeOf_X5_may rfl rfl ⟨rfl, rfl⟩ ⟨by decide +kernel, Nat.le_of_ble_eq_true rfl, Nat.le_of_ble_eq_true rfl⟩ m0 rfl hl.1 rfl (Nat.le_of_ble_eq_true rfl) ⟨Nat.le_of_ble_eq_true rfl, Nat.le_of_ble_eq_true rfl⟩ rfl dX5_placeOf_6 (fun r_10 u_12 H locs hr_11 hP hD hS hz_12 => ?_)
    obtain rfl := show r_10 = _ from hr_11
    have hP : va_P D vwCl (ws.set 0 (gd 0, zMod gd n nd nj my 0)) H := hP
    have hD : va_D A (ws.set 0 (gd 0, zMod gd n nd nj my 0)) := hD
    refine zb_ne (tgt := 14) hx hb dX5_placeOf_9 (by decide) (fun c_13 => ?_) (fun c_13 => Bool.noConfusion c_13)
    refine lv_aload_n hx hb dX5_placeOf_14 rfl (lv_at hl 0 rfl) ?_
    refine va_get (D := D) (ci := 5) (v := .ref (gd 4)) (C := RX5) (T := TX5) (N := 26) hx hb hts iX5 hown hZ.1 hP 0 (zset_s m0) rfl 4 (by decide) (hts (.fieldLink RX5 19 "TapeRoboticsModel" "mounted" "[I") (by decide +kernel)) (fun _ h9 => h9) rfl dX5_placeOf_15 ?_
    refine lv_iload_n hx hb dX5_placeOf_18 rfl (lv_at hl 1 rfl) ?_
    refine va_iald hx hb hZ.1 hP 4 0 (zset_n m4 (by decide)) rfl (vp_in_nI (show t < 8 by omega) (by omega)) dX5_placeOf_19 ?_
    rw [nI_clamp (show t < 2 ^ 31 by omega)]
    refine zx_val (y := nI (j9)) (by rw [hmt]; rfl) ?_
    refine lv_iconst (v := (-1)) hx hb dX5_placeOf_20 (by decide) ?_
    refine lv_icmp_ne (tgt := 33) hx hb dX5_placeOf_21 (by decide) (fun c_14 => ?_) (fun c_14 => absurd c_14 (nI_nm1 (by omega)))
    refine lv_iconst (v := (-1)) hx hb dX5_placeOf_33 (by decide) ?_
    refine lv_aload_n hx hb dX5_placeOf_34 rfl (lv_at hl 0 rfl) ?_
    refine va_get (D := D) (ci := 5) (v := .ref (gd 4)) (C := RX5) (T := TX5) (N := 26) hx hb hts iX5 hown hZ.1 hP 0 (zset_s m0) rfl 4 (by decide) (hts (.fieldLink RX5 19 "TapeRoboticsModel" "mounted" "[I") (by decide +kernel)) (fun _ h9 => h9) rfl dX5_placeOf_35 ?_
    refine lv_iload_n hx hb dX5_placeOf_38 rfl (lv_at hl 1 rfl) ?_
    refine va_iald hx hb hZ.1 hP 4 0 (zset_n m4 (by decide)) rfl (vp_in_nI (show t < 8 by omega) (by omega)) dX5_placeOf_39 ?_
    rw [nI_clamp (show t < 2 ^ 31 by omega)]
    refine zx_val (y := nI (j9)) (by rw [hmt]; rfl) ?_
    refine lv_isub hx hb dX5_placeOf_40 ?_
    exact zr_qi (S := va_W) (w1 := fun u => u) (ws.set 0 (gd 0, zMod gd n nd nj my 0)) hx hb hr hlocks (⟨by unfold placeR; rw [hmt]; rfl, (mKeep_set mKeep_rf (by decide)), (mL_0 hm0 n nd nj my 0)⟩) hP hD hS (rfl) dX5_placeOf_41

set_option maxHeartbeats 4000000 in
set_option maxRecDepth 100000 in
theorem c_X5_placeOf_no (l : Launch) (D : va_G) (cA : Nat → ClassId) (sz : Nat) (ws : va_W) {gd : Nat → Nat} {n : Nat} {tr : Nat → Nat} {le : Nat → Nat} {sl : Nat → Nat} {mo : Nat → Option Nat} {la : Nat → Bool} {fc : Nat → Nat} {sf : Nat → Int32} {bf : Nat → Int32} {nd : Nat} {mk : Nat → Nat} {ck : Nat → Int32} {ct : Nat → Nat} {hd : Nat → Option Nat} {pf : Nat → Int32} {nj : Nat} {jt : Nat → Int32} {jf : Nat → Nat} {dl : Nat → Nat} {fin : Nat → Bool} {my : Nat} {fls : Nat → Int32} {fod : Nat → Int32} {fle : Nat → Int32} {fro : Nat → Int32} {th : Nat} {bo : Nat → Nat → Nat} {pq : Nat → Int32} {fw : Nat → Int32} {dn : Nat} (hm : mL cA ws gd n tr le sl mo la fc sf bf nd mk ck ct hd pf nj jt jf dl fin my fls fod fle fro th) (hI : zI n tr le sl mo fc bo nd mk ct hd pq nj fw jf dl) (hM : mI n la fc bo nd ck ct hd pq pf nj fw jt fin sf bf dn) (v0 : Int32) (h0 : (k1 (ix v0 n)) ≠ 0) : Met l yX5_placeOf wsX5_placeOf ({ frames := 2, cells := 0, slots := 0, locals := 43 }) (va_Pc [.ref (gd 0), .int (v0)] (zM D cA (ws) sz)) (va_Qi (fun (r : Int32) (u : va_W) => mKeep ws u ∧ mL cA u gd n tr le sl mo la fc sf bf nd mk ck ct hd pf nj jt jf dl fin my fls fod fle fro (k1 (ix v0 n))) (fun u => zB D (va_A (ws) sz) (u)) (va_A (ws) sz)) 0 0 (va_A (ws) sz) := by
  refine zOpen (cc := cX5_placeOf) (maxL := 2) (ret := (some .int)) (own := RX5) (by decide) rfl rfl (Nat.le_of_ble_eq_true rfl) ?_
  intro p e s m below meth c ls hx hb hr hml hts hown hlocks hnm ⟨hZ, hP, hD0, hsz⟩ hl
  subst hsz
  have hD := hD0.self (sz := s.heap.size)
  generalize hAe : va_A (ws) s.heap.size = A at hD ⊢
  have hA : ∀ q : Nat, s.heap.size ≤ q → A q := fun q h => by rw [← hAe]; exact Or.inr h
  have hS : va_S A s.heap s.heap [] := va_S.rf
  have iX5 : ∀ w ∈ wsX50, w ∈ wsX5_placeOf := by decide +kernel
  have hl : lv_has ls 2 [(0, .ref (gd 0)), (1, .int (v0))] := hl
  have hm0 := hm
  have hI0 := hI
  have hM0 := hM
  obtain ⟨hn8, hd3, hj60, hIT, hID, hIJ, hIdl, hIw⟩ := hI
  obtain ⟨hM1, hM2, hM3, hM4, hM5, hM6, hM7⟩ := hM
  obtain ⟨m0, m1, m2, m3, m4, m5, m6, m7, m8, m9, m10, m11, m12, m13, m14, m15, m16, m17, m18, m19, m20, m21⟩ := hm
  have hfc10 : ∀ i, i < n → fc i ≤ 10 := fun i hi => (hIT i hi).2.2.2.2.2.2.1
  have hsl12 : ∀ i, i < n → sl i < 12 := fun i hi => (hIT i hi).2.2.2.2.1
  have hH8 : ∀ j, j < nd → ∀ t, hd j = some t → t < 8 := fun j hj t h => by have := ((hID j hj).2.2.2 t h).1; omega
  have hmo3 : ∀ i, i < n → ∀ j, mo i = some j → j < nd := fun i hi j h => ((hIT i hi).2.2.2.2.2.1 j h).1
  have hfw : ∀ k, k < nj → fw k = if fin k then -1 else jt k := fun k hk => (hM5 k hk).1
  obtain ⟨ho, hK⟩ := k1_no h0
  · refine lv_aload_n hx hb dX5_placeOf_0 rfl (lv_at hl 0 rfl) ?_
    refine lv_aload_n hx hb dX5_placeOf_1 rfl (lv_at hl 0 rfl) ?_
    refine lv_iload_n hx hb dX5_placeOf_2 rfl (lv_at hl 1 rfl) ?_
    refine zk_V_i (n := 1) (As := [.int (v0)]) (rest := [.ref (gd 0)]) hx hb hml hts hown hZ hP (c_X5_isTape l D cA _ hm0 (by omega) v0) gX5_placeOf_X5_isTape rfl rfl ⟨rfl, rfl⟩ ⟨by decide +kernel, Nat.le_of_ble_eq_true rfl, Nat.le_of_ble_eq_true rfl⟩ m0 rfl hl.1 rfl (Nat.le_of_ble_eq_true rfl) ⟨Nat.le_of_ble_eq_true rfl, Nat.le_of_ble_eq_true rfl⟩ rfl dX5_placeOf_3 (fun r_1 hr_2 => ?_)
    obtain rfl := show r_1 = _ from hr_2
    refine zx_val (y := bI (false)) (by rw [ho]; rfl) ?_
    refine zw_V_i (n := 1) (mc := 0) (ms := 0) (As := [.int (bI (false))]) (rest := []) (w1 := fun u : Unit => ws.set 0 (gd 0, zMod gd n nd nj my 1)) hx hb hml hts hown hZ hP hD hS hA (c_X5_may l D cA _ _ gd n nd nj my th false (m0)) gX5_placeOf_X5_may rfl rfl ⟨rfl, rfl⟩ ⟨by decide +kernel, Nat.le_of_ble_eq_true rfl, Nat.le_of_ble_eq_true rfl⟩ m0 rfl hl.1 rfl (Nat.le_of_ble_eq_true rfl) ⟨Nat.le_of_ble_eq_true rfl, Nat.le_of_ble_eq_true rfl⟩ rfl dX5_placeOf_6 (fun r_3 u_5 H locs hr_4 hP hD hS hz_5 => ?_)
    obtain rfl := show r_3 = _ from hr_4
    have hP : va_P D vwCl (ws.set 0 (gd 0, zMod gd n nd nj my 1)) H := hP
    have hD : va_D A (ws.set 0 (gd 0, zMod gd n nd nj my 1)) := hD
    refine zb_ne (tgt := 14) hx hb dX5_placeOf_9 (by decide) (fun c_6 => Bool.noConfusion c_6) (fun c_6 => ?_)
    refine lv_iconst (v := nI (0)) hx hb dX5_placeOf_12 (by decide) ?_
    exact zr_qi (S := va_W) (w1 := fun u => u) (ws.set 0 (gd 0, zMod gd n nd nj my 1)) hx hb hr hlocks (⟨(mKeep_set mKeep_rf (by decide)), (by rw [hK]; exact (mL_0 hm0 n nd nj my 1))⟩) hP hD hS (rfl) dX5_placeOf_13

set_option maxHeartbeats 4000000 in
set_option maxRecDepth 100000 in
theorem c_X5_stands_ok (l : Launch) (D : va_G) (cA : Nat → ClassId) (sz : Nat) (ws : va_W) {gd : Nat → Nat} {n : Nat} {tr : Nat → Nat} {le : Nat → Nat} {sl : Nat → Nat} {mo : Nat → Option Nat} {la : Nat → Bool} {fc : Nat → Nat} {sf : Nat → Int32} {bf : Nat → Int32} {nd : Nat} {mk : Nat → Nat} {ck : Nat → Int32} {ct : Nat → Nat} {hd : Nat → Option Nat} {pf : Nat → Int32} {nj : Nat} {jt : Nat → Int32} {jf : Nat → Nat} {dl : Nat → Nat} {fin : Nat → Bool} {my : Nat} {fls : Nat → Int32} {fod : Nat → Int32} {fle : Nat → Int32} {fro : Nat → Int32} {th : Nat} {bo : Nat → Nat → Nat} {pq : Nat → Int32} {fw : Nat → Int32} {dn : Nat} (hm : mL cA ws gd n tr le sl mo la fc sf bf nd mk ck ct hd pf nj jt jf dl fin my fls fod fle fro th) (hI : zI n tr le sl mo fc bo nd mk ct hd pq nj fw jf dl) (hM : mI n la fc bo nd ck ct hd pq pf nj fw jt fin sf bf dn) (j : Nat) (hjn : j < nd) : Met l yX5_stands wsX5_stands ({ frames := 2, cells := 0, slots := 0, locals := 43 }) (va_Pc [.ref (gd 0), .int (nI (j))] (zM D cA (ws) sz)) (va_Qi (fun (r : Int32) (u : va_W) => r = pq j ∧ mKeep ws u ∧ mL cA u gd n tr le sl mo la fc sf bf nd mk ck ct hd pf nj jt jf dl fin my fls fod fle fro 0) (fun u => zB D (va_A (ws) sz) (u)) (va_A (ws) sz)) 0 0 (va_A (ws) sz) := by
  refine zOpen (cc := cX5_stands) (maxL := 2) (ret := (some .int)) (own := RX5) (by decide) rfl rfl (Nat.le_of_ble_eq_true rfl) ?_
  intro p e s m below meth c ls hx hb hr hml hts hown hlocks hnm ⟨hZ, hP, hD0, hsz⟩ hl
  subst hsz
  have hD := hD0.self (sz := s.heap.size)
  generalize hAe : va_A (ws) s.heap.size = A at hD ⊢
  have hA : ∀ q : Nat, s.heap.size ≤ q → A q := fun q h => by rw [← hAe]; exact Or.inr h
  have hS : va_S A s.heap s.heap [] := va_S.rf
  have iX5 : ∀ w ∈ wsX50, w ∈ wsX5_stands := by decide +kernel
  have hl : lv_has ls 2 [(0, .ref (gd 0)), (1, .int (nI (j)))] := hl
  have hm0 := hm
  have hI0 := hI
  have hM0 := hM
  obtain ⟨hn8, hd3, hj60, hIT, hID, hIJ, hIdl, hIw⟩ := hI
  obtain ⟨hM1, hM2, hM3, hM4, hM5, hM6, hM7⟩ := hM
  obtain ⟨m0, m1, m2, m3, m4, m5, m6, m7, m8, m9, m10, m11, m12, m13, m14, m15, m16, m17, m18, m19, m20, m21⟩ := hm
  have hfc10 : ∀ i, i < n → fc i ≤ 10 := fun i hi => (hIT i hi).2.2.2.2.2.2.1
  have hsl12 : ∀ i, i < n → sl i < 12 := fun i hi => (hIT i hi).2.2.2.2.1
  have hH8 : ∀ j, j < nd → ∀ t, hd j = some t → t < 8 := fun j hj t h => by have := ((hID j hj).2.2.2 t h).1; omega
  have hmo3 : ∀ i, i < n → ∀ j, mo i = some j → j < nd := fun i hi j h => ((hIT i hi).2.2.2.2.2.1 j h).1
  have hfw : ∀ k, k < nj → fw k = if fin k then -1 else jt k := fun k hk => (hM5 k hk).1
  rcases hhj : hd j with _ | t9
  · refine lv_aload_n hx hb dX5_stands_0 rfl (lv_at hl 0 rfl) ?_
    refine lv_aload_n hx hb dX5_stands_1 rfl (lv_at hl 0 rfl) ?_
    refine lv_iload_n hx hb dX5_stands_2 rfl (lv_at hl 1 rfl) ?_
    refine zk_V_i (n := 1) (As := [.int (nI (j))]) (rest := [.ref (gd 0)]) hx hb hml hts hown hZ hP (c_X5_isDrive l D cA _ hm0 (by omega) (nI (j))) gX5_stands_X5_isDrive rfl rfl ⟨rfl, rfl⟩ ⟨by decide +kernel, Nat.le_of_ble_eq_true rfl, Nat.le_of_ble_eq_true rfl⟩ m0 rfl hl.1 rfl (Nat.le_of_ble_eq_true rfl) ⟨Nat.le_of_ble_eq_true rfl, Nat.le_of_ble_eq_true rfl⟩ rfl dX5_stands_3 (fun r_1 hr_2 => ?_)
    obtain rfl := show r_1 = _ from hr_2
    refine zx_val (y := bI (true)) (by rw [ix_in (by omega) hjn]; rfl) ?_
    refine zw_V_i (n := 1) (mc := 0) (ms := 0) (As := [.int (bI (true))]) (rest := []) (w1 := fun u : Unit => ws.set 0 (gd 0, zMod gd n nd nj my 0)) hx hb hml hts hown hZ hP hD hS hA (c_X5_may l D cA _ _ gd n nd nj my th true (m0)) gX5_stands_X5_may rfl rfl ⟨rfl, rfl⟩ ⟨by decide +kernel, Nat.le_of_ble_eq_true rfl, Nat.le_of_ble_eq_true rfl⟩ m0 rfl hl.1 rfl (Nat.le_of_ble_eq_true rfl) ⟨Nat.le_of_ble_eq_true rfl, Nat.le_of_ble_eq_true rfl⟩ rfl dX5_stands_6 (fun r_3 u_5 H locs hr_4 hP hD hS hz_5 => ?_)
    obtain rfl := show r_3 = _ from hr_4
    have hP : va_P D vwCl (ws.set 0 (gd 0, zMod gd n nd nj my 0)) H := hP
    have hD : va_D A (ws.set 0 (gd 0, zMod gd n nd nj my 0)) := hD
    refine zb_ne (tgt := 14) hx hb dX5_stands_9 (by decide) (fun c_6 => ?_) (fun c_6 => Bool.noConfusion c_6)
    refine lv_aload_n hx hb dX5_stands_14 rfl (lv_at hl 0 rfl) ?_
    refine va_get (D := D) (ci := 5) (v := .ref (gd 12)) (C := RX5) (T := TX5) (N := 26) hx hb hts iX5 hown hZ.1 hP 0 (zset_s m0) rfl 13 (by decide) (hts (.fieldLink RX5 44 "TapeRoboticsModel" "held" "[I") (by decide +kernel)) (fun _ h9 => h9) rfl dX5_stands_15 ?_
    refine lv_iload_n hx hb dX5_stands_18 rfl (lv_at hl 1 rfl) ?_
    refine va_iald hx hb hZ.1 hP 12 0 (zset_n m12 (by decide)) rfl (vp_in_nI (show j < 3 by omega) (by omega)) dX5_stands_19 ?_
    rw [nI_clamp (show j < 2 ^ 31 by omega)]
    refine zx_val (y := (-1)) (by rw [hhj]; rfl) ?_
    refine lv_iconst (v := (-1)) hx hb dX5_stands_20 (by decide) ?_
    refine lv_icmp_ne (tgt := 28) hx hb dX5_stands_21 (by decide) (fun c_7 => absurd rfl c_7) (fun c_7 => ?_)
    refine lv_iconst (v := (-1)) hx hb dX5_stands_24 (by decide) ?_
    refine lv_goto (tgt := 34) hx hb dX5_stands_25 (by decide) ?_
    exact zr_qi (S := va_W) (w1 := fun u => u) (ws.set 0 (gd 0, zMod gd n nd nj my 0)) hx hb hr hlocks (⟨((hID j hjn).2.2.1 hhj).symm, (mKeep_set mKeep_rf (by decide)), (mL_0 hm0 n nd nj my 0)⟩) hP hD hS (rfl) dX5_stands_34
  · have ht9 := hH8 j hjn t9 hhj
    have hpf9 := hM4 j t9 hjn hhj
    refine lv_aload_n hx hb dX5_stands_0 rfl (lv_at hl 0 rfl) ?_
    refine lv_aload_n hx hb dX5_stands_1 rfl (lv_at hl 0 rfl) ?_
    refine lv_iload_n hx hb dX5_stands_2 rfl (lv_at hl 1 rfl) ?_
    refine zk_V_i (n := 1) (As := [.int (nI (j))]) (rest := [.ref (gd 0)]) hx hb hml hts hown hZ hP (c_X5_isDrive l D cA _ hm0 (by omega) (nI (j))) gX5_stands_X5_isDrive rfl rfl ⟨rfl, rfl⟩ ⟨by decide +kernel, Nat.le_of_ble_eq_true rfl, Nat.le_of_ble_eq_true rfl⟩ m0 rfl hl.1 rfl (Nat.le_of_ble_eq_true rfl) ⟨Nat.le_of_ble_eq_true rfl, Nat.le_of_ble_eq_true rfl⟩ rfl dX5_stands_3 (fun r_8 hr_9 => ?_)
    obtain rfl := show r_8 = _ from hr_9
    refine zx_val (y := bI (true)) (by rw [ix_in (by omega) hjn]; rfl) ?_
    refine zw_V_i (n := 1) (mc := 0) (ms := 0) (As := [.int (bI (true))]) (rest := []) (w1 := fun u : Unit => ws.set 0 (gd 0, zMod gd n nd nj my 0)) hx hb hml hts hown hZ hP hD hS hA (c_X5_may l D cA _ _ gd n nd nj my th true (m0)) gX5_stands_X5_may rfl rfl ⟨rfl, rfl⟩ ⟨by decide +kernel, Nat.le_of_ble_eq_true rfl, Nat.le_of_ble_eq_true rfl⟩ m0 rfl hl.1 rfl (Nat.le_of_ble_eq_true rfl) ⟨Nat.le_of_ble_eq_true rfl, Nat.le_of_ble_eq_true rfl⟩ rfl dX5_stands_6 (fun r_10 u_12 H locs hr_11 hP hD hS hz_12 => ?_)
    obtain rfl := show r_10 = _ from hr_11
    have hP : va_P D vwCl (ws.set 0 (gd 0, zMod gd n nd nj my 0)) H := hP
    have hD : va_D A (ws.set 0 (gd 0, zMod gd n nd nj my 0)) := hD
    refine zb_ne (tgt := 14) hx hb dX5_stands_9 (by decide) (fun c_13 => ?_) (fun c_13 => Bool.noConfusion c_13)
    refine lv_aload_n hx hb dX5_stands_14 rfl (lv_at hl 0 rfl) ?_
    refine va_get (D := D) (ci := 5) (v := .ref (gd 12)) (C := RX5) (T := TX5) (N := 26) hx hb hts iX5 hown hZ.1 hP 0 (zset_s m0) rfl 13 (by decide) (hts (.fieldLink RX5 44 "TapeRoboticsModel" "held" "[I") (by decide +kernel)) (fun _ h9 => h9) rfl dX5_stands_15 ?_
    refine lv_iload_n hx hb dX5_stands_18 rfl (lv_at hl 1 rfl) ?_
    refine va_iald hx hb hZ.1 hP 12 0 (zset_n m12 (by decide)) rfl (vp_in_nI (show j < 3 by omega) (by omega)) dX5_stands_19 ?_
    rw [nI_clamp (show j < 2 ^ 31 by omega)]
    refine zx_val (y := nI (t9)) (by rw [hhj]; rfl) ?_
    refine lv_iconst (v := (-1)) hx hb dX5_stands_20 (by decide) ?_
    refine lv_icmp_ne (tgt := 28) hx hb dX5_stands_21 (by decide) (fun c_14 => ?_) (fun c_14 => absurd c_14 (nI_nm1 (by omega)))
    refine lv_aload_n hx hb dX5_stands_28 rfl (lv_at hl 0 rfl) ?_
    refine va_get (D := D) (ci := 5) (v := .ref (gd 13)) (C := RX5) (T := TX5) (N := 26) hx hb hts iX5 hown hZ.1 hP 0 (zset_s m0) rfl 14 (by decide) (hts (.fieldLink RX5 47 "TapeRoboticsModel" "stand" "[I") (by decide +kernel)) (fun _ h9 => h9) rfl dX5_stands_29 ?_
    refine lv_iload_n hx hb dX5_stands_32 rfl (lv_at hl 1 rfl) ?_
    refine va_iald hx hb hZ.1 hP 13 0 (zset_n m13 (by decide)) rfl (vp_in_nI (show j < 3 by omega) (by omega)) dX5_stands_33 ?_
    rw [nI_clamp (show j < 2 ^ 31 by omega)]
    exact zr_qi (S := va_W) (w1 := fun u => u) (ws.set 0 (gd 0, zMod gd n nd nj my 0)) hx hb hr hlocks (⟨hpf9, (mKeep_set mKeep_rf (by decide)), (mL_0 hm0 n nd nj my 0)⟩) hP hD hS (rfl) dX5_stands_34

set_option maxHeartbeats 4000000 in
set_option maxRecDepth 100000 in
theorem c_X5_stands_no (l : Launch) (D : va_G) (cA : Nat → ClassId) (sz : Nat) (ws : va_W) {gd : Nat → Nat} {n : Nat} {tr : Nat → Nat} {le : Nat → Nat} {sl : Nat → Nat} {mo : Nat → Option Nat} {la : Nat → Bool} {fc : Nat → Nat} {sf : Nat → Int32} {bf : Nat → Int32} {nd : Nat} {mk : Nat → Nat} {ck : Nat → Int32} {ct : Nat → Nat} {hd : Nat → Option Nat} {pf : Nat → Int32} {nj : Nat} {jt : Nat → Int32} {jf : Nat → Nat} {dl : Nat → Nat} {fin : Nat → Bool} {my : Nat} {fls : Nat → Int32} {fod : Nat → Int32} {fle : Nat → Int32} {fro : Nat → Int32} {th : Nat} {bo : Nat → Nat → Nat} {pq : Nat → Int32} {fw : Nat → Int32} {dn : Nat} (hm : mL cA ws gd n tr le sl mo la fc sf bf nd mk ck ct hd pf nj jt jf dl fin my fls fod fle fro th) (hI : zI n tr le sl mo fc bo nd mk ct hd pq nj fw jf dl) (hM : mI n la fc bo nd ck ct hd pq pf nj fw jt fin sf bf dn) (v0 : Int32) (h0 : (k1 (ix v0 nd)) ≠ 0) : Met l yX5_stands wsX5_stands ({ frames := 2, cells := 0, slots := 0, locals := 43 }) (va_Pc [.ref (gd 0), .int (v0)] (zM D cA (ws) sz)) (va_Qi (fun (r : Int32) (u : va_W) => mKeep ws u ∧ mL cA u gd n tr le sl mo la fc sf bf nd mk ck ct hd pf nj jt jf dl fin my fls fod fle fro (k1 (ix v0 nd))) (fun u => zB D (va_A (ws) sz) (u)) (va_A (ws) sz)) 0 0 (va_A (ws) sz) := by
  refine zOpen (cc := cX5_stands) (maxL := 2) (ret := (some .int)) (own := RX5) (by decide) rfl rfl (Nat.le_of_ble_eq_true rfl) ?_
  intro p e s m below meth c ls hx hb hr hml hts hown hlocks hnm ⟨hZ, hP, hD0, hsz⟩ hl
  subst hsz
  have hD := hD0.self (sz := s.heap.size)
  generalize hAe : va_A (ws) s.heap.size = A at hD ⊢
  have hA : ∀ q : Nat, s.heap.size ≤ q → A q := fun q h => by rw [← hAe]; exact Or.inr h
  have hS : va_S A s.heap s.heap [] := va_S.rf
  have iX5 : ∀ w ∈ wsX50, w ∈ wsX5_stands := by decide +kernel
  have hl : lv_has ls 2 [(0, .ref (gd 0)), (1, .int (v0))] := hl
  have hm0 := hm
  have hI0 := hI
  have hM0 := hM
  obtain ⟨hn8, hd3, hj60, hIT, hID, hIJ, hIdl, hIw⟩ := hI
  obtain ⟨hM1, hM2, hM3, hM4, hM5, hM6, hM7⟩ := hM
  obtain ⟨m0, m1, m2, m3, m4, m5, m6, m7, m8, m9, m10, m11, m12, m13, m14, m15, m16, m17, m18, m19, m20, m21⟩ := hm
  have hfc10 : ∀ i, i < n → fc i ≤ 10 := fun i hi => (hIT i hi).2.2.2.2.2.2.1
  have hsl12 : ∀ i, i < n → sl i < 12 := fun i hi => (hIT i hi).2.2.2.2.1
  have hH8 : ∀ j, j < nd → ∀ t, hd j = some t → t < 8 := fun j hj t h => by have := ((hID j hj).2.2.2 t h).1; omega
  have hmo3 : ∀ i, i < n → ∀ j, mo i = some j → j < nd := fun i hi j h => ((hIT i hi).2.2.2.2.2.1 j h).1
  have hfw : ∀ k, k < nj → fw k = if fin k then -1 else jt k := fun k hk => (hM5 k hk).1
  obtain ⟨ho, hK⟩ := k1_no h0
  · refine lv_aload_n hx hb dX5_stands_0 rfl (lv_at hl 0 rfl) ?_
    refine lv_aload_n hx hb dX5_stands_1 rfl (lv_at hl 0 rfl) ?_
    refine lv_iload_n hx hb dX5_stands_2 rfl (lv_at hl 1 rfl) ?_
    refine zk_V_i (n := 1) (As := [.int (v0)]) (rest := [.ref (gd 0)]) hx hb hml hts hown hZ hP (c_X5_isDrive l D cA _ hm0 (by omega) v0) gX5_stands_X5_isDrive rfl rfl ⟨rfl, rfl⟩ ⟨by decide +kernel, Nat.le_of_ble_eq_true rfl, Nat.le_of_ble_eq_true rfl⟩ m0 rfl hl.1 rfl (Nat.le_of_ble_eq_true rfl) ⟨Nat.le_of_ble_eq_true rfl, Nat.le_of_ble_eq_true rfl⟩ rfl dX5_stands_3 (fun r_1 hr_2 => ?_)
    obtain rfl := show r_1 = _ from hr_2
    refine zx_val (y := bI (false)) (by rw [ho]; rfl) ?_
    refine zw_V_i (n := 1) (mc := 0) (ms := 0) (As := [.int (bI (false))]) (rest := []) (w1 := fun u : Unit => ws.set 0 (gd 0, zMod gd n nd nj my 1)) hx hb hml hts hown hZ hP hD hS hA (c_X5_may l D cA _ _ gd n nd nj my th false (m0)) gX5_stands_X5_may rfl rfl ⟨rfl, rfl⟩ ⟨by decide +kernel, Nat.le_of_ble_eq_true rfl, Nat.le_of_ble_eq_true rfl⟩ m0 rfl hl.1 rfl (Nat.le_of_ble_eq_true rfl) ⟨Nat.le_of_ble_eq_true rfl, Nat.le_of_ble_eq_true rfl⟩ rfl dX5_stands_6 (fun r_3 u_5 H locs hr_4 hP hD hS hz_5 => ?_)
    obtain rfl := show r_3 = _ from hr_4
    have hP : va_P D vwCl (ws.set 0 (gd 0, zMod gd n nd nj my 1)) H := hP
    have hD : va_D A (ws.set 0 (gd 0, zMod gd n nd nj my 1)) := hD
    refine zb_ne (tgt := 14) hx hb dX5_stands_9 (by decide) (fun c_6 => Bool.noConfusion c_6) (fun c_6 => ?_)
    refine lv_iconst (v := nI (0)) hx hb dX5_stands_12 (by decide) ?_
    exact zr_qi (S := va_W) (w1 := fun u => u) (ws.set 0 (gd 0, zMod gd n nd nj my 1)) hx hb hr hlocks (⟨(mKeep_set mKeep_rf (by decide)), (by rw [hK]; exact (mL_0 hm0 n nd nj my 1))⟩) hP hD hS (rfl) dX5_stands_13

set_option maxHeartbeats 4000000 in
set_option maxRecDepth 100000 in
theorem c_X5_start_ok (l : Launch) (D : va_G) (cA : Nat → ClassId) (sz : Nat) (ws : va_W) {gd : Nat → Nat} {n : Nat} {tr : Nat → Nat} {le : Nat → Nat} {sl : Nat → Nat} {mo : Nat → Option Nat} {la : Nat → Bool} {fc : Nat → Nat} {sf : Nat → Int32} {bf : Nat → Int32} {nd : Nat} {mk : Nat → Nat} {ck : Nat → Int32} {ct : Nat → Nat} {hd : Nat → Option Nat} {pf : Nat → Int32} {nj : Nat} {jt : Nat → Int32} {jf : Nat → Nat} {dl : Nat → Nat} {fin : Nat → Bool} {my : Nat} {fls : Nat → Int32} {fod : Nat → Int32} {fle : Nat → Int32} {fro : Nat → Int32} {th : Nat} {bo : Nat → Nat → Nat} {pq : Nat → Int32} {fw : Nat → Int32} {dn : Nat} (hm : mL cA ws gd n tr le sl mo la fc sf bf nd mk ck ct hd pf nj jt jf dl fin my fls fod fle fro th) (hI : zI n tr le sl mo fc bo nd mk ct hd pq nj fw jf dl) (hM : mI n la fc bo nd ck ct hd pq pf nj fw jt fin sf bf dn) (t f : Nat) (htn : t < n) (hfn : f < fc t) : Met l yX5_start wsX5_start ({ frames := 3, cells := 0, slots := 0, locals := 65 }) (va_Pc [.ref (gd 0), .int (nI (t)), .int (nI (f))] (zM D cA (ws) sz)) (va_Qi (fun (r : Int32) (u : va_W) => r = nI (bo t f) ∧ mKeep ws u ∧ mL cA u gd n tr le sl mo la fc sf bf nd mk ck ct hd pf nj jt jf dl fin my fls fod fle fro 0) (fun u => zB D (va_A (ws) sz) (u)) (va_A (ws) sz)) 0 0 (va_A (ws) sz) := by
  refine zOpen (cc := cX5_start) (maxL := 3) (ret := (some .int)) (own := RX5) (by decide) rfl rfl (Nat.le_of_ble_eq_true rfl) ?_
  intro p e s m below meth c ls hx hb hr hml hts hown hlocks hnm ⟨hZ, hP, hD0, hsz⟩ hl
  subst hsz
  have hD := hD0.self (sz := s.heap.size)
  generalize hAe : va_A (ws) s.heap.size = A at hD ⊢
  have hA : ∀ q : Nat, s.heap.size ≤ q → A q := fun q h => by rw [← hAe]; exact Or.inr h
  have hS : va_S A s.heap s.heap [] := va_S.rf
  have iX5 : ∀ w ∈ wsX50, w ∈ wsX5_start := by decide +kernel
  have hl : lv_has ls 3 [(0, .ref (gd 0)), (1, .int (nI (t))), (2, .int (nI (f)))] := hl
  have hm0 := hm
  have hI0 := hI
  have hM0 := hM
  obtain ⟨hn8, hd3, hj60, hIT, hID, hIJ, hIdl, hIw⟩ := hI
  obtain ⟨hM1, hM2, hM3, hM4, hM5, hM6, hM7⟩ := hM
  obtain ⟨m0, m1, m2, m3, m4, m5, m6, m7, m8, m9, m10, m11, m12, m13, m14, m15, m16, m17, m18, m19, m20, m21⟩ := hm
  have hfc10 : ∀ i, i < n → fc i ≤ 10 := fun i hi => (hIT i hi).2.2.2.2.2.2.1
  have hsl12 : ∀ i, i < n → sl i < 12 := fun i hi => (hIT i hi).2.2.2.2.1
  have hH8 : ∀ j, j < nd → ∀ t, hd j = some t → t < 8 := fun j hj t h => by have := ((hID j hj).2.2.2 t h).1; omega
  have hmo3 : ∀ i, i < n → ∀ j, mo i = some j → j < nd := fun i hi j h => ((hIT i hi).2.2.2.2.2.1 j h).1
  have hfw : ∀ k, k < nj → fw k = if fin k then -1 else jt k := fun k hk => (hM5 k hk).1
  have hfx := hfc10 t htn
  refine lv_aload_n hx hb dX5_start_0 rfl (lv_at hl 0 rfl) ?_
  refine lv_aload_n hx hb dX5_start_1 rfl (lv_at hl 0 rfl) ?_
  refine lv_iload_n hx hb dX5_start_2 rfl (lv_at hl 1 rfl) ?_
  refine lv_iload_n hx hb dX5_start_3 rfl (lv_at hl 2 rfl) ?_
  refine zk_V_i (n := 2) (As := [.int (nI (t)), .int (nI (f))]) (rest := [.ref (gd 0)]) hx hb hml hts hown hZ hP (c_X5_isFile l D cA _ hm0 hn8 hfc10 (nI (t)) (nI (f))) gX5_start_X5_isFile rfl rfl ⟨rfl, rfl⟩ ⟨by decide +kernel, Nat.le_of_ble_eq_true rfl, Nat.le_of_ble_eq_true rfl⟩ m0 rfl hl.1 rfl (Nat.le_of_ble_eq_true rfl) ⟨Nat.le_of_ble_eq_true rfl, Nat.le_of_ble_eq_true rfl⟩ rfl dX5_start_4 (fun r_1 hr_2 => ?_)
  obtain rfl := show r_1 = _ from hr_2
  refine zx_val (y := bI (true)) (by rw [ix_in (by omega) htn]; show bI (ix (nI f) (fc t)).isSome = _; rw [ix_in (by omega) hfn]; rfl) ?_
  refine zw_V_i (n := 1) (mc := 0) (ms := 0) (As := [.int (bI (true))]) (rest := []) (w1 := fun u : Unit => ws.set 0 (gd 0, zMod gd n nd nj my 0)) hx hb hml hts hown hZ hP hD hS hA (c_X5_may l D cA _ _ gd n nd nj my th true (m0)) gX5_start_X5_may rfl rfl ⟨rfl, rfl⟩ ⟨by decide +kernel, Nat.le_of_ble_eq_true rfl, Nat.le_of_ble_eq_true rfl⟩ m0 rfl hl.1 rfl (Nat.le_of_ble_eq_true rfl) ⟨Nat.le_of_ble_eq_true rfl, Nat.le_of_ble_eq_true rfl⟩ rfl dX5_start_7 (fun r_3 u_5 H locs hr_4 hP hD hS hz_5 => ?_)
  obtain rfl := show r_3 = _ from hr_4
  have hP : va_P D vwCl (ws.set 0 (gd 0, zMod gd n nd nj my 0)) H := hP
  have hD : va_D A (ws.set 0 (gd 0, zMod gd n nd nj my 0)) := hD
  refine zb_eq (tgt := 27) hx hb dX5_start_10 (by decide) (fun c_6 => Bool.noConfusion c_6) (fun c_6 => ?_)
  refine lv_aload_n hx hb dX5_start_13 rfl (lv_at hl 0 rfl) ?_
  refine va_get (D := D) (ci := 5) (v := .ref (gd 7)) (C := RX5) (T := TX5) (N := 26) hx hb hts iX5 hown hZ.1 hP 0 (zset_s m0) rfl 7 (by decide) (hts (.fieldLink RX5 29 "TapeRoboticsModel" "start" "[I") (by decide +kernel)) (fun _ h9 => h9) rfl dX5_start_14 ?_
  refine lv_bipush (v := nI (10)) hx hb dX5_start_17 (by decide) ?_
  refine lv_iload_n hx hb dX5_start_19 rfl (lv_at hl 1 rfl) ?_
  refine zo_mul hx hb dX5_start_20 ?_
  refine lv_iload_n hx hb dX5_start_21 rfl (lv_at hl 2 rfl) ?_
  refine zo_add hx hb dX5_start_22 ?_
  refine va_iald hx hb hZ.1 hP 7 0 (zset_n m7 (by decide)) rfl (vp_in_nI (show (10 * t) + f < 80 by omega) (by omega)) dX5_start_23 ?_
  rw [nI_clamp (show (10 * t) + f < 2 ^ 31 by omega)]
  refine lv_goto (tgt := 28) hx hb dX5_start_24 (by decide) ?_
  exact zr_qi (S := va_W) (w1 := fun u => u) (ws.set 0 (gd 0, zMod gd n nd nj my 0)) hx hb hr hlocks (⟨(hM3 t f htn hfn).1, (mKeep_set mKeep_rf (by decide)), (mL_0 hm0 n nd nj my 0)⟩) hP hD hS (rfl) dX5_start_28

set_option maxHeartbeats 4000000 in
set_option maxRecDepth 100000 in
theorem c_X5_start_no (l : Launch) (D : va_G) (cA : Nat → ClassId) (sz : Nat) (ws : va_W) {gd : Nat → Nat} {n : Nat} {tr : Nat → Nat} {le : Nat → Nat} {sl : Nat → Nat} {mo : Nat → Option Nat} {la : Nat → Bool} {fc : Nat → Nat} {sf : Nat → Int32} {bf : Nat → Int32} {nd : Nat} {mk : Nat → Nat} {ck : Nat → Int32} {ct : Nat → Nat} {hd : Nat → Option Nat} {pf : Nat → Int32} {nj : Nat} {jt : Nat → Int32} {jf : Nat → Nat} {dl : Nat → Nat} {fin : Nat → Bool} {my : Nat} {fls : Nat → Int32} {fod : Nat → Int32} {fle : Nat → Int32} {fro : Nat → Int32} {th : Nat} {bo : Nat → Nat → Nat} {pq : Nat → Int32} {fw : Nat → Int32} {dn : Nat} (hm : mL cA ws gd n tr le sl mo la fc sf bf nd mk ck ct hd pf nj jt jf dl fin my fls fod fle fro th) (hI : zI n tr le sl mo fc bo nd mk ct hd pq nj fw jf dl) (hM : mI n la fc bo nd ck ct hd pq pf nj fw jt fin sf bf dn) (v0 : Int32) (v1 : Int32) (h0 : (k1b (ix v0 n) (fun t => ix v1 (fc t))) ≠ 0) : Met l yX5_start wsX5_start ({ frames := 3, cells := 0, slots := 0, locals := 65 }) (va_Pc [.ref (gd 0), .int (v0), .int (v1)] (zM D cA (ws) sz)) (va_Qi (fun (r : Int32) (u : va_W) => mKeep ws u ∧ mL cA u gd n tr le sl mo la fc sf bf nd mk ck ct hd pf nj jt jf dl fin my fls fod fle fro (k1b (ix v0 n) (fun t => ix v1 (fc t)))) (fun u => zB D (va_A (ws) sz) (u)) (va_A (ws) sz)) 0 0 (va_A (ws) sz) := by
  refine zOpen (cc := cX5_start) (maxL := 3) (ret := (some .int)) (own := RX5) (by decide) rfl rfl (Nat.le_of_ble_eq_true rfl) ?_
  intro p e s m below meth c ls hx hb hr hml hts hown hlocks hnm ⟨hZ, hP, hD0, hsz⟩ hl
  subst hsz
  have hD := hD0.self (sz := s.heap.size)
  generalize hAe : va_A (ws) s.heap.size = A at hD ⊢
  have hA : ∀ q : Nat, s.heap.size ≤ q → A q := fun q h => by rw [← hAe]; exact Or.inr h
  have hS : va_S A s.heap s.heap [] := va_S.rf
  have iX5 : ∀ w ∈ wsX50, w ∈ wsX5_start := by decide +kernel
  have hl : lv_has ls 3 [(0, .ref (gd 0)), (1, .int (v0)), (2, .int (v1))] := hl
  have hm0 := hm
  have hI0 := hI
  have hM0 := hM
  obtain ⟨hn8, hd3, hj60, hIT, hID, hIJ, hIdl, hIw⟩ := hI
  obtain ⟨hM1, hM2, hM3, hM4, hM5, hM6, hM7⟩ := hM
  obtain ⟨m0, m1, m2, m3, m4, m5, m6, m7, m8, m9, m10, m11, m12, m13, m14, m15, m16, m17, m18, m19, m20, m21⟩ := hm
  have hfc10 : ∀ i, i < n → fc i ≤ 10 := fun i hi => (hIT i hi).2.2.2.2.2.2.1
  have hsl12 : ∀ i, i < n → sl i < 12 := fun i hi => (hIT i hi).2.2.2.2.1
  have hH8 : ∀ j, j < nd → ∀ t, hd j = some t → t < 8 := fun j hj t h => by have := ((hID j hj).2.2.2 t h).1; omega
  have hmo3 : ∀ i, i < n → ∀ j, mo i = some j → j < nd := fun i hi j h => ((hIT i hi).2.2.2.2.2.1 j h).1
  have hfw : ∀ k, k < nj → fw k = if fin k then -1 else jt k := fun k hk => (hM5 k hk).1
  rcases k1b_no h0 with ⟨ho, hK⟩ | ⟨t, ho, hq, hK⟩
  · refine lv_aload_n hx hb dX5_start_0 rfl (lv_at hl 0 rfl) ?_
    refine lv_aload_n hx hb dX5_start_1 rfl (lv_at hl 0 rfl) ?_
    refine lv_iload_n hx hb dX5_start_2 rfl (lv_at hl 1 rfl) ?_
    refine lv_iload_n hx hb dX5_start_3 rfl (lv_at hl 2 rfl) ?_
    refine zk_V_i (n := 2) (As := [.int (v0), .int (v1)]) (rest := [.ref (gd 0)]) hx hb hml hts hown hZ hP (c_X5_isFile l D cA _ hm0 hn8 hfc10 v0 v1) gX5_start_X5_isFile rfl rfl ⟨rfl, rfl⟩ ⟨by decide +kernel, Nat.le_of_ble_eq_true rfl, Nat.le_of_ble_eq_true rfl⟩ m0 rfl hl.1 rfl (Nat.le_of_ble_eq_true rfl) ⟨Nat.le_of_ble_eq_true rfl, Nat.le_of_ble_eq_true rfl⟩ rfl dX5_start_4 (fun r_1 hr_2 => ?_)
    obtain rfl := show r_1 = _ from hr_2
    refine zx_val (y := bI (false)) (by rw [ho]; rfl) ?_
    refine zw_V_i (n := 1) (mc := 0) (ms := 0) (As := [.int (bI (false))]) (rest := []) (w1 := fun u : Unit => ws.set 0 (gd 0, zMod gd n nd nj my 1)) hx hb hml hts hown hZ hP hD hS hA (c_X5_may l D cA _ _ gd n nd nj my th false (m0)) gX5_start_X5_may rfl rfl ⟨rfl, rfl⟩ ⟨by decide +kernel, Nat.le_of_ble_eq_true rfl, Nat.le_of_ble_eq_true rfl⟩ m0 rfl hl.1 rfl (Nat.le_of_ble_eq_true rfl) ⟨Nat.le_of_ble_eq_true rfl, Nat.le_of_ble_eq_true rfl⟩ rfl dX5_start_7 (fun r_3 u_5 H locs hr_4 hP hD hS hz_5 => ?_)
    obtain rfl := show r_3 = _ from hr_4
    have hP : va_P D vwCl (ws.set 0 (gd 0, zMod gd n nd nj my 1)) H := hP
    have hD : va_D A (ws.set 0 (gd 0, zMod gd n nd nj my 1)) := hD
    refine zb_eq (tgt := 27) hx hb dX5_start_10 (by decide) (fun c_6 => ?_) (fun c_6 => Bool.noConfusion c_6)
    refine lv_iconst (v := nI (0)) hx hb dX5_start_27 (by decide) ?_
    exact zr_qi (S := va_W) (w1 := fun u => u) (ws.set 0 (gd 0, zMod gd n nd nj my 1)) hx hb hr hlocks (⟨(mKeep_set mKeep_rf (by decide)), (by rw [hK]; exact (mL_0 hm0 n nd nj my 1))⟩) hP hD hS (rfl) dX5_start_28
  · refine lv_aload_n hx hb dX5_start_0 rfl (lv_at hl 0 rfl) ?_
    refine lv_aload_n hx hb dX5_start_1 rfl (lv_at hl 0 rfl) ?_
    refine lv_iload_n hx hb dX5_start_2 rfl (lv_at hl 1 rfl) ?_
    refine lv_iload_n hx hb dX5_start_3 rfl (lv_at hl 2 rfl) ?_
    refine zk_V_i (n := 2) (As := [.int (v0), .int (v1)]) (rest := [.ref (gd 0)]) hx hb hml hts hown hZ hP (c_X5_isFile l D cA _ hm0 hn8 hfc10 v0 v1) gX5_start_X5_isFile rfl rfl ⟨rfl, rfl⟩ ⟨by decide +kernel, Nat.le_of_ble_eq_true rfl, Nat.le_of_ble_eq_true rfl⟩ m0 rfl hl.1 rfl (Nat.le_of_ble_eq_true rfl) ⟨Nat.le_of_ble_eq_true rfl, Nat.le_of_ble_eq_true rfl⟩ rfl dX5_start_4 (fun r_7 hr_8 => ?_)
    obtain rfl := show r_7 = _ from hr_8
    refine zx_val (y := bI (false)) (by rw [ho]; show bI (ix v1 (fc t)).isSome = _; rw [hq]; rfl) ?_
    refine zw_V_i (n := 1) (mc := 0) (ms := 0) (As := [.int (bI (false))]) (rest := []) (w1 := fun u : Unit => ws.set 0 (gd 0, zMod gd n nd nj my 1)) hx hb hml hts hown hZ hP hD hS hA (c_X5_may l D cA _ _ gd n nd nj my th false (m0)) gX5_start_X5_may rfl rfl ⟨rfl, rfl⟩ ⟨by decide +kernel, Nat.le_of_ble_eq_true rfl, Nat.le_of_ble_eq_true rfl⟩ m0 rfl hl.1 rfl (Nat.le_of_ble_eq_true rfl) ⟨Nat.le_of_ble_eq_true rfl, Nat.le_of_ble_eq_true rfl⟩ rfl dX5_start_7 (fun r_9 u_11 H locs hr_10 hP hD hS hz_11 => ?_)
    obtain rfl := show r_9 = _ from hr_10
    have hP : va_P D vwCl (ws.set 0 (gd 0, zMod gd n nd nj my 1)) H := hP
    have hD : va_D A (ws.set 0 (gd 0, zMod gd n nd nj my 1)) := hD
    refine zb_eq (tgt := 27) hx hb dX5_start_10 (by decide) (fun c_12 => ?_) (fun c_12 => Bool.noConfusion c_12)
    refine lv_iconst (v := nI (0)) hx hb dX5_start_27 (by decide) ?_
    exact zr_qi (S := va_W) (w1 := fun u => u) (ws.set 0 (gd 0, zMod gd n nd nj my 1)) hx hb hr hlocks (⟨(mKeep_set mKeep_rf (by decide)), (by rw [hK]; exact (mL_0 hm0 n nd nj my 1))⟩) hP hD hS (rfl) dX5_start_28

theorem altO_alo {tr le p : Nat} (h1 : 0 < tr) (h : 0 < le) (hp : p < tr * le) : altO le p = alo tr le p := by
  have h2 := ofE_alt h1 h (Nat.le_of_lt hp)
  rwa [show ofE (tr * le) p = p from if_neg (by omega)] at h2
set_option maxHeartbeats 4000000 in
set_option maxRecDepth 100000 in
theorem c_X5_along_ok (l : Launch) (D : va_G) (cA : Nat → ClassId) (sz : Nat) (ws : va_W) {gd : Nat → Nat} {n : Nat} {tr : Nat → Nat} {le : Nat → Nat} {sl : Nat → Nat} {mo : Nat → Option Nat} {la : Nat → Bool} {fc : Nat → Nat} {sf : Nat → Int32} {bf : Nat → Int32} {nd : Nat} {mk : Nat → Nat} {ck : Nat → Int32} {ct : Nat → Nat} {hd : Nat → Option Nat} {pf : Nat → Int32} {nj : Nat} {jt : Nat → Int32} {jf : Nat → Nat} {dl : Nat → Nat} {fin : Nat → Bool} {my : Nat} {fls : Nat → Int32} {fod : Nat → Int32} {fle : Nat → Int32} {fro : Nat → Int32} {th : Nat} {bo : Nat → Nat → Nat} {pq : Nat → Int32} {fw : Nat → Int32} {dn : Nat} (hm : mL cA ws gd n tr le sl mo la fc sf bf nd mk ck ct hd pf nj jt jf dl fin my fls fod fle fro th) (hI : zI n tr le sl mo fc bo nd mk ct hd pq nj fw jf dl) (hM : mI n la fc bo nd ck ct hd pq pf nj fw jt fin sf bf dn) (t q : Nat) (htn : t < n) (hqn : q < tr t * le t) : Met l yX5_along wsX5_along ({ frames := 2, cells := 0, slots := 0, locals := 45 }) (va_Pc [.ref (gd 0), .int (nI (t)), .int (nI (q))] (zM D cA (ws) sz)) (va_Qi (fun (r : Int32) (u : va_W) => r = nI (alo (tr t) (le t) q) ∧ mKeep ws u ∧ mL cA u gd n tr le sl mo la fc sf bf nd mk ck ct hd pf nj jt jf dl fin my fls fod fle fro 0) (fun u => zB D (va_A (ws) sz) (u)) (va_A (ws) sz)) 0 0 (va_A (ws) sz) := by
  refine zOpen (cc := cX5_along) (maxL := 3) (ret := (some .int)) (own := RX5) (by decide) rfl rfl (Nat.le_of_ble_eq_true rfl) ?_
  intro p e s m below meth c ls hx hb hr hml hts hown hlocks hnm ⟨hZ, hP, hD0, hsz⟩ hl
  subst hsz
  have hD := hD0.self (sz := s.heap.size)
  generalize hAe : va_A (ws) s.heap.size = A at hD ⊢
  have hA : ∀ q : Nat, s.heap.size ≤ q → A q := fun q h => by rw [← hAe]; exact Or.inr h
  have hS : va_S A s.heap s.heap [] := va_S.rf
  have iX5 : ∀ w ∈ wsX50, w ∈ wsX5_along := by decide +kernel
  have hl : lv_has ls 3 [(0, .ref (gd 0)), (1, .int (nI (t))), (2, .int (nI (q)))] := hl
  have hm0 := hm
  have hI0 := hI
  have hM0 := hM
  obtain ⟨hn8, hd3, hj60, hIT, hID, hIJ, hIdl, hIw⟩ := hI
  obtain ⟨hM1, hM2, hM3, hM4, hM5, hM6, hM7⟩ := hM
  obtain ⟨m0, m1, m2, m3, m4, m5, m6, m7, m8, m9, m10, m11, m12, m13, m14, m15, m16, m17, m18, m19, m20, m21⟩ := hm
  have hfc10 : ∀ i, i < n → fc i ≤ 10 := fun i hi => (hIT i hi).2.2.2.2.2.2.1
  have hsl12 : ∀ i, i < n → sl i < 12 := fun i hi => (hIT i hi).2.2.2.2.1
  have hH8 : ∀ j, j < nd → ∀ t, hd j = some t → t < 8 := fun j hj t h => by have := ((hID j hj).2.2.2 t h).1; omega
  have hmo3 : ∀ i, i < n → ∀ j, mo i = some j → j < nd := fun i hi j h => ((hIT i hi).2.2.2.2.2.1 j h).1
  have hfw : ∀ k, k < nj → fw k = if fin k then -1 else jt k := fun k hk => (hM5 k hk).1
  have hmul : tr t * le t ≤ 8 * 200 := Nat.mul_le_mul (hIT t htn).2.1 (hIT t htn).2.2.2.1
  have htr8 := (hIT t htn).2.1
  have hle200 := (hIT t htn).2.2.2.1
  have hle4 := (hIT t htn).2.2.1
  refine lv_aload_n hx hb dX5_along_0 rfl (lv_at hl 0 rfl) ?_
  refine lv_aload_n hx hb dX5_along_1 rfl (lv_at hl 0 rfl) ?_
  refine lv_iload_n hx hb dX5_along_2 rfl (lv_at hl 1 rfl) ?_
  refine zk_V_i (n := 1) (As := [.int (nI (t))]) (rest := [.ref (gd 0)]) hx hb hml hts hown hZ hP (c_X5_isTape l D cA _ hm0 (by omega) (nI (t))) gX5_along_X5_isTape rfl rfl ⟨rfl, rfl⟩ ⟨by decide +kernel, Nat.le_of_ble_eq_true rfl, Nat.le_of_ble_eq_true rfl⟩ m0 rfl hl.1 rfl (Nat.le_of_ble_eq_true rfl) ⟨Nat.le_of_ble_eq_true rfl, Nat.le_of_ble_eq_true rfl⟩ rfl dX5_along_3 (fun r_1 hr_2 => ?_)
  obtain rfl := show r_1 = _ from hr_2
  refine zx_val (y := bI (true)) (by rw [ix_in (by omega) htn]; rfl) ?_
  refine zb_eq (tgt := 34) hx hb dX5_along_6 (by decide) (fun c_3 => Bool.noConfusion c_3) (fun c_3 => ?_)
  refine lv_iload_n hx hb dX5_along_9 rfl (lv_at hl 2 rfl) ?_
  refine zf_lt (tgt := 34) hx hb (by omega) dX5_along_10 (by decide) ?_
  refine lv_iload_n hx hb dX5_along_13 rfl (lv_at hl 2 rfl) ?_
  refine lv_aload_n hx hb dX5_along_14 rfl (lv_at hl 0 rfl) ?_
  refine va_get (D := D) (ci := 5) (v := .ref (gd 1)) (C := RX5) (T := TX5) (N := 26) hx hb hts iX5 hown hZ.1 hP 0 m0 rfl 1 (by decide) (hts (.fieldLink RX5 7 "TapeRoboticsModel" "tracks" "[I") (by decide +kernel)) (fun _ h9 => h9) rfl dX5_along_15 ?_
  refine lv_iload_n hx hb dX5_along_18 rfl (lv_at hl 1 rfl) ?_
  refine va_iald hx hb hZ.1 hP 1 0 m1 rfl (vp_in_nI (show t < 8 by omega) (by omega)) dX5_along_19 ?_
  rw [nI_clamp (show t < 2 ^ 31 by omega)]
  refine lv_aload_n hx hb dX5_along_20 rfl (lv_at hl 0 rfl) ?_
  refine va_get (D := D) (ci := 5) (v := .ref (gd 2)) (C := RX5) (T := TX5) (N := 26) hx hb hts iX5 hown hZ.1 hP 0 m0 rfl 2 (by decide) (hts (.fieldLink RX5 13 "TapeRoboticsModel" "length" "[I") (by decide +kernel)) (fun _ h9 => h9) rfl dX5_along_21 ?_
  refine lv_iload_n hx hb dX5_along_24 rfl (lv_at hl 1 rfl) ?_
  refine va_iald hx hb hZ.1 hP 2 0 m2 rfl (vp_in_nI (show t < 8 by omega) (by omega)) dX5_along_25 ?_
  rw [nI_clamp (show t < 2 ^ 31 by omega)]
  refine zo_mul hx hb dX5_along_26 ?_
  refine zc_ge (tgt := 34) hx hb (by omega) (by omega) dX5_along_27 (by decide) (fun c_5 => False.elim (by omega)) (fun c_5 => ?_)
  refine lv_iconst (v := nI (1)) hx hb dX5_along_30 (by decide) ?_
  refine lv_goto (tgt := 35) hx hb dX5_along_31 (by decide) ?_
  refine zw_V_i (n := 1) (mc := 0) (ms := 0) (As := [.int (bI (true))]) (rest := []) (w1 := fun u : Unit => ws.set 0 (gd 0, zMod gd n nd nj my 0)) hx hb hml hts hown hZ hP hD hS hA (c_X5_may l D cA _ _ gd n nd nj my th true (m0)) gX5_along_X5_may rfl rfl ⟨rfl, rfl⟩ ⟨by decide +kernel, Nat.le_of_ble_eq_true rfl, Nat.le_of_ble_eq_true rfl⟩ m0 rfl hl.1 rfl (Nat.le_of_ble_eq_true rfl) ⟨Nat.le_of_ble_eq_true rfl, Nat.le_of_ble_eq_true rfl⟩ rfl dX5_along_35 (fun r_6 u_8 H locs hr_7 hP hD hS hz_8 => ?_)
  obtain rfl := show r_6 = _ from hr_7
  have hP : va_P D vwCl (ws.set 0 (gd 0, zMod gd n nd nj my 0)) H := hP
  have hD : va_D A (ws.set 0 (gd 0, zMod gd n nd nj my 0)) := hD
  refine zb_eq (tgt := 50) hx hb dX5_along_38 (by decide) (fun c_9 => Bool.noConfusion c_9) (fun c_9 => ?_)
  refine lv_aload_n hx hb dX5_along_41 rfl (lv_at hl 0 rfl) ?_
  refine lv_iload_n hx hb dX5_along_42 rfl (lv_at hl 1 rfl) ?_
  refine lv_iload_n hx hb dX5_along_43 rfl (lv_at hl 2 rfl) ?_
  refine zk_V_i (n := 2) (As := [.int (nI (t)), .int (nI (q))]) (rest := []) hx hb hml hts hown hZ hP (c_X5_alongOf l D cA _ ((mL_0 hm0 n nd nj my 0)) t q (by omega) (by omega) (by omega) (by omega)) gX5_along_X5_alongOf rfl rfl ⟨rfl, rfl⟩ ⟨by decide +kernel, Nat.le_of_ble_eq_true rfl, Nat.le_of_ble_eq_true rfl⟩ (zset_s m0) rfl hl.1 rfl (Nat.le_of_ble_eq_true rfl) ⟨Nat.le_of_ble_eq_true rfl, Nat.le_of_ble_eq_true rfl⟩ rfl dX5_along_44 (fun r_10 hr_11 => ?_)
  obtain rfl := show r_10 = _ from hr_11
  refine lv_goto (tgt := 51) hx hb dX5_along_47 (by decide) ?_
  exact zr_qi (S := va_W) (w1 := fun u => u) (ws.set 0 (gd 0, zMod gd n nd nj my 0)) hx hb hr hlocks (⟨by rw [altO_alo (by have := (hIT t htn).1; omega) (by omega) hqn], (mKeep_set mKeep_rf (by decide)), (mL_0 hm0 n nd nj my 0)⟩) hP hD hS (rfl) dX5_along_51

set_option maxHeartbeats 4000000 in
set_option maxRecDepth 100000 in
theorem c_X5_along_no (l : Launch) (D : va_G) (cA : Nat → ClassId) (sz : Nat) (ws : va_W) {gd : Nat → Nat} {n : Nat} {tr : Nat → Nat} {le : Nat → Nat} {sl : Nat → Nat} {mo : Nat → Option Nat} {la : Nat → Bool} {fc : Nat → Nat} {sf : Nat → Int32} {bf : Nat → Int32} {nd : Nat} {mk : Nat → Nat} {ck : Nat → Int32} {ct : Nat → Nat} {hd : Nat → Option Nat} {pf : Nat → Int32} {nj : Nat} {jt : Nat → Int32} {jf : Nat → Nat} {dl : Nat → Nat} {fin : Nat → Bool} {my : Nat} {fls : Nat → Int32} {fod : Nat → Int32} {fle : Nat → Int32} {fro : Nat → Int32} {th : Nat} {bo : Nat → Nat → Nat} {pq : Nat → Int32} {fw : Nat → Int32} {dn : Nat} (hm : mL cA ws gd n tr le sl mo la fc sf bf nd mk ck ct hd pf nj jt jf dl fin my fls fod fle fro th) (hI : zI n tr le sl mo fc bo nd mk ct hd pq nj fw jf dl) (hM : mI n la fc bo nd ck ct hd pq pf nj fw jt fin sf bf dn) (v0 : Int32) (v1 : Int32) (h0 : (k1b (ix v0 n) (fun t => ix v1 (tr t * le t))) ≠ 0) : Met l yX5_along wsX5_along ({ frames := 2, cells := 0, slots := 0, locals := 45 }) (va_Pc [.ref (gd 0), .int (v0), .int (v1)] (zM D cA (ws) sz)) (va_Qi (fun (r : Int32) (u : va_W) => mKeep ws u ∧ mL cA u gd n tr le sl mo la fc sf bf nd mk ck ct hd pf nj jt jf dl fin my fls fod fle fro (k1b (ix v0 n) (fun t => ix v1 (tr t * le t)))) (fun u => zB D (va_A (ws) sz) (u)) (va_A (ws) sz)) 0 0 (va_A (ws) sz) := by
  refine zOpen (cc := cX5_along) (maxL := 3) (ret := (some .int)) (own := RX5) (by decide) rfl rfl (Nat.le_of_ble_eq_true rfl) ?_
  intro p e s m below meth c ls hx hb hr hml hts hown hlocks hnm ⟨hZ, hP, hD0, hsz⟩ hl
  subst hsz
  have hD := hD0.self (sz := s.heap.size)
  generalize hAe : va_A (ws) s.heap.size = A at hD ⊢
  have hA : ∀ q : Nat, s.heap.size ≤ q → A q := fun q h => by rw [← hAe]; exact Or.inr h
  have hS : va_S A s.heap s.heap [] := va_S.rf
  have iX5 : ∀ w ∈ wsX50, w ∈ wsX5_along := by decide +kernel
  have hl : lv_has ls 3 [(0, .ref (gd 0)), (1, .int (v0)), (2, .int (v1))] := hl
  have hm0 := hm
  have hI0 := hI
  have hM0 := hM
  obtain ⟨hn8, hd3, hj60, hIT, hID, hIJ, hIdl, hIw⟩ := hI
  obtain ⟨hM1, hM2, hM3, hM4, hM5, hM6, hM7⟩ := hM
  obtain ⟨m0, m1, m2, m3, m4, m5, m6, m7, m8, m9, m10, m11, m12, m13, m14, m15, m16, m17, m18, m19, m20, m21⟩ := hm
  have hfc10 : ∀ i, i < n → fc i ≤ 10 := fun i hi => (hIT i hi).2.2.2.2.2.2.1
  have hsl12 : ∀ i, i < n → sl i < 12 := fun i hi => (hIT i hi).2.2.2.2.1
  have hH8 : ∀ j, j < nd → ∀ t, hd j = some t → t < 8 := fun j hj t h => by have := ((hID j hj).2.2.2 t h).1; omega
  have hmo3 : ∀ i, i < n → ∀ j, mo i = some j → j < nd := fun i hi j h => ((hIT i hi).2.2.2.2.2.1 j h).1
  have hfw : ∀ k, k < nj → fw k = if fin k then -1 else jt k := fun k hk => (hM5 k hk).1
  rcases k1b_no h0 with ⟨ho, hK⟩ | ⟨t, ho, hq, hK⟩
  · refine lv_aload_n hx hb dX5_along_0 rfl (lv_at hl 0 rfl) ?_
    refine lv_aload_n hx hb dX5_along_1 rfl (lv_at hl 0 rfl) ?_
    refine lv_iload_n hx hb dX5_along_2 rfl (lv_at hl 1 rfl) ?_
    refine zk_V_i (n := 1) (As := [.int (v0)]) (rest := [.ref (gd 0)]) hx hb hml hts hown hZ hP (c_X5_isTape l D cA _ hm0 (by omega) v0) gX5_along_X5_isTape rfl rfl ⟨rfl, rfl⟩ ⟨by decide +kernel, Nat.le_of_ble_eq_true rfl, Nat.le_of_ble_eq_true rfl⟩ m0 rfl hl.1 rfl (Nat.le_of_ble_eq_true rfl) ⟨Nat.le_of_ble_eq_true rfl, Nat.le_of_ble_eq_true rfl⟩ rfl dX5_along_3 (fun r_1 hr_2 => ?_)
    obtain rfl := show r_1 = _ from hr_2
    refine zx_val (y := bI (false)) (by rw [ho]; rfl) ?_
    refine zb_eq (tgt := 34) hx hb dX5_along_6 (by decide) (fun c_3 => ?_) (fun c_3 => Bool.noConfusion c_3)
    refine lv_iconst (v := nI (0)) hx hb dX5_along_34 (by decide) ?_
    refine zw_V_i (n := 1) (mc := 0) (ms := 0) (As := [.int (bI (false))]) (rest := []) (w1 := fun u : Unit => ws.set 0 (gd 0, zMod gd n nd nj my 1)) hx hb hml hts hown hZ hP hD hS hA (c_X5_may l D cA _ _ gd n nd nj my th false (m0)) gX5_along_X5_may rfl rfl ⟨rfl, rfl⟩ ⟨by decide +kernel, Nat.le_of_ble_eq_true rfl, Nat.le_of_ble_eq_true rfl⟩ m0 rfl hl.1 rfl (Nat.le_of_ble_eq_true rfl) ⟨Nat.le_of_ble_eq_true rfl, Nat.le_of_ble_eq_true rfl⟩ rfl dX5_along_35 (fun r_4 u_6 H locs hr_5 hP hD hS hz_6 => ?_)
    obtain rfl := show r_4 = _ from hr_5
    have hP : va_P D vwCl (ws.set 0 (gd 0, zMod gd n nd nj my 1)) H := hP
    have hD : va_D A (ws.set 0 (gd 0, zMod gd n nd nj my 1)) := hD
    refine zb_eq (tgt := 50) hx hb dX5_along_38 (by decide) (fun c_7 => ?_) (fun c_7 => Bool.noConfusion c_7)
    refine lv_iconst (v := nI (0)) hx hb dX5_along_50 (by decide) ?_
    exact zr_qi (S := va_W) (w1 := fun u => u) (ws.set 0 (gd 0, zMod gd n nd nj my 1)) hx hb hr hlocks (⟨(mKeep_set mKeep_rf (by decide)), (by rw [hK]; exact (mL_0 hm0 n nd nj my 1))⟩) hP hD hS (rfl) dX5_along_51
  · obtain ⟨htn, rfl⟩ := ix_some ho
    have hmul : tr t * le t ≤ 8 * 200 := Nat.mul_le_mul (hIT t htn).2.1 (hIT t htn).2.2.2.1
    have htr8 := (hIT t htn).2.1
    have hle200 := (hIT t htn).2.2.2.1
    have hle4 := (hIT t htn).2.2.1
    have hl : lv_has ls 3 [(0, .ref (gd 0)), (1, .int (nI (t))), (2, .int (v1))] := hl
    rcases zI_split v1 with hneg | ⟨q9, hq31, rfl⟩
    · refine lv_aload_n hx hb dX5_along_0 rfl (lv_at hl 0 rfl) ?_
      refine lv_aload_n hx hb dX5_along_1 rfl (lv_at hl 0 rfl) ?_
      refine lv_iload_n hx hb dX5_along_2 rfl (lv_at hl 1 rfl) ?_
      refine zk_V_i (n := 1) (As := [.int (nI (t))]) (rest := [.ref (gd 0)]) hx hb hml hts hown hZ hP (c_X5_isTape l D cA _ hm0 (by omega) (nI (t))) gX5_along_X5_isTape rfl rfl ⟨rfl, rfl⟩ ⟨by decide +kernel, Nat.le_of_ble_eq_true rfl, Nat.le_of_ble_eq_true rfl⟩ m0 rfl hl.1 rfl (Nat.le_of_ble_eq_true rfl) ⟨Nat.le_of_ble_eq_true rfl, Nat.le_of_ble_eq_true rfl⟩ rfl dX5_along_3 (fun r_8 hr_9 => ?_)
      obtain rfl := show r_8 = _ from hr_9
      refine zx_val (y := bI (true)) (by rw [ix_in (by omega) htn]; rfl) ?_
      refine zb_eq (tgt := 34) hx hb dX5_along_6 (by decide) (fun c_10 => Bool.noConfusion c_10) (fun c_10 => ?_)
      refine lv_iload_n hx hb dX5_along_9 rfl (lv_at hl 2 rfl) ?_
      refine lv_if_lt (tgt := 34) hx hb dX5_along_10 (by decide) (fun c_11 => ?_) (fun c_11 => absurd hneg c_11)
      refine lv_iconst (v := nI (0)) hx hb dX5_along_34 (by decide) ?_
      refine zw_V_i (n := 1) (mc := 0) (ms := 0) (As := [.int (bI (false))]) (rest := []) (w1 := fun u : Unit => ws.set 0 (gd 0, zMod gd n nd nj my 1)) hx hb hml hts hown hZ hP hD hS hA (c_X5_may l D cA _ _ gd n nd nj my th false (m0)) gX5_along_X5_may rfl rfl ⟨rfl, rfl⟩ ⟨by decide +kernel, Nat.le_of_ble_eq_true rfl, Nat.le_of_ble_eq_true rfl⟩ m0 rfl hl.1 rfl (Nat.le_of_ble_eq_true rfl) ⟨Nat.le_of_ble_eq_true rfl, Nat.le_of_ble_eq_true rfl⟩ rfl dX5_along_35 (fun r_12 u_14 H locs hr_13 hP hD hS hz_14 => ?_)
      obtain rfl := show r_12 = _ from hr_13
      have hP : va_P D vwCl (ws.set 0 (gd 0, zMod gd n nd nj my 1)) H := hP
      have hD : va_D A (ws.set 0 (gd 0, zMod gd n nd nj my 1)) := hD
      refine zb_eq (tgt := 50) hx hb dX5_along_38 (by decide) (fun c_15 => ?_) (fun c_15 => Bool.noConfusion c_15)
      refine lv_iconst (v := nI (0)) hx hb dX5_along_50 (by decide) ?_
      exact zr_qi (S := va_W) (w1 := fun u => u) (ws.set 0 (gd 0, zMod gd n nd nj my 1)) hx hb hr hlocks (⟨(mKeep_set mKeep_rf (by decide)), (by rw [hK]; exact (mL_0 hm0 n nd nj my 1))⟩) hP hD hS (rfl) dX5_along_51
    · have hge : tr t * le t ≤ q9 := by
        rw [ix_nI hq31] at hq
        rcases Nat.lt_or_ge q9 (tr t * le t) with h9 | h9
        · rw [if_pos h9] at hq; cases hq
        · exact h9
      have hl : lv_has ls 3 [(0, .ref (gd 0)), (1, .int (nI (t))), (2, .int (nI (q9)))] := hl
      refine lv_aload_n hx hb dX5_along_0 rfl (lv_at hl 0 rfl) ?_
      refine lv_aload_n hx hb dX5_along_1 rfl (lv_at hl 0 rfl) ?_
      refine lv_iload_n hx hb dX5_along_2 rfl (lv_at hl 1 rfl) ?_
      refine zk_V_i (n := 1) (As := [.int (nI (t))]) (rest := [.ref (gd 0)]) hx hb hml hts hown hZ hP (c_X5_isTape l D cA _ hm0 (by omega) (nI (t))) gX5_along_X5_isTape rfl rfl ⟨rfl, rfl⟩ ⟨by decide +kernel, Nat.le_of_ble_eq_true rfl, Nat.le_of_ble_eq_true rfl⟩ m0 rfl hl.1 rfl (Nat.le_of_ble_eq_true rfl) ⟨Nat.le_of_ble_eq_true rfl, Nat.le_of_ble_eq_true rfl⟩ rfl dX5_along_3 (fun r_16 hr_17 => ?_)
      obtain rfl := show r_16 = _ from hr_17
      refine zx_val (y := bI (true)) (by rw [ix_in (by omega) htn]; rfl) ?_
      refine zb_eq (tgt := 34) hx hb dX5_along_6 (by decide) (fun c_18 => Bool.noConfusion c_18) (fun c_18 => ?_)
      refine lv_iload_n hx hb dX5_along_9 rfl (lv_at hl 2 rfl) ?_
      refine zf_lt (tgt := 34) hx hb (by omega) dX5_along_10 (by decide) ?_
      refine lv_iload_n hx hb dX5_along_13 rfl (lv_at hl 2 rfl) ?_
      refine lv_aload_n hx hb dX5_along_14 rfl (lv_at hl 0 rfl) ?_
      refine va_get (D := D) (ci := 5) (v := .ref (gd 1)) (C := RX5) (T := TX5) (N := 26) hx hb hts iX5 hown hZ.1 hP 0 m0 rfl 1 (by decide) (hts (.fieldLink RX5 7 "TapeRoboticsModel" "tracks" "[I") (by decide +kernel)) (fun _ h9 => h9) rfl dX5_along_15 ?_
      refine lv_iload_n hx hb dX5_along_18 rfl (lv_at hl 1 rfl) ?_
      refine va_iald hx hb hZ.1 hP 1 0 m1 rfl (vp_in_nI (show t < 8 by omega) (by omega)) dX5_along_19 ?_
      rw [nI_clamp (show t < 2 ^ 31 by omega)]
      refine lv_aload_n hx hb dX5_along_20 rfl (lv_at hl 0 rfl) ?_
      refine va_get (D := D) (ci := 5) (v := .ref (gd 2)) (C := RX5) (T := TX5) (N := 26) hx hb hts iX5 hown hZ.1 hP 0 m0 rfl 2 (by decide) (hts (.fieldLink RX5 13 "TapeRoboticsModel" "length" "[I") (by decide +kernel)) (fun _ h9 => h9) rfl dX5_along_21 ?_
      refine lv_iload_n hx hb dX5_along_24 rfl (lv_at hl 1 rfl) ?_
      refine va_iald hx hb hZ.1 hP 2 0 m2 rfl (vp_in_nI (show t < 8 by omega) (by omega)) dX5_along_25 ?_
      rw [nI_clamp (show t < 2 ^ 31 by omega)]
      refine zo_mul hx hb dX5_along_26 ?_
      refine zc_ge (tgt := 34) hx hb (by omega) (by omega) dX5_along_27 (by decide) (fun c_20 => ?_) (fun c_20 => False.elim (by omega))
      refine lv_iconst (v := nI (0)) hx hb dX5_along_34 (by decide) ?_
      refine zw_V_i (n := 1) (mc := 0) (ms := 0) (As := [.int (bI (false))]) (rest := []) (w1 := fun u : Unit => ws.set 0 (gd 0, zMod gd n nd nj my 1)) hx hb hml hts hown hZ hP hD hS hA (c_X5_may l D cA _ _ gd n nd nj my th false (m0)) gX5_along_X5_may rfl rfl ⟨rfl, rfl⟩ ⟨by decide +kernel, Nat.le_of_ble_eq_true rfl, Nat.le_of_ble_eq_true rfl⟩ m0 rfl hl.1 rfl (Nat.le_of_ble_eq_true rfl) ⟨Nat.le_of_ble_eq_true rfl, Nat.le_of_ble_eq_true rfl⟩ rfl dX5_along_35 (fun r_21 u_23 H locs hr_22 hP hD hS hz_23 => ?_)
      obtain rfl := show r_21 = _ from hr_22
      have hP : va_P D vwCl (ws.set 0 (gd 0, zMod gd n nd nj my 1)) H := hP
      have hD : va_D A (ws.set 0 (gd 0, zMod gd n nd nj my 1)) := hD
      refine zb_eq (tgt := 50) hx hb dX5_along_38 (by decide) (fun c_24 => ?_) (fun c_24 => Bool.noConfusion c_24)
      refine lv_iconst (v := nI (0)) hx hb dX5_along_50 (by decide) ?_
      exact zr_qi (S := va_W) (w1 := fun u => u) (ws.set 0 (gd 0, zMod gd n nd nj my 1)) hx hb hr hlocks (⟨(mKeep_set mKeep_rf (by decide)), (by rw [hK]; exact (mL_0 hm0 n nd nj my 1))⟩) hP hD hS (rfl) dX5_along_51

