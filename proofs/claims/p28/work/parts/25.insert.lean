set_option maxHeartbeats 4000000 in
set_option maxRecDepth 100000 in
theorem c_X2_swap (l : Launch) (D : va_G) (cA : Nat → ClassId) (sz : Nat) (ws : va_W) (k0 h0 oc an al ar ab ao : Nat) (hk : ws[k0]? = some (h0, zOrd oc an al ar ab ao)) (ko : Nat) (fo : Nat → Int32) (lst : List Nat) (hko : ws[ko]? = some (ao, zInts cA 7 (colF fo lst))) (a b : Nat) (ha : a < lst.length) (hb9 : b < lst.length) (h7 : lst.length ≤ 7) : Met l yX2_swap wsX2_swap ({ frames := 1, cells := 0, slots := 0, locals := 22 }) (va_Pc [.ref h0, .int (nI (a)), .int (nI (b))] (zM D cA (ws) sz)) (va_Qv (fun _ : Unit => True) (fun u => zB D (va_A (ws) sz) (ws.set ko (ao, zInts cA 7 (colF fo (lswap lst a b))))) (va_A (ws) sz)) 0 0 (va_A (ws) sz) := by
  refine zOpen (cc := cX2_swap) (maxL := 4) (ret := none) (own := RX2) (by decide) rfl rfl (Nat.le_of_ble_eq_true rfl) ?_
  intro p e s m below meth c ls hx hb hr hml hts hown hlocks hnm ⟨hZ, hP, hD0, hsz⟩ hl
  subst hsz
  have hD := hD0.self (sz := s.heap.size)
  generalize hAe : va_A (ws) s.heap.size = A at hD ⊢
  have hA : ∀ q : Nat, s.heap.size ≤ q → A q := fun q h => by rw [← hAe]; exact Or.inr h
  have hS : va_S A s.heap s.heap [] := va_S.rf
  have iX2 : ∀ w ∈ wsX20, w ∈ wsX2_swap := by decide +kernel
  have hl : lv_has ls 4 [(0, .ref h0), (1, .int (nI (a))), (2, .int (nI (b)))] := hl
  refine lv_aload_n hx hb dX2_swap_0 rfl (lv_at hl 0 rfl) ?_
  refine va_get (D := D) (ci := 2) (v := .ref ao) (C := RX2) (T := TX2) (N := 6) hx hb hts iX2 hown hZ.1 hP k0 hk rfl 5 (by decide) (hts (.fieldLink RX2 28 "TapeRobotics$Orders" "order" "[I") (by decide +kernel)) (fun _ h9 => h9) rfl dX2_swap_1 ?_
  refine lv_iload_n hx hb dX2_swap_4 rfl (lv_at hl 1 rfl) ?_
  refine zk_SN_i (n := 2) (As := [.ref ao, .int (nI (a))]) (rest := []) hx hb hml hts hown hZ hP (c_X4_at l D cA _ ko ao 7 (colF fo lst) hko a (by omega) (by omega)) ggX2_swap_X4_at (List.mem_of_getElem? (i := 28) rfl) (by decide +kernel) rfl ⟨rfl, rfl⟩ ⟨by decide +kernel, Nat.le_of_ble_eq_true rfl, Nat.le_of_ble_eq_true rfl⟩ hl.1 rfl (Nat.le_of_ble_eq_true rfl) ⟨Nat.zero_le _, Nat.zero_le _⟩ rfl dX2_swap_5 (fun r_1 hr_2 => ?_)
  obtain rfl := show r_1 = _ from hr_2
  refine zx_val (y := nI (lst.getD a 0)) (colF_in ha) ?_
  refine lv_istore_n (lv' := [(3, .int (nI (lst.getD a 0))), (0, .ref h0), (1, .int (nI (a))), (2, .int (nI (b)))]) hx hb dX2_swap_8 rfl hl (by decide) rfl (fun ls hl => ?_)
  refine lv_aload_n hx hb dX2_swap_9 rfl (lv_at hl 1 rfl) ?_
  refine va_get (D := D) (ci := 2) (v := .ref ao) (C := RX2) (T := TX2) (N := 6) hx hb hts iX2 hown hZ.1 hP k0 hk rfl 5 (by decide) (hts (.fieldLink RX2 28 "TapeRobotics$Orders" "order" "[I") (by decide +kernel)) (fun _ h9 => h9) rfl dX2_swap_10 ?_
  refine lv_iload_n hx hb dX2_swap_13 rfl (lv_at hl 2 rfl) ?_
  refine lv_aload_n hx hb dX2_swap_14 rfl (lv_at hl 1 rfl) ?_
  refine va_get (D := D) (ci := 2) (v := .ref ao) (C := RX2) (T := TX2) (N := 6) hx hb hts iX2 hown hZ.1 hP k0 hk rfl 5 (by decide) (hts (.fieldLink RX2 28 "TapeRobotics$Orders" "order" "[I") (by decide +kernel)) (fun _ h9 => h9) rfl dX2_swap_15 ?_
  refine lv_iload_n hx hb dX2_swap_18 rfl (lv_at hl 3 rfl) ?_
  refine zk_SN_i (n := 2) (As := [.ref ao, .int (nI (b))]) (rest := [.int (nI (a)), .ref ao]) hx hb hml hts hown hZ hP (c_X4_at l D cA _ ko ao 7 (colF fo lst) hko b (by omega) (by omega)) ggX2_swap_X4_at (List.mem_of_getElem? (i := 28) rfl) (by decide +kernel) rfl ⟨rfl, rfl⟩ ⟨by decide +kernel, Nat.le_of_ble_eq_true rfl, Nat.le_of_ble_eq_true rfl⟩ hl.1 rfl (Nat.le_of_ble_eq_true rfl) ⟨Nat.zero_le _, Nat.zero_le _⟩ rfl dX2_swap_19 (fun r_3 hr_4 => ?_)
  obtain rfl := show r_3 = _ from hr_4
  refine zx_val (y := nI (lst.getD b 0)) (colF_in hb9) ?_
  refine zw_SN_v (n := 3) (mc := 0) (ms := 0) (As := [.ref ao, .int (nI (a)), .int (nI (lst.getD b 0))]) (rest := []) (w1 := fun _ : Unit => ws.set ko (ao, zInts cA 7 (upd (colF fo lst) a (nI (lst.getD b 0))))) hx hb hml hts hown hZ hP hD hS hA (c_X4_put l D cA _ _ ko ao 7 (colF fo lst) hko a (by omega) (by omega) (nI (lst.getD b 0))) ggX2_swap_X4_put (List.mem_of_getElem? (i := 31) rfl) (by decide +kernel) rfl ⟨rfl, rfl⟩ ⟨by decide +kernel, Nat.le_of_ble_eq_true rfl, Nat.le_of_ble_eq_true rfl⟩ hl.1 rfl (Nat.le_of_ble_eq_true rfl) ⟨Nat.le_of_ble_eq_true rfl, Nat.le_of_ble_eq_true rfl⟩ rfl dX2_swap_22 (fun u_7 H locs hr_6 hP hD hS hz_7 => ?_)
  have hP : va_P D vwCl (ws.set ko (ao, zInts cA 7 (upd (colF fo lst) a (nI (lst.getD b 0))))) H := hP
  have hD : va_D A (ws.set ko (ao, zInts cA 7 (upd (colF fo lst) a (nI (lst.getD b 0))))) := hD
  refine lv_aload_n hx hb dX2_swap_25 rfl (lv_at hl 1 rfl) ?_
  refine va_get (D := D) (ci := 2) (v := .ref ao) (C := RX2) (T := TX2) (N := 6) hx hb hts iX2 hown hZ.1 hP k0 (zset_n hk (zapo' hko hk)) rfl 5 (by decide) (hts (.fieldLink RX2 28 "TapeRobotics$Orders" "order" "[I") (by decide +kernel)) (fun _ h9 => h9) rfl dX2_swap_26 ?_
  refine lv_iload_n hx hb dX2_swap_29 rfl (lv_at hl 3 rfl) ?_
  refine lv_iload_n hx hb dX2_swap_30 rfl (lv_at hl 0 rfl) ?_
  refine zw_SN_v (n := 3) (mc := 0) (ms := 0) (As := [.ref ao, .int (nI (b)), .int (nI (lst.getD a 0))]) (rest := []) (w1 := fun _ : Unit => (ws.set ko (ao, zInts cA 7 (upd (colF fo lst) a (nI (lst.getD b 0))))).set ko (ao, zInts cA 7 (upd (upd (colF fo lst) a (nI (lst.getD b 0))) b (nI (lst.getD a 0))))) hx hb hml hts hown hZ hP hD hS hA (c_X4_put l D cA _ _ ko ao 7 (upd (colF fo lst) a (nI (lst.getD b 0))) (zset_s hko) b (by omega) (by omega) (nI (lst.getD a 0))) ggX2_swap_X4_put (List.mem_of_getElem? (i := 31) rfl) (by decide +kernel) rfl ⟨rfl, rfl⟩ ⟨by decide +kernel, Nat.le_of_ble_eq_true rfl, Nat.le_of_ble_eq_true rfl⟩ hl.1 rfl (Nat.le_of_ble_eq_true rfl) ⟨Nat.le_of_ble_eq_true rfl, Nat.le_of_ble_eq_true rfl⟩ rfl dX2_swap_31 (fun u_10 H locs hr_9 hP hD hS hz_10 => ?_)
  have hP : va_P D vwCl ((ws.set ko (ao, zInts cA 7 (upd (colF fo lst) a (nI (lst.getD b 0))))).set ko (ao, zInts cA 7 (upd (upd (colF fo lst) a (nI (lst.getD b 0))) b (nI (lst.getD a 0))))) H := hP
  have hD : va_D A ((ws.set ko (ao, zInts cA 7 (upd (colF fo lst) a (nI (lst.getD b 0))))).set ko (ao, zInts cA 7 (upd (upd (colF fo lst) a (nI (lst.getD b 0))) b (nI (lst.getD a 0))))) := hD
  exact zr_qv (S := Unit) (w1 := fun u => ws.set ko (ao, zInts cA 7 (colF fo (lswap lst a b)))) () hx hb hr hlocks (trivial) hP hD hS (by rw [zset2, colF_swap ha hb9]) dX2_swap_34

set_option maxHeartbeats 4000000 in
set_option maxRecDepth 100000 in
theorem c_X2_insert (l : Launch) (D : va_G) (cA : Nat → ClassId) (sz : Nat) (ws : va_W) (k0 h0 oc an al ar ab ao : Nat) (hk : ws[k0]? = some (h0, zOrd oc an al ar ab ao)) (kl : Nat) (fl : Nat → Int32) (hkl : ws[kl]? = some (al, zInts cA 56 fl)) (ko : Nat) (fo : Nat → Int32) (lst : List Nat) (hko : ws[ko]? = some (ao, zInts cA 7 (colF fo lst))) (nol : ko ≠ kl) (hoc : oc ≤ 7) (lg : Nat → Nat → Nat) (hlg : ∀ a b, (a < oc ∨ a = 7) → b < oc → fl (a * 7 + b) = nI (lg a b)) (hB : ∀ a b, lg a b ≤ 100000) (hlen : lst.length < oc) (hmem : ∀ x, x ∈ lst → x < oc)  : Met l yX2_insert wsX2_insert ({ frames := 3, cells := 0, slots := 0, locals := 69 }) (va_Pc [.ref h0, .int (nI (lst.length))] (zM D cA (ws) sz)) (va_Qv (fun _ : Unit => True) (fun u => zB D (va_A (ws) sz) (ws.set ko (ao, zInts cA 7 (colF fo (ins lg lst lst.length))))) (va_A (ws) sz)) 0 0 (va_A (ws) sz) := by
  refine zOpen (cc := cX2_insert) (maxL := 6) (ret := none) (own := RX2) (by decide) rfl rfl (Nat.le_of_ble_eq_true rfl) ?_
  intro p e s m below meth c ls hx hb hr hml hts hown hlocks hnm ⟨hZ, hP, hD0, hsz⟩ hl
  subst hsz
  have hD := hD0.self (sz := s.heap.size)
  generalize hAe : va_A (ws) s.heap.size = A at hD ⊢
  have hA : ∀ q : Nat, s.heap.size ≤ q → A q := fun q h => by rw [← hAe]; exact Or.inr h
  have hS : va_S A s.heap s.heap [] := va_S.rf
  have iX2 : ∀ w ∈ wsX20, w ∈ wsX2_insert := by decide +kernel
  have hl : lv_has ls 6 [(0, .ref h0), (1, .int (nI (lst.length)))] := hl
  have hmi : ∀ q x, x ∈ lst.insertIdx q lst.length → x < oc := fun q x hx => (insertIdx_mem q lst _ x hx).elim (hmem x) (fun h => by rw [h]; exact hlen)
  have hme : ∀ x, x ∈ lst ++ [lst.length] → x < oc := fun x hx => (List.mem_append.mp hx).elim (hmem x) (fun h => by rw [List.mem_singleton.mp h]; exact hlen)
  have hle1 : (lst ++ [lst.length]).length ≤ 7 := by rw [List.length_append]; show lst.length + 1 ≤ 7; omega
  have hTl : ∀ q, q ≤ lst.length → (lst.insertIdx q lst.length).length = lst.length + 1 := fun q hq => List.length_insertIdx_of_le_length hq _
  have hpt : ∀ q, q ≤ lst.length → pt lg 7 (lst.insertIdx q lst.length) ≤ 700000 := fun q hq => Nat.le_trans (pt_le hB _ 7) (by rw [hTl q hq]; omega)
  refine lv_aload_n hx hb dX2_insert_0 rfl (lv_at hl 0 rfl) ?_
  refine va_get (D := D) (ci := 2) (v := .ref ao) (C := RX2) (T := TX2) (N := 6) hx hb hts iX2 hown hZ.1 hP k0 hk rfl 5 (by decide) (hts (.fieldLink RX2 28 "TapeRobotics$Orders" "order" "[I") (by decide +kernel)) (fun _ h9 => h9) rfl dX2_insert_1 ?_
  refine lv_iload_n hx hb dX2_insert_4 rfl (lv_at hl 1 rfl) ?_
  refine lv_iload_n hx hb dX2_insert_5 rfl (lv_at hl 1 rfl) ?_
  refine zw_SN_v (n := 3) (mc := 0) (ms := 0) (As := [.ref ao, .int (nI (lst.length)), .int (nI (lst.length))]) (rest := []) (w1 := fun _ : Unit => ws.set ko (ao, zInts cA 7 (upd (colF fo lst) lst.length (nI (lst.length))))) hx hb hml hts hown hZ hP hD hS hA (c_X4_put l D cA _ _ ko ao 7 (colF fo lst) hko lst.length (by omega) (by omega) (nI (lst.length))) ggX2_insert_X4_put (List.mem_of_getElem? (i := 31) rfl) (by decide +kernel) rfl ⟨rfl, rfl⟩ ⟨by decide +kernel, Nat.le_of_ble_eq_true rfl, Nat.le_of_ble_eq_true rfl⟩ hl.1 rfl (Nat.le_of_ble_eq_true rfl) ⟨Nat.le_of_ble_eq_true rfl, Nat.le_of_ble_eq_true rfl⟩ rfl dX2_insert_6 (fun u_3 H locs hr_2 hP hD hS hz_3 => ?_)
  have hP : va_P D vwCl (ws.set ko (ao, zInts cA 7 (upd (colF fo lst) lst.length (nI (lst.length))))) H := hP
  have hD : va_D A (ws.set ko (ao, zInts cA 7 (upd (colF fo lst) lst.length (nI (lst.length))))) := hD
  rw [colF_y] at hP hD
  refine lv_aload_n hx hb dX2_insert_9 rfl (lv_at hl 0 rfl) ?_
  refine lv_aload_n hx hb dX2_insert_10 rfl (lv_at hl 0 rfl) ?_
  refine va_get (D := D) (ci := 2) (v := .ref ao) (C := RX2) (T := TX2) (N := 6) hx hb hts iX2 hown hZ.1 hP k0 (zset_n hk (zapo' hko hk)) rfl 5 (by decide) (hts (.fieldLink RX2 28 "TapeRobotics$Orders" "order" "[I") (by decide +kernel)) (fun _ h9 => h9) rfl dX2_insert_11 ?_
  refine lv_iload_n hx hb dX2_insert_14 rfl (lv_at hl 1 rfl) ?_
  refine lv_iconst (v := nI (1)) hx hb dX2_insert_15 (by decide) ?_
  refine lv_iadd hx hb dX2_insert_16 ?_
  refine zx_val (y := nI ((lst ++ [lst.length]).length)) (by rw [nI_add, List.length_append]; rfl) ?_
  refine zk_V_i (n := 2) (As := [.ref ao, .int (nI ((lst ++ [lst.length]).length))]) (rest := []) hx hb hml hts hown hZ hP (c_X2_timeOf l D cA _ k0 h0 oc an al ar ab ao (zset_n hk (zapo' hko hk)) kl fl (zset_n hkl nol) ko ao (colF fo (lst ++ [lst.length])) (zset_s hko) (lst ++ [lst.length]) (by omega) (fun i hi => colF_in hi) (fun x hx => Nat.lt_of_lt_of_le (hme x hx) hoc) lg (fun a b h1 h2 => hlg a b (h1.elim (fun q => Or.inl (hme a q)) Or.inr) (hme b h2))) gX2_insert_X2_timeOf rfl rfl ⟨rfl, rfl⟩ ⟨by decide +kernel, Nat.le_of_ble_eq_true rfl, Nat.le_of_ble_eq_true rfl⟩ (zset_n hk (zapo' hko hk)) rfl hl.1 rfl (Nat.le_of_ble_eq_true rfl) ⟨Nat.zero_le _, Nat.zero_le _⟩ rfl dX2_insert_17 (fun r_4 hr_5 => ?_)
  obtain rfl := show r_4 = _ from hr_5
  refine lv_istore_n (lv' := [(2, .int (nI (pt lg 7 (lst ++ [lst.length])))), (0, .ref h0), (1, .int (nI (lst.length)))]) hx hb dX2_insert_20 rfl hl (by decide) rfl (fun ls hl => ?_)
  refine lv_iload_n hx hb dX2_insert_21 rfl (lv_at hl 2 rfl) ?_
  refine lv_istore_n (lv' := [(3, .int (nI (lst.length))), (2, .int (nI (pt lg 7 (lst ++ [lst.length])))), (0, .ref h0), (1, .int (nI (lst.length)))]) hx hb dX2_insert_22 rfl hl (by decide) rfl (fun ls hl => ?_)
  refine lv_iload_n hx hb dX2_insert_23 rfl (lv_at hl 3 rfl) ?_
  refine lv_iconst (v := nI (1)) hx hb dX2_insert_24 (by decide) ?_
  refine lv_isub hx hb dX2_insert_25 ?_
  refine zx_val (y := pI lst.length) (rfl) ?_
  refine lv_istore (lv' := [(4, .int (pI lst.length)), (3, .int (nI (lst.length))), (2, .int (nI (pt lg 7 (lst ++ [lst.length])))), (0, .ref h0), (1, .int (nI (lst.length)))]) hx hb dX2_insert_26 hl (by decide) rfl (fun ls hl => ?_)
  rw [← insertIdx_end] at hP hD
  refine z_loopW (α := Nat × Nat × Nat) (fun v => v.1) (fun v H locs ls => lv_has ls 6 [(0, .ref h0), (1, .int (nI (lst.length))), (4, .int (pI v.1)), (2, .int (nI (v.2.1))), (3, .int (nI (v.2.2)))] ∧ va_P D vwCl (ws.set ko (ao, zInts cA 7 (colF fo (lst.insertIdx v.1 lst.length)))) H ∧ va_D A (ws.set ko (ao, zInts cA 7 (colF fo (lst.insertIdx v.1 lst.length)))) ∧ va_S A s.heap H locs ∧ v.2.1 = pt lg 7 (lst.insertIdx v.2.2 lst.length) ∧ v.1 ≤ v.2.2 ∧ v.2.2 ≤ lst.length ∧ (∀ x, v.1 ≤ x → x ≤ lst.length → pt lg 7 (lst.insertIdx v.2.2 lst.length) ≤ pt lg 7 (lst.insertIdx x lst.length)) ∧ (∀ x, v.1 ≤ x → x < v.2.2 → pt lg 7 (lst.insertIdx v.2.2 lst.length) < pt lg 7 (lst.insertIdx x lst.length))) (fun _ => []) (lst.length, pt lg 7 (lst ++ [lst.length]), lst.length) ⟨lv_sub hl [3, 4, 0, 2, 1] rfl, hP, hD, hS, by rw [insertIdx_end], Nat.le_refl _, Nat.le_refl _, (fun x h1 h2 => by rw [show x = lst.length from Nat.le_antisymm h2 h1]; exact Nat.le_refl _), (fun x h1 h2 => absurd h2 (Nat.not_lt.mpr h1))⟩ ?_
  intro v ih28 H locs ls hv
  obtain ⟨k, le, lp⟩ := v
  obtain ⟨hl, hP, hD, hS, hI⟩ := hv
  have hP : va_P D vwCl (ws.set ko (ao, zInts cA 7 (colF fo (lst.insertIdx k lst.length)))) H := hP
  have hD : va_D A (ws.set ko (ao, zInts cA 7 (colF fo (lst.insertIdx k lst.length)))) := hD
  have hl : lv_has ls 6 [(0, .ref h0), (1, .int (nI (lst.length))), (4, .int (pI k)), (2, .int (nI (le))), (3, .int (nI (lp)))] := hl
  have hI : le = pt lg 7 (lst.insertIdx lp lst.length) ∧ k ≤ lp ∧ lp ≤ lst.length ∧ (∀ x, k ≤ x → x ≤ lst.length → pt lg 7 (lst.insertIdx lp lst.length) ≤ pt lg 7 (lst.insertIdx x lst.length)) ∧ (∀ x, k ≤ x → x < lp → pt lg 7 (lst.insertIdx lp lst.length) < pt lg 7 (lst.insertIdx x lst.length)) := hI
  obtain ⟨hle, hkp, hlp, hmin, hlt⟩ := hI
  have hptl := hpt lp hlp
  rcases k with _ | q
  · have hl : lv_has ls 6 [(0, .ref h0), (1, .int (nI (lst.length))), (4, .int (pI 0)), (2, .int (nI (le))), (3, .int (nI (lp)))] := hl
    refine lv_iload hx hb dX2_insert_28 (lv_at hl 2 rfl) ?_
    refine lv_if_lt (tgt := 74) hx hb dX2_insert_30 (by decide) (fun c_6 => ?_) (fun c_6 => absurd pI_0 c_6)
    refine lv_iconst (v := nI (0)) hx hb dX2_insert_74 (by decide) ?_
    refine lv_istore (lv' := [(4, .int (nI (0))), (0, .ref h0), (1, .int (nI (lst.length))), (2, .int (nI (le))), (3, .int (nI (lp)))]) hx hb dX2_insert_75 hl (by decide) rfl (fun ls hl => ?_)
    refine z_loopW (α := Nat) (fun v => lp - v) (fun v H locs ls => lv_has ls 6 [(0, .ref h0), (3, .int (nI (lp))), (4, .int (nI (v)))] ∧ va_P D vwCl (ws.set ko (ao, zInts cA 7 (colF fo (lst.insertIdx v lst.length)))) H ∧ va_D A (ws.set ko (ao, zInts cA 7 (colF fo (lst.insertIdx v lst.length)))) ∧ va_S A s.heap H locs ∧ v ≤ lp) (fun _ => []) (0) ⟨lv_sub hl [1, 4, 0] rfl, hP, hD, hS, Nat.zero_le _⟩ ?_
    intro v ih77 H locs ls hv
    obtain ⟨k, rfl⟩ : ∃ z, z = v := ⟨_, rfl⟩
    obtain ⟨hl, hP, hD, hS, hI⟩ := hv
    have hP : va_P D vwCl (ws.set ko (ao, zInts cA 7 (colF fo (lst.insertIdx k lst.length)))) H := hP
    have hD : va_D A (ws.set ko (ao, zInts cA 7 (colF fo (lst.insertIdx k lst.length)))) := hD
    have hl : lv_has ls 6 [(0, .ref h0), (3, .int (nI (lp))), (4, .int (nI (k)))] := hl
    have hI : k ≤ lp := hI
    have hk9 := hI
    refine lv_iload hx hb dX2_insert_77 (lv_at hl 2 rfl) ?_
    refine lv_iload_n hx hb dX2_insert_79 rfl (lv_at hl 1 rfl) ?_
    refine zc_ge (tgt := 99) hx hb (by omega) (by omega) dX2_insert_80 (by decide) (fun c_7 => ?_) (fun c_7 => ?_)
    · exact zr_qv (S := Unit) (w1 := fun u => ws.set ko (ao, zInts cA 7 (colF fo (ins lg lst lst.length)))) () hx hb hr hlocks (trivial) hP hD hS (by rw [show ins lg lst lst.length = lst.insertIdx lp lst.length from by unfold ins; rw [ipos_of hlp (fun x hx => hmin x (Nat.zero_le _) hx) (fun x hx => hlt x (Nat.zero_le _) hx)], show k = lp by omega]) dX2_insert_99
    · have hTk := hTl k (by omega)
      refine lv_aload_n hx hb dX2_insert_83 rfl (lv_at hl 0 rfl) ?_
      refine lv_iload hx hb dX2_insert_84 (lv_at hl 2 rfl) ?_
      refine lv_iload hx hb dX2_insert_86 (lv_at hl 2 rfl) ?_
      refine lv_iconst (v := nI (1)) hx hb dX2_insert_88 (by decide) ?_
      refine zo_add hx hb dX2_insert_89 ?_
      refine zw_V_v (n := 2) (mc := 0) (ms := 0) (As := [.int (nI (k)), .int (nI (k + 1))]) (rest := []) (w1 := fun _ : Unit => (ws.set ko (ao, zInts cA 7 (colF fo (lst.insertIdx k lst.length)))).set ko (ao, zInts cA 7 (colF fo (lswap (lst.insertIdx k lst.length) k (k + 1))))) hx hb hml hts hown hZ hP hD hS hA (c_X2_swap l D cA _ _ k0 h0 oc an al ar ab ao (zset_n hk (zapo' hko hk)) ko fo (lst.insertIdx k lst.length) (zset_s hko) k (k + 1) (by rw [hTl _ (by omega)]; omega) (by rw [hTl _ (by omega)]; omega) (by omega)) gX2_insert_X2_swap rfl rfl ⟨rfl, rfl⟩ ⟨by decide +kernel, Nat.le_of_ble_eq_true rfl, Nat.le_of_ble_eq_true rfl⟩ (zset_n hk (zapo' hko hk)) rfl hl.1 rfl (Nat.le_of_ble_eq_true rfl) ⟨Nat.le_of_ble_eq_true rfl, Nat.le_of_ble_eq_true rfl⟩ rfl dX2_insert_90 (fun u_10 H locs hr_9 hP hD hS hz_10 => ?_)
      have hP : va_P D vwCl ((ws.set ko (ao, zInts cA 7 (colF fo (lst.insertIdx k lst.length)))).set ko (ao, zInts cA 7 (colF fo (lswap (lst.insertIdx k lst.length) k (k + 1))))) H := hP
      have hD : va_D A ((ws.set ko (ao, zInts cA 7 (colF fo (lst.insertIdx k lst.length)))).set ko (ao, zInts cA 7 (colF fo (lswap (lst.insertIdx k lst.length) k (k + 1))))) := hD
      rw [zset2, lswap_up k _ _ (by omega)] at hP hD
      refine lv_iinc (v := nI (k + 1)) (lv' := [(4, .int (nI (k + 1))), (0, .ref h0), (3, .int (nI (lp)))]) hx hb dX2_insert_93 hl (k := 2) rfl (zinc 1 _) (by decide) rfl (fun ls hl => ?_)
      refine lv_goto (tgt := 77) hx hb dX2_insert_96 (by decide) ?_
      exact ih77 (k + 1) H locs ls (by first | omega | (dsimp only; omega)) ⟨lv_sub hl [1, 2, 0] rfl, hP, hD, hS, by omega⟩
  · rw [pI_s] at hl
    have hptq := hpt q (by omega)
    have hTq1 := hTl (q + 1) (by omega)
    refine lv_iload hx hb dX2_insert_28 (lv_at hl 2 rfl) ?_
    refine zf_lt (tgt := 74) hx hb (by omega) dX2_insert_30 (by decide) ?_
    refine lv_aload_n hx hb dX2_insert_33 rfl (lv_at hl 0 rfl) ?_
    refine lv_iload hx hb dX2_insert_34 (lv_at hl 2 rfl) ?_
    refine lv_iload hx hb dX2_insert_36 (lv_at hl 2 rfl) ?_
    refine lv_iconst (v := nI (1)) hx hb dX2_insert_38 (by decide) ?_
    refine zo_add hx hb dX2_insert_39 ?_
    refine zw_V_v (n := 2) (mc := 0) (ms := 0) (As := [.int (nI (q)), .int (nI (q + 1))]) (rest := []) (w1 := fun _ : Unit => (ws.set ko (ao, zInts cA 7 (colF fo (lst.insertIdx ((q + 1)) lst.length)))).set ko (ao, zInts cA 7 (colF fo (lswap (lst.insertIdx ((q + 1)) lst.length) q (q + 1))))) hx hb hml hts hown hZ hP hD hS hA (c_X2_swap l D cA _ _ k0 h0 oc an al ar ab ao (zset_n hk (zapo' hko hk)) ko fo (lst.insertIdx ((q + 1)) lst.length) (zset_s hko) q (q + 1) (by rw [hTl _ (by omega)]; omega) (by rw [hTl _ (by omega)]; omega) (by omega)) gX2_insert_X2_swap rfl rfl ⟨rfl, rfl⟩ ⟨by decide +kernel, Nat.le_of_ble_eq_true rfl, Nat.le_of_ble_eq_true rfl⟩ (zset_n hk (zapo' hko hk)) rfl hl.1 rfl (Nat.le_of_ble_eq_true rfl) ⟨Nat.le_of_ble_eq_true rfl, Nat.le_of_ble_eq_true rfl⟩ rfl dX2_insert_40 (fun u_14 H locs hr_13 hP hD hS hz_14 => ?_)
    have hP : va_P D vwCl ((ws.set ko (ao, zInts cA 7 (colF fo (lst.insertIdx ((q + 1)) lst.length)))).set ko (ao, zInts cA 7 (colF fo (lswap (lst.insertIdx ((q + 1)) lst.length) q (q + 1))))) H := hP
    have hD : va_D A ((ws.set ko (ao, zInts cA 7 (colF fo (lst.insertIdx ((q + 1)) lst.length)))).set ko (ao, zInts cA 7 (colF fo (lswap (lst.insertIdx ((q + 1)) lst.length) q (q + 1))))) := hD
    rw [zset2, lswap_down q _ _ (by omega)] at hP hD
    have hTq := hTl q (by omega)
    refine lv_aload_n hx hb dX2_insert_43 rfl (lv_at hl 0 rfl) ?_
    refine lv_aload_n hx hb dX2_insert_44 rfl (lv_at hl 0 rfl) ?_
    refine va_get (D := D) (ci := 2) (v := .ref ao) (C := RX2) (T := TX2) (N := 6) hx hb hts iX2 hown hZ.1 hP k0 (zset_n hk (zapo' hko hk)) rfl 5 (by decide) (hts (.fieldLink RX2 28 "TapeRobotics$Orders" "order" "[I") (by decide +kernel)) (fun _ h9 => h9) rfl dX2_insert_45 ?_
    refine lv_iload_n hx hb dX2_insert_48 rfl (lv_at hl 1 rfl) ?_
    refine lv_iconst (v := nI (1)) hx hb dX2_insert_49 (by decide) ?_
    refine lv_iadd hx hb dX2_insert_50 ?_
    refine zx_val (y := nI ((lst.insertIdx q lst.length).length)) (by rw [nI_add, hTl q (by omega)]) ?_
    refine zk_V_i (n := 2) (As := [.ref ao, .int (nI ((lst.insertIdx q lst.length).length))]) (rest := []) hx hb hml hts hown hZ hP (c_X2_timeOf l D cA _ k0 h0 oc an al ar ab ao (zset_n hk (zapo' hko hk)) kl fl (zset_n hkl nol) ko ao (colF fo (lst.insertIdx q lst.length)) (zset_s hko) (lst.insertIdx q lst.length) (by omega) (fun i hi => colF_in hi) (fun x hx => Nat.lt_of_lt_of_le (hmi _ x hx) hoc) lg (fun a b h1 h2 => hlg a b (h1.elim (fun q => Or.inl (hmi _ a q)) Or.inr) (hmi _ b h2))) gX2_insert_X2_timeOf rfl rfl ⟨rfl, rfl⟩ ⟨by decide +kernel, Nat.le_of_ble_eq_true rfl, Nat.le_of_ble_eq_true rfl⟩ (zset_n hk (zapo' hko hk)) rfl hl.1 rfl (Nat.le_of_ble_eq_true rfl) ⟨Nat.zero_le _, Nat.zero_le _⟩ rfl dX2_insert_51 (fun r_15 hr_16 => ?_)
    obtain rfl := show r_15 = _ from hr_16
    refine lv_istore (lv' := [(5, .int (nI (pt lg 7 (lst.insertIdx q lst.length)))), (0, .ref h0), (1, .int (nI (lst.length))), (4, .int (nI (q))), (2, .int (nI (le))), (3, .int (nI (lp)))]) hx hb dX2_insert_54 hl (by decide) rfl (fun ls hl => ?_)
    refine lv_iload hx hb dX2_insert_56 (lv_at hl 0 rfl) ?_
    refine lv_iload_n hx hb dX2_insert_58 rfl (lv_at hl 4 rfl) ?_
    refine zc_gt (tgt := 68) hx hb (by omega) (by omega) dX2_insert_59 (by decide) (fun c_17 => ?_) (fun c_17 => ?_)
    · refine lv_iinc (v := pI q) (lv' := [(4, .int (pI q)), (5, .int (nI (pt lg 7 (lst.insertIdx q lst.length)))), (0, .ref h0), (1, .int (nI (lst.length))), (2, .int (nI (le))), (3, .int (nI (lp)))]) hx hb dX2_insert_68 hl (k := 3) rfl (pI_dec q) (by decide) rfl (fun ls hl => ?_)
      refine lv_goto (tgt := 28) hx hb dX2_insert_71 (by decide) ?_
      exact ih28 (q, le, lp) H locs ls (by first | omega | (dsimp only; omega)) ⟨lv_sub hl [2, 3, 0, 4, 5] rfl, hP, hD, hS, hle, by dsimp only; omega, hlp, (fun x h1 h2 => by
              by_cases e9 : x = q
              · rw [e9]; dsimp only; omega
              · exact hmin x (by omega) h2), (fun x h1 h2 => by
              by_cases e9 : x = q
              · rw [e9]; dsimp only; omega
              · exact hlt x (by omega) h2)⟩
    · refine lv_iload hx hb dX2_insert_62 (lv_at hl 0 rfl) ?_
      refine lv_istore_n (lv' := [(2, .int (nI (pt lg 7 (lst.insertIdx q lst.length)))), (5, .int (nI (pt lg 7 (lst.insertIdx q lst.length)))), (0, .ref h0), (1, .int (nI (lst.length))), (4, .int (nI (q))), (3, .int (nI (lp)))]) hx hb dX2_insert_64 rfl hl (by decide) rfl (fun ls hl => ?_)
      refine lv_iload hx hb dX2_insert_65 (lv_at hl 4 rfl) ?_
      refine lv_istore_n (lv' := [(3, .int (nI (q))), (2, .int (nI (pt lg 7 (lst.insertIdx q lst.length)))), (5, .int (nI (pt lg 7 (lst.insertIdx q lst.length)))), (0, .ref h0), (1, .int (nI (lst.length))), (4, .int (nI (q)))]) hx hb dX2_insert_67 rfl hl (by decide) rfl (fun ls hl => ?_)
      refine lv_iinc (v := pI q) (lv' := [(4, .int (pI q)), (3, .int (nI (q))), (2, .int (nI (pt lg 7 (lst.insertIdx q lst.length)))), (5, .int (nI (pt lg 7 (lst.insertIdx q lst.length)))), (0, .ref h0), (1, .int (nI (lst.length)))]) hx hb dX2_insert_68 hl (k := 5) rfl (pI_dec q) (by decide) rfl (fun ls hl => ?_)
      refine lv_goto (tgt := 28) hx hb dX2_insert_71 (by decide) ?_
      exact ih28 (q, pt lg 7 (lst.insertIdx q lst.length), q) H locs ls (by first | omega | (dsimp only; omega)) ⟨lv_sub hl [4, 5, 0, 2, 1] rfl, hP, hD, hS, rfl, Nat.le_refl _, by dsimp only; omega, (fun x h1 h2 => by
              by_cases e9 : x = q
              · rw [e9]; exact Nat.le_refl _
              · have := hmin x (by omega) h2; dsimp only; omega), (fun x h1 h2 => absurd h2 (Nat.not_lt.mpr h1))⟩
