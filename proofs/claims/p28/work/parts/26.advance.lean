set_option maxHeartbeats 4000000 in
set_option maxRecDepth 100000 in
theorem c_X2_timeByInsertion (l : Launch) (D : va_G) (cA : Nat → ClassId) (sz : Nat) (ws : va_W) (k0 h0 oc an al ar ab ao : Nat) (hk : ws[k0]? = some (h0, zOrd oc an al ar ab ao)) (kl : Nat) (fl : Nat → Int32) (hkl : ws[kl]? = some (al, zInts cA 56 fl)) (ko : Nat) (fo : Nat → Int32) (hko : ws[ko]? = some (ao, zInts cA 7 fo)) (nol : ko ≠ kl) (hoc : oc ≤ 7) (lg : Nat → Nat → Nat) (hlg : ∀ a b, (a < oc ∨ a = 7) → b < oc → fl (a * 7 + b) = nI (lg a b)) (hB : ∀ a b, lg a b ≤ 100000)  : Met l yX2_timeByInsertion wsX2_timeByInsertion ({ frames := 4, cells := 0, slots := 0, locals := 94 }) (va_Pc [.ref h0] (zM D cA (ws) sz)) (va_Qi (fun (r : Int32) (u : Unit) => r = nI (pt lg 7 (insL lg oc))) (fun u => zB D (va_A (ws) sz) (ws.set ko (ao, zInts cA 7 (colF fo (insL lg oc))))) (va_A (ws) sz)) 0 0 (va_A (ws) sz) := by
  refine zOpen (cc := cX2_timeByInsertion) (maxL := 2) (ret := (some .int)) (own := RX2) (by decide) rfl rfl (Nat.le_of_ble_eq_true rfl) ?_
  intro p e s m below meth c ls hx hb hr hml hts hown hlocks hnm ⟨hZ, hP, hD0, hsz⟩ hl
  subst hsz
  have hD := hD0.self (sz := s.heap.size)
  generalize hAe : va_A (ws) s.heap.size = A at hD ⊢
  have hA : ∀ q : Nat, s.heap.size ≤ q → A q := fun q h => by rw [← hAe]; exact Or.inr h
  have hS : va_S A s.heap s.heap [] := va_S.rf
  have iX2 : ∀ w ∈ wsX20, w ∈ wsX2_timeByInsertion := by decide +kernel
  have hl : lv_has ls 2 [(0, .ref h0)] := hl
  have hP : va_P D vwCl (ws.set ko (ao, zInts cA 7 (colF fo (insL lg 0)))) s.heap := by rw [show insL lg 0 = [] from rfl, colF_0, zset_self hko]; exact hP
  have hD : va_D A (ws.set ko (ao, zInts cA 7 (colF fo (insL lg 0)))) := by rw [show insL lg 0 = [] from rfl, colF_0, zset_self hko]; exact hD
  have hlO : (insL lg oc).length ≤ 7 := by rw [insL_len]; exact hoc
  refine lv_iconst (v := nI (0)) hx hb dX2_timeByInsertion_0 (by decide) ?_
  refine lv_istore_n (lv' := [(1, .int (nI (0))), (0, .ref h0)]) hx hb dX2_timeByInsertion_1 rfl hl (by decide) rfl (fun ls hl => ?_)
  refine z_loopW (α := Nat) (fun v => oc - v) (fun v H locs ls => lv_has ls 2 [(0, .ref h0), (1, .int (nI (v)))] ∧ va_P D vwCl (ws.set ko (ao, zInts cA 7 (colF fo (insL lg v)))) H ∧ va_D A (ws.set ko (ao, zInts cA 7 (colF fo (insL lg v)))) ∧ va_S A s.heap H locs ∧ v ≤ oc) (fun _ => []) (0) ⟨lv_sub hl [1, 0] rfl, hP, hD, hS, Nat.zero_le _⟩ ?_
  intro v ih2 H locs ls hv
  obtain ⟨k, rfl⟩ : ∃ z, z = v := ⟨_, rfl⟩
  obtain ⟨hl, hP, hD, hS, hI⟩ := hv
  have hP : va_P D vwCl (ws.set ko (ao, zInts cA 7 (colF fo (insL lg k)))) H := hP
  have hD : va_D A (ws.set ko (ao, zInts cA 7 (colF fo (insL lg k)))) := hD
  have hl : lv_has ls 2 [(0, .ref h0), (1, .int (nI (k)))] := hl
  have hI : k ≤ oc := hI
  have hk9 := hI
  refine lv_iload_n hx hb dX2_timeByInsertion_2 rfl (lv_at hl 1 rfl) ?_
  refine lv_aload_n hx hb dX2_timeByInsertion_3 rfl (lv_at hl 0 rfl) ?_
  refine va_get (D := D) (ci := 2) (v := .int (nI (oc))) (C := RX2) (T := TX2) (N := 6) hx hb hts iX2 hown hZ.1 hP k0 (zset_n hk (zapo' hko hk)) rfl 0 (by decide) (hts (.fieldLink RX2 9 "TapeRobotics$Orders" "count" "I") (by decide +kernel)) (fun _ h9 => h9) rfl dX2_timeByInsertion_4 ?_
  refine zc_ge (tgt := 21) hx hb (by omega) (by omega) dX2_timeByInsertion_7 (by decide) (fun c_1 => ?_) (fun c_1 => ?_)
  · have hke : k = oc := by omega
    rw [hke] at hP hD
    refine lv_aload_n hx hb dX2_timeByInsertion_21 rfl (lv_at hl 0 rfl) ?_
    refine lv_aload_n hx hb dX2_timeByInsertion_22 rfl (lv_at hl 0 rfl) ?_
    refine va_get (D := D) (ci := 2) (v := .ref ao) (C := RX2) (T := TX2) (N := 6) hx hb hts iX2 hown hZ.1 hP k0 (zset_n hk (zapo' hko hk)) rfl 5 (by decide) (hts (.fieldLink RX2 28 "TapeRobotics$Orders" "order" "[I") (by decide +kernel)) (fun _ h9 => h9) rfl dX2_timeByInsertion_23 ?_
    refine lv_aload_n hx hb dX2_timeByInsertion_26 rfl (lv_at hl 0 rfl) ?_
    refine va_get (D := D) (ci := 2) (v := .int (nI (oc))) (C := RX2) (T := TX2) (N := 6) hx hb hts iX2 hown hZ.1 hP k0 (zset_n hk (zapo' hko hk)) rfl 0 (by decide) (hts (.fieldLink RX2 9 "TapeRobotics$Orders" "count" "I") (by decide +kernel)) (fun _ h9 => h9) rfl dX2_timeByInsertion_27 ?_
    refine zx_val (y := nI ((insL lg oc).length)) (by rw [insL_len]) ?_
    refine zk_V_i (n := 2) (As := [.ref ao, .int (nI ((insL lg oc).length))]) (rest := []) hx hb hml hts hown hZ hP (c_X2_timeOf l D cA _ k0 h0 oc an al ar ab ao (zset_n hk (zapo' hko hk)) kl fl (zset_n hkl nol) ko ao (colF fo (insL lg oc)) (zset_s hko) (insL lg oc) (by omega) (fun i hi => colF_in hi) (fun x hx => Nat.lt_of_lt_of_le (insL_mem oc x hx) hoc) lg (fun a b h1 h2 => hlg a b (h1.elim (fun q => Or.inl (insL_mem oc a q)) Or.inr) (insL_mem oc b h2))) gX2_timeByInsertion_X2_timeOf rfl rfl ⟨rfl, rfl⟩ ⟨by decide +kernel, Nat.le_of_ble_eq_true rfl, Nat.le_of_ble_eq_true rfl⟩ (zset_n hk (zapo' hko hk)) rfl hl.1 rfl (Nat.le_of_ble_eq_true rfl) ⟨Nat.zero_le _, Nat.zero_le _⟩ rfl dX2_timeByInsertion_30 (fun r_2 hr_3 => ?_)
    obtain rfl := show r_2 = _ from hr_3
    exact zr_qi (S := Unit) (w1 := fun u => ws.set ko (ao, zInts cA 7 (colF fo (insL lg oc)))) () hx hb hr hlocks (rfl) hP hD hS (rfl) dX2_timeByInsertion_33
  · refine lv_aload_n hx hb dX2_timeByInsertion_10 rfl (lv_at hl 0 rfl) ?_
    refine lv_iload_n hx hb dX2_timeByInsertion_11 rfl (lv_at hl 1 rfl) ?_
    refine zx_val (y := nI ((insL lg k).length)) (by rw [insL_len]) ?_
    refine zw_V_v (n := 1) (mc := 0) (ms := 0) (As := [.int (nI ((insL lg k).length))]) (rest := []) (w1 := fun _ : Unit => (ws.set ko (ao, zInts cA 7 (colF fo (insL lg k)))).set ko (ao, zInts cA 7 (colF fo (ins lg (insL lg k) (insL lg k).length)))) hx hb hml hts hown hZ hP hD hS hA (c_X2_insert l D cA _ _ k0 h0 oc an al ar ab ao (zset_n hk (zapo' hko hk)) kl fl (zset_n hkl nol) ko fo (insL lg k) (zset_s hko) nol hoc lg hlg hB (by rw [insL_len]; omega) (fun x hx => Nat.lt_trans (insL_mem k x hx) (by omega))) gX2_timeByInsertion_X2_insert rfl rfl ⟨rfl, rfl⟩ ⟨by decide +kernel, Nat.le_of_ble_eq_true rfl, Nat.le_of_ble_eq_true rfl⟩ (zset_n hk (zapo' hko hk)) rfl hl.1 rfl (Nat.le_of_ble_eq_true rfl) ⟨Nat.le_of_ble_eq_true rfl, Nat.le_of_ble_eq_true rfl⟩ rfl dX2_timeByInsertion_12 (fun u_6 H locs hr_5 hP hD hS hz_6 => ?_)
    have hP : va_P D vwCl ((ws.set ko (ao, zInts cA 7 (colF fo (insL lg k)))).set ko (ao, zInts cA 7 (colF fo (ins lg (insL lg k) (insL lg k).length)))) H := hP
    have hD : va_D A ((ws.set ko (ao, zInts cA 7 (colF fo (insL lg k)))).set ko (ao, zInts cA 7 (colF fo (ins lg (insL lg k) (insL lg k).length)))) := hD
    rw [zset2, insL_s] at hP hD
    refine lv_iinc (v := nI (k + 1)) (lv' := [(1, .int (nI (k + 1))), (0, .ref h0)]) hx hb dX2_timeByInsertion_15 hl (k := 1) rfl (zinc 1 _) (by decide) rfl (fun ls hl => ?_)
    refine lv_goto (tgt := 2) hx hb dX2_timeByInsertion_18 (by decide) ?_
    exact ih2 (k + 1) H locs ls (by first | omega | (dsimp only; omega)) ⟨lv_sub hl [1, 0] rfl, hP, hD, hS, by omega⟩

set_option maxHeartbeats 4000000 in
set_option maxRecDepth 100000 in
theorem c_X2_advanceOrder (l : Launch) (D : va_G) (cA : Nat → ClassId) (sz : Nat) (ws : va_W) (k0 h0 oc an al ar ab ao : Nat) (hk : ws[k0]? = some (h0, zOrd oc an al ar ab ao)) (ko : Nat) (fo : Nat → Int32) (lst : List Nat) (hko : ws[ko]? = some (ao, zInts cA 7 (colF fo lst))) (hoc : oc ≤ 7) (hlen : lst.length = oc) (hmem : ∀ x, x ∈ lst → x < oc) : Met l yX2_advanceOrder wsX2_advanceOrder ({ frames := 2, cells := 0, slots := 0, locals := 45 }) (va_Pc [.ref h0] (zM D cA (ws) sz)) (va_Qi (fun (r : Int32) (u : Unit) => r = bI ((adv oc lst).isSome)) (fun u => zB D (va_A (ws) sz) (ws.set ko (ao, zInts cA 7 (colF fo ((adv oc lst).getD lst))))) (va_A (ws) sz)) 0 0 (va_A (ws) sz) := by
  refine zOpen (cc := cX2_advanceOrder) (maxL := 5) (ret := (some .boolean)) (own := RX2) (by decide) rfl rfl (Nat.le_of_ble_eq_true rfl) ?_
  intro p e s m below meth c ls hx hb hr hml hts hown hlocks hnm ⟨hZ, hP, hD0, hsz⟩ hl
  subst hsz
  have hD := hD0.self (sz := s.heap.size)
  generalize hAe : va_A (ws) s.heap.size = A at hD ⊢
  have hA : ∀ q : Nat, s.heap.size ≤ q → A q := fun q h => by rw [← hAe]; exact Or.inr h
  have hS : va_S A s.heap s.heap [] := va_S.rf
  have iX2 : ∀ w ∈ wsX20, w ∈ wsX2_advanceOrder := by decide +kernel
  have hl : lv_has ls 5 [(0, .ref h0)] := hl
  have hgd : ∀ i, lst.getD i 0 < 7 := fun i => getD_lt (fun x hx => Nat.lt_of_lt_of_le (hmem x hx) hoc) (by omega) i
  refine lv_aload_n hx hb dX2_advanceOrder_0 rfl (lv_at hl 0 rfl) ?_
  refine va_get (D := D) (ci := 2) (v := .int (nI (oc))) (C := RX2) (T := TX2) (N := 6) hx hb hts iX2 hown hZ.1 hP k0 hk rfl 0 (by decide) (hts (.fieldLink RX2 9 "TapeRobotics$Orders" "count" "I") (by decide +kernel)) (fun _ h9 => h9) rfl dX2_advanceOrder_1 ?_
  refine lv_iconst (v := nI (2)) hx hb dX2_advanceOrder_4 (by decide) ?_
  refine lv_isub hx hb dX2_advanceOrder_5 ?_
  refine zx_val (y := nI oc - nI 2) (rfl) ?_
  refine lv_istore_n (lv' := [(1, .int (nI oc - nI 2)), (0, .ref h0)]) hx hb dX2_advanceOrder_6 rfl hl (by decide) rfl (fun ls hl => ?_)
  rcases Nat.eq_zero_or_pos oc with hoc0 | hocp
  · have hl : lv_has ls 5 [(1, .int (nI 0 - nI 2)), (0, .ref h0)] := by rw [hoc0] at hl; exact hl
    have hadv : adv oc lst = none := by unfold adv; rw [hoc0]; rfl
    refine lv_iload_n hx hb dX2_advanceOrder_7 rfl (lv_at hl 0 rfl) ?_
    refine lv_if_lt (tgt := 38) hx hb dX2_advanceOrder_8 (by decide) (fun c_1 => ?_) (fun c_1 => absurd neg2 c_1)
    refine lv_iload_n hx hb dX2_advanceOrder_38 rfl (lv_at hl 0 rfl) ?_
    refine lv_if_ge (tgt := 44) hx hb dX2_advanceOrder_39 (by decide) (fun c_2 => absurd c_2 neg2') (fun c_2 => ?_)
    refine lv_iconst (v := bI (false)) hx hb dX2_advanceOrder_42 (by decide) ?_
    exact zr_qz (S := Unit) (w1 := fun u => ws.set ko (ao, zInts cA 7 (colF fo ((adv oc lst).getD lst)))) () hx hb hr hlocks (by rw [hadv]; rfl) hP hD hS (by rw [hadv]; exact (zset_self hko).symm) dX2_advanceOrder_43
  · have hl : lv_has ls 5 [(1, .int (pI (oc - 1))), (0, .ref h0)] := by rw [pI_2 hocp] at hl; exact hl
    refine z_loop (α := Nat) (fun v => v) (fun v ls => lv_has ls 5 [(0, .ref h0), (1, .int (pI v))] ∧ tf lst v = tf lst (oc - 1) ∧ v ≤ oc - 1) (fun _ => []) ((oc - 1)) ⟨lv_sub hl [1, 0] rfl, rfl, Nat.le_refl _⟩ ?_
    intro v ih7 ls hv
    obtain ⟨k, rfl⟩ : ∃ z, z = v := ⟨_, rfl⟩
    obtain ⟨hl, hI⟩ := hv
    have hl : lv_has ls 5 [(0, .ref h0), (1, .int (pI k))] := hl
    have hI : tf lst k = tf lst (oc - 1) ∧ k ≤ oc - 1 := hI
    obtain ⟨hk1, hkm⟩ := hI
    rcases k with _ | q
    · have hl : lv_has ls 5 [(0, .ref h0), (1, .int (pI 0))] := hl
      have hadv : adv oc lst = none := by unfold adv; rw [← hk1]; rfl
      refine lv_iload_n hx hb dX2_advanceOrder_7 rfl (lv_at hl 1 rfl) ?_
      refine lv_if_lt (tgt := 38) hx hb dX2_advanceOrder_8 (by decide) (fun c_3 => ?_) (fun c_3 => absurd pI_0 c_3)
      refine lv_iload_n hx hb dX2_advanceOrder_38 rfl (lv_at hl 1 rfl) ?_
      refine lv_if_ge (tgt := 44) hx hb dX2_advanceOrder_39 (by decide) (fun c_4 => absurd c_4 pI_n0) (fun c_4 => ?_)
      refine lv_iconst (v := bI (false)) hx hb dX2_advanceOrder_42 (by decide) ?_
      exact zr_qz (S := Unit) (w1 := fun u => ws.set ko (ao, zInts cA 7 (colF fo ((adv oc lst).getD lst)))) () hx hb hr hlocks (by rw [hadv]; rfl) hP hD hS (by rw [hadv]; exact (zset_self hko).symm) dX2_advanceOrder_43
    · rw [pI_s] at hl
      have hgq := hgd q
      have hgq1 := hgd (q + 1)
      refine lv_iload_n hx hb dX2_advanceOrder_7 rfl (lv_at hl 1 rfl) ?_
      refine zf_lt (tgt := 38) hx hb (by omega) dX2_advanceOrder_8 (by decide) ?_
      refine lv_aload_n hx hb dX2_advanceOrder_11 rfl (lv_at hl 0 rfl) ?_
      refine va_get (D := D) (ci := 2) (v := .ref ao) (C := RX2) (T := TX2) (N := 6) hx hb hts iX2 hown hZ.1 hP k0 hk rfl 5 (by decide) (hts (.fieldLink RX2 28 "TapeRobotics$Orders" "order" "[I") (by decide +kernel)) (fun _ h9 => h9) rfl dX2_advanceOrder_12 ?_
      refine lv_iload_n hx hb dX2_advanceOrder_15 rfl (lv_at hl 1 rfl) ?_
      refine zk_SN_i (n := 2) (As := [.ref ao, .int (nI (q))]) (rest := []) hx hb hml hts hown hZ hP (c_X4_at l D cA _ ko ao 7 (colF fo lst) hko q (by omega) (by omega)) ggX2_advanceOrder_X4_at (List.mem_of_getElem? (i := 28) rfl) (by decide +kernel) rfl ⟨rfl, rfl⟩ ⟨by decide +kernel, Nat.le_of_ble_eq_true rfl, Nat.le_of_ble_eq_true rfl⟩ hl.1 rfl (Nat.le_of_ble_eq_true rfl) ⟨Nat.zero_le _, Nat.zero_le _⟩ rfl dX2_advanceOrder_16 (fun r_6 hr_7 => ?_)
      obtain rfl := show r_6 = _ from hr_7
      refine zx_val (y := nI (lst.getD q 0)) (colF_in (by omega)) ?_
      refine lv_aload_n hx hb dX2_advanceOrder_19 rfl (lv_at hl 0 rfl) ?_
      refine va_get (D := D) (ci := 2) (v := .ref ao) (C := RX2) (T := TX2) (N := 6) hx hb hts iX2 hown hZ.1 hP k0 hk rfl 5 (by decide) (hts (.fieldLink RX2 28 "TapeRobotics$Orders" "order" "[I") (by decide +kernel)) (fun _ h9 => h9) rfl dX2_advanceOrder_20 ?_
      refine lv_iload_n hx hb dX2_advanceOrder_23 rfl (lv_at hl 1 rfl) ?_
      refine lv_iconst (v := nI (1)) hx hb dX2_advanceOrder_24 (by decide) ?_
      refine zo_add hx hb dX2_advanceOrder_25 ?_
      refine zk_SN_i (n := 2) (As := [.ref ao, .int (nI (q + 1))]) (rest := [.int (nI (lst.getD q 0))]) hx hb hml hts hown hZ hP (c_X4_at l D cA _ ko ao 7 (colF fo lst) hko (q + 1) (by omega) (by omega)) ggX2_advanceOrder_X4_at (List.mem_of_getElem? (i := 28) rfl) (by decide +kernel) rfl ⟨rfl, rfl⟩ ⟨by decide +kernel, Nat.le_of_ble_eq_true rfl, Nat.le_of_ble_eq_true rfl⟩ hl.1 rfl (Nat.le_of_ble_eq_true rfl) ⟨Nat.zero_le _, Nat.zero_le _⟩ rfl dX2_advanceOrder_26 (fun r_8 hr_9 => ?_)
      obtain rfl := show r_8 = _ from hr_9
      refine zx_val (y := nI (lst.getD (q + 1) 0)) (colF_in (by omega)) ?_
      refine zc_le (tgt := 38) hx hb (by omega) (by omega) dX2_advanceOrder_29 (by decide) (fun c_10 => ?_) (fun c_10 => ?_)
      · refine lv_iload_n hx hb dX2_advanceOrder_38 rfl (lv_at hl 1 rfl) ?_
        refine zf_ge (tgt := 44) hx hb (by omega) dX2_advanceOrder_39 (by decide) ?_
        have htf : tf lst (oc - 1) = q + 1 := by rw [← hk1]; exact tf_e (by omega)
        refine lv_aload_n hx hb dX2_advanceOrder_44 rfl (lv_at hl 0 rfl) ?_
        refine va_get (D := D) (ci := 2) (v := .int (nI (oc))) (C := RX2) (T := TX2) (N := 6) hx hb hts iX2 hown hZ.1 hP k0 hk rfl 0 (by decide) (hts (.fieldLink RX2 9 "TapeRobotics$Orders" "count" "I") (by decide +kernel)) (fun _ h9 => h9) rfl dX2_advanceOrder_45 ?_
        refine lv_iconst (v := nI (1)) hx hb dX2_advanceOrder_48 (by decide) ?_
        refine zo_sub hx hb (by omega) dX2_advanceOrder_49 ?_
        refine lv_istore_n (lv' := [(2, .int (nI (oc - 1))), (0, .ref h0), (1, .int (nI (q)))]) hx hb dX2_advanceOrder_50 rfl hl (by decide) rfl (fun ls hl => ?_)
        refine z_loop (α := Nat) (fun v => v) (fun v ls => lv_has ls 5 [(0, .ref h0), (1, .int (nI (q))), (2, .int (nI (v)))] ∧ lf lst q v = lf lst q (oc - 1) ∧ v ≤ oc - 1 ∧ q ≤ v) (fun _ => []) (oc - 1) ⟨lv_sub hl [1, 2, 0] rfl, rfl, Nat.le_refl _, by omega⟩ ?_
        intro v ih51 ls hv
        obtain ⟨g, rfl⟩ : ∃ z, z = v := ⟨_, rfl⟩
        obtain ⟨hl, hI⟩ := hv
        have hl : lv_has ls 5 [(0, .ref h0), (1, .int (nI (q))), (2, .int (nI (g)))] := hl
        have hI : lf lst q g = lf lst q (oc - 1) ∧ g ≤ oc - 1 ∧ q ≤ g := hI
        obtain ⟨hg1, hgm, hgq2⟩ := hI
        have hgg := hgd g
        refine lv_iload_n hx hb dX2_advanceOrder_51 rfl (lv_at hl 2 rfl) ?_
        refine lv_iload_n hx hb dX2_advanceOrder_52 rfl (lv_at hl 1 rfl) ?_
        refine zc_le (tgt := 81) hx hb (by omega) (by omega) dX2_advanceOrder_53 (by decide) (fun c_12 => ?_) (fun c_12 => ?_)
        · have hge : lf lst q (oc - 1) = g := by rw [← hg1]; first | exact lf_e1 (by omega) | exact lf_e2 (by omega)
          refine lv_aload_n hx hb dX2_advanceOrder_81 rfl (lv_at hl 0 rfl) ?_
          refine lv_iload_n hx hb dX2_advanceOrder_82 rfl (lv_at hl 1 rfl) ?_
          refine lv_iload_n hx hb dX2_advanceOrder_83 rfl (lv_at hl 2 rfl) ?_
          refine zw_V_v (n := 2) (mc := 0) (ms := 0) (As := [.int (nI (q)), .int (nI (g))]) (rest := []) (w1 := fun _ : Unit => (ws).set ko (ao, zInts cA 7 (colF fo (lswap lst q g)))) hx hb hml hts hown hZ hP hD hS hA (c_X2_swap l D cA _ _ k0 h0 oc an al ar ab ao hk ko fo lst hko q g (by omega) (by omega) (by omega)) gX2_advanceOrder_X2_swap rfl rfl ⟨rfl, rfl⟩ ⟨by decide +kernel, Nat.le_of_ble_eq_true rfl, Nat.le_of_ble_eq_true rfl⟩ hk rfl hl.1 rfl (Nat.le_of_ble_eq_true rfl) ⟨Nat.le_of_ble_eq_true rfl, Nat.le_of_ble_eq_true rfl⟩ rfl dX2_advanceOrder_84 (fun u_15 H locs hr_14 hP hD hS hz_15 => ?_)
          have hP : va_P D vwCl ((ws).set ko (ao, zInts cA 7 (colF fo (lswap lst q g)))) H := hP
          have hD : va_D A ((ws).set ko (ao, zInts cA 7 (colF fo (lswap lst q g)))) := hD
          refine lv_iload_n hx hb dX2_advanceOrder_87 rfl (lv_at hl 1 rfl) ?_
          refine lv_iconst (v := nI (1)) hx hb dX2_advanceOrder_88 (by decide) ?_
          refine zo_add hx hb dX2_advanceOrder_89 ?_
          refine lv_istore_n (lv' := [(3, .int (nI (q + 1))), (0, .ref h0), (1, .int (nI (q))), (2, .int (nI (g)))]) hx hb dX2_advanceOrder_90 rfl hl (by decide) rfl (fun ls hl => ?_)
          refine lv_aload_n hx hb dX2_advanceOrder_91 rfl (lv_at hl 1 rfl) ?_
          refine va_get (D := D) (ci := 2) (v := .int (nI (oc))) (C := RX2) (T := TX2) (N := 6) hx hb hts iX2 hown hZ.1 hP k0 (zset_n hk (zapo' hko hk)) rfl 0 (by decide) (hts (.fieldLink RX2 9 "TapeRobotics$Orders" "count" "I") (by decide +kernel)) (fun _ h9 => h9) rfl dX2_advanceOrder_92 ?_
          refine lv_iconst (v := nI (1)) hx hb dX2_advanceOrder_95 (by decide) ?_
          refine zo_sub hx hb (by omega) dX2_advanceOrder_96 ?_
          refine lv_istore (lv' := [(4, .int (nI (oc - 1))), (3, .int (nI (q + 1))), (0, .ref h0), (1, .int (nI (q))), (2, .int (nI (g)))]) hx hb dX2_advanceOrder_97 hl (by decide) rfl (fun ls hl => ?_)
          refine z_loopW (α := Nat × Nat × Nat × List Nat) (fun v => v.2.1 - v.1) (fun v H locs ls => lv_has ls 5 [(0, .ref h0), (3, .int (nI (v.1))), (4, .int (nI (v.2.1)))] ∧ va_P D vwCl (ws.set ko (ao, zInts cA 7 (colF fo v.2.2.2))) H ∧ va_D A (ws.set ko (ao, zInts cA 7 (colF fo v.2.2.2))) ∧ va_S A s.heap H locs ∧ rv v.2.2.1 v.1 v.2.1 v.2.2.2 = rv oc (q + 1) (oc - 1) (lswap lst q g) ∧ v.2.2.2.length = oc ∧ v.2.1 ≤ oc - 1 ∧ v.2.1 ≤ v.1 + v.2.2.1 ∧ v.1 ≤ oc) (fun _ => []) (q + 1, oc - 1, oc, (lswap lst q g)) ⟨lv_sub hl [2, 1, 0] rfl, hP, hD, hS, rfl, by rw [lswap_len]; exact hlen, Nat.le_refl _, by dsimp only; omega, by dsimp only; omega⟩ ?_
          intro v ih99 H locs ls hv
          obtain ⟨lo, hi, n, X⟩ := v
          obtain ⟨hl, hP, hD, hS, hI⟩ := hv
          have hP : va_P D vwCl (ws.set ko (ao, zInts cA 7 (colF fo X))) H := hP
          have hD : va_D A (ws.set ko (ao, zInts cA 7 (colF fo X))) := hD
          have hl : lv_has ls 5 [(0, .ref h0), (3, .int (nI (lo))), (4, .int (nI (hi)))] := hl
          have hI : rv n lo hi X = rv oc (q + 1) (oc - 1) (lswap lst q g) ∧ X.length = oc ∧ hi ≤ oc - 1 ∧ hi ≤ lo + n ∧ lo ≤ oc := hI
          obtain ⟨hrv, hXl, hhi, hn9, hlo9⟩ := hI
          refine lv_iload_n hx hb dX2_advanceOrder_99 rfl (lv_at hl 1 rfl) ?_
          refine lv_iload hx hb dX2_advanceOrder_100 (lv_at hl 2 rfl) ?_
          refine zc_ge (tgt := 121) hx hb (by omega) (by omega) dX2_advanceOrder_102 (by decide) (fun c_16 => ?_) (fun c_16 => ?_)
          · have hadv : adv oc lst = some X := by
              unfold adv
              rw [htf, if_neg (by omega), Nat.add_sub_cancel, hge, ← hrv, rv_e (by omega)]
            refine lv_iconst (v := bI (true)) hx hb dX2_advanceOrder_121 (by decide) ?_
            exact zr_qz (S := Unit) (w1 := fun u => ws.set ko (ao, zInts cA 7 (colF fo ((adv oc lst).getD lst)))) () hx hb hr hlocks (by rw [hadv]; rfl) hP hD hS (by rw [hadv]; rfl) dX2_advanceOrder_122
          · refine lv_aload_n hx hb dX2_advanceOrder_105 rfl (lv_at hl 0 rfl) ?_
            refine lv_iload_n hx hb dX2_advanceOrder_106 rfl (lv_at hl 1 rfl) ?_
            refine lv_iload hx hb dX2_advanceOrder_107 (lv_at hl 2 rfl) ?_
            refine zw_V_v (n := 2) (mc := 0) (ms := 0) (As := [.int (nI (lo)), .int (nI (hi))]) (rest := []) (w1 := fun _ : Unit => (ws.set ko (ao, zInts cA 7 (colF fo X))).set ko (ao, zInts cA 7 (colF fo (lswap X lo hi)))) hx hb hml hts hown hZ hP hD hS hA (c_X2_swap l D cA _ _ k0 h0 oc an al ar ab ao (zset_n hk (zapo' hko hk)) ko fo X (zset_s hko) lo hi (by omega) (by omega) (by omega)) gX2_advanceOrder_X2_swap rfl rfl ⟨rfl, rfl⟩ ⟨by decide +kernel, Nat.le_of_ble_eq_true rfl, Nat.le_of_ble_eq_true rfl⟩ (zset_n hk (zapo' hko hk)) rfl hl.1 rfl (Nat.le_of_ble_eq_true rfl) ⟨Nat.le_of_ble_eq_true rfl, Nat.le_of_ble_eq_true rfl⟩ rfl dX2_advanceOrder_109 (fun u_19 H locs hr_18 hP hD hS hz_19 => ?_)
            have hP : va_P D vwCl ((ws.set ko (ao, zInts cA 7 (colF fo X))).set ko (ao, zInts cA 7 (colF fo (lswap X lo hi)))) H := hP
            have hD : va_D A ((ws.set ko (ao, zInts cA 7 (colF fo X))).set ko (ao, zInts cA 7 (colF fo (lswap X lo hi)))) := hD
            rw [zset2] at hP hD
            refine lv_iinc (v := nI (lo + 1)) (lv' := [(3, .int (nI (lo + 1))), (0, .ref h0), (4, .int (nI (hi)))]) hx hb dX2_advanceOrder_112 hl (k := 1) rfl (zinc 1 _) (by decide) rfl (fun ls hl => ?_)
            refine lv_iinc (v := nI (hi - 1)) (lv' := [(4, .int (nI (hi - 1))), (3, .int (nI (lo + 1))), (0, .ref h0)]) hx hb dX2_advanceOrder_115 hl (k := 2) rfl (zdec (by omega)) (by decide) rfl (fun ls hl => ?_)
            refine lv_goto (tgt := 99) hx hb dX2_advanceOrder_118 (by decide) ?_
            exact ih99 (lo + 1, hi - 1, (n - 1), (lswap X lo hi)) H locs ls (by first | omega | (dsimp only; omega)) ⟨lv_sub hl [2, 1, 0] rfl, hP, hD, hS, by rw [← hrv]; exact (rv_s (by omega) (by omega)).symm, by rw [lswap_len]; exact hXl, by dsimp only; omega, by dsimp only; omega, by dsimp only; omega⟩
        · refine lv_aload_n hx hb dX2_advanceOrder_56 rfl (lv_at hl 0 rfl) ?_
          refine va_get (D := D) (ci := 2) (v := .ref ao) (C := RX2) (T := TX2) (N := 6) hx hb hts iX2 hown hZ.1 hP k0 hk rfl 5 (by decide) (hts (.fieldLink RX2 28 "TapeRobotics$Orders" "order" "[I") (by decide +kernel)) (fun _ h9 => h9) rfl dX2_advanceOrder_57 ?_
          refine lv_iload_n hx hb dX2_advanceOrder_60 rfl (lv_at hl 2 rfl) ?_
          refine zk_SN_i (n := 2) (As := [.ref ao, .int (nI (g))]) (rest := []) hx hb hml hts hown hZ hP (c_X4_at l D cA _ ko ao 7 (colF fo lst) hko g (by omega) (by omega)) ggX2_advanceOrder_X4_at (List.mem_of_getElem? (i := 28) rfl) (by decide +kernel) rfl ⟨rfl, rfl⟩ ⟨by decide +kernel, Nat.le_of_ble_eq_true rfl, Nat.le_of_ble_eq_true rfl⟩ hl.1 rfl (Nat.le_of_ble_eq_true rfl) ⟨Nat.zero_le _, Nat.zero_le _⟩ rfl dX2_advanceOrder_61 (fun r_20 hr_21 => ?_)
          obtain rfl := show r_20 = _ from hr_21
          refine zx_val (y := nI (lst.getD g 0)) (colF_in (by omega)) ?_
          refine lv_aload_n hx hb dX2_advanceOrder_64 rfl (lv_at hl 0 rfl) ?_
          refine va_get (D := D) (ci := 2) (v := .ref ao) (C := RX2) (T := TX2) (N := 6) hx hb hts iX2 hown hZ.1 hP k0 hk rfl 5 (by decide) (hts (.fieldLink RX2 28 "TapeRobotics$Orders" "order" "[I") (by decide +kernel)) (fun _ h9 => h9) rfl dX2_advanceOrder_65 ?_
          refine lv_iload_n hx hb dX2_advanceOrder_68 rfl (lv_at hl 1 rfl) ?_
          refine zk_SN_i (n := 2) (As := [.ref ao, .int (nI (q))]) (rest := [.int (nI (lst.getD g 0))]) hx hb hml hts hown hZ hP (c_X4_at l D cA _ ko ao 7 (colF fo lst) hko q (by omega) (by omega)) ggX2_advanceOrder_X4_at (List.mem_of_getElem? (i := 28) rfl) (by decide +kernel) rfl ⟨rfl, rfl⟩ ⟨by decide +kernel, Nat.le_of_ble_eq_true rfl, Nat.le_of_ble_eq_true rfl⟩ hl.1 rfl (Nat.le_of_ble_eq_true rfl) ⟨Nat.zero_le _, Nat.zero_le _⟩ rfl dX2_advanceOrder_69 (fun r_22 hr_23 => ?_)
          obtain rfl := show r_22 = _ from hr_23
          refine zx_val (y := nI (lst.getD q 0)) (colF_in (by omega)) ?_
          refine zc_ge (tgt := 81) hx hb (by omega) (by omega) dX2_advanceOrder_72 (by decide) (fun c_24 => ?_) (fun c_24 => ?_)
          · have hge : lf lst q (oc - 1) = g := by rw [← hg1]; first | exact lf_e1 (by omega) | exact lf_e2 (by omega)
            refine lv_aload_n hx hb dX2_advanceOrder_81 rfl (lv_at hl 0 rfl) ?_
            refine lv_iload_n hx hb dX2_advanceOrder_82 rfl (lv_at hl 1 rfl) ?_
            refine lv_iload_n hx hb dX2_advanceOrder_83 rfl (lv_at hl 2 rfl) ?_
            refine zw_V_v (n := 2) (mc := 0) (ms := 0) (As := [.int (nI (q)), .int (nI (g))]) (rest := []) (w1 := fun _ : Unit => (ws).set ko (ao, zInts cA 7 (colF fo (lswap lst q g)))) hx hb hml hts hown hZ hP hD hS hA (c_X2_swap l D cA _ _ k0 h0 oc an al ar ab ao hk ko fo lst hko q g (by omega) (by omega) (by omega)) gX2_advanceOrder_X2_swap rfl rfl ⟨rfl, rfl⟩ ⟨by decide +kernel, Nat.le_of_ble_eq_true rfl, Nat.le_of_ble_eq_true rfl⟩ hk rfl hl.1 rfl (Nat.le_of_ble_eq_true rfl) ⟨Nat.le_of_ble_eq_true rfl, Nat.le_of_ble_eq_true rfl⟩ rfl dX2_advanceOrder_84 (fun u_27 H locs hr_26 hP hD hS hz_27 => ?_)
            have hP : va_P D vwCl ((ws).set ko (ao, zInts cA 7 (colF fo (lswap lst q g)))) H := hP
            have hD : va_D A ((ws).set ko (ao, zInts cA 7 (colF fo (lswap lst q g)))) := hD
            refine lv_iload_n hx hb dX2_advanceOrder_87 rfl (lv_at hl 1 rfl) ?_
            refine lv_iconst (v := nI (1)) hx hb dX2_advanceOrder_88 (by decide) ?_
            refine zo_add hx hb dX2_advanceOrder_89 ?_
            refine lv_istore_n (lv' := [(3, .int (nI (q + 1))), (0, .ref h0), (1, .int (nI (q))), (2, .int (nI (g)))]) hx hb dX2_advanceOrder_90 rfl hl (by decide) rfl (fun ls hl => ?_)
            refine lv_aload_n hx hb dX2_advanceOrder_91 rfl (lv_at hl 1 rfl) ?_
            refine va_get (D := D) (ci := 2) (v := .int (nI (oc))) (C := RX2) (T := TX2) (N := 6) hx hb hts iX2 hown hZ.1 hP k0 (zset_n hk (zapo' hko hk)) rfl 0 (by decide) (hts (.fieldLink RX2 9 "TapeRobotics$Orders" "count" "I") (by decide +kernel)) (fun _ h9 => h9) rfl dX2_advanceOrder_92 ?_
            refine lv_iconst (v := nI (1)) hx hb dX2_advanceOrder_95 (by decide) ?_
            refine zo_sub hx hb (by omega) dX2_advanceOrder_96 ?_
            refine lv_istore (lv' := [(4, .int (nI (oc - 1))), (3, .int (nI (q + 1))), (0, .ref h0), (1, .int (nI (q))), (2, .int (nI (g)))]) hx hb dX2_advanceOrder_97 hl (by decide) rfl (fun ls hl => ?_)
            refine z_loopW (α := Nat × Nat × Nat × List Nat) (fun v => v.2.1 - v.1) (fun v H locs ls => lv_has ls 5 [(0, .ref h0), (3, .int (nI (v.1))), (4, .int (nI (v.2.1)))] ∧ va_P D vwCl (ws.set ko (ao, zInts cA 7 (colF fo v.2.2.2))) H ∧ va_D A (ws.set ko (ao, zInts cA 7 (colF fo v.2.2.2))) ∧ va_S A s.heap H locs ∧ rv v.2.2.1 v.1 v.2.1 v.2.2.2 = rv oc (q + 1) (oc - 1) (lswap lst q g) ∧ v.2.2.2.length = oc ∧ v.2.1 ≤ oc - 1 ∧ v.2.1 ≤ v.1 + v.2.2.1 ∧ v.1 ≤ oc) (fun _ => []) (q + 1, oc - 1, oc, (lswap lst q g)) ⟨lv_sub hl [2, 1, 0] rfl, hP, hD, hS, rfl, by rw [lswap_len]; exact hlen, Nat.le_refl _, by dsimp only; omega, by dsimp only; omega⟩ ?_
            intro v ih99 H locs ls hv
            obtain ⟨lo, hi, n, X⟩ := v
            obtain ⟨hl, hP, hD, hS, hI⟩ := hv
            have hP : va_P D vwCl (ws.set ko (ao, zInts cA 7 (colF fo X))) H := hP
            have hD : va_D A (ws.set ko (ao, zInts cA 7 (colF fo X))) := hD
            have hl : lv_has ls 5 [(0, .ref h0), (3, .int (nI (lo))), (4, .int (nI (hi)))] := hl
            have hI : rv n lo hi X = rv oc (q + 1) (oc - 1) (lswap lst q g) ∧ X.length = oc ∧ hi ≤ oc - 1 ∧ hi ≤ lo + n ∧ lo ≤ oc := hI
            obtain ⟨hrv, hXl, hhi, hn9, hlo9⟩ := hI
            refine lv_iload_n hx hb dX2_advanceOrder_99 rfl (lv_at hl 1 rfl) ?_
            refine lv_iload hx hb dX2_advanceOrder_100 (lv_at hl 2 rfl) ?_
            refine zc_ge (tgt := 121) hx hb (by omega) (by omega) dX2_advanceOrder_102 (by decide) (fun c_28 => ?_) (fun c_28 => ?_)
            · have hadv : adv oc lst = some X := by
                unfold adv
                rw [htf, if_neg (by omega), Nat.add_sub_cancel, hge, ← hrv, rv_e (by omega)]
              refine lv_iconst (v := bI (true)) hx hb dX2_advanceOrder_121 (by decide) ?_
              exact zr_qz (S := Unit) (w1 := fun u => ws.set ko (ao, zInts cA 7 (colF fo ((adv oc lst).getD lst)))) () hx hb hr hlocks (by rw [hadv]; rfl) hP hD hS (by rw [hadv]; rfl) dX2_advanceOrder_122
            · refine lv_aload_n hx hb dX2_advanceOrder_105 rfl (lv_at hl 0 rfl) ?_
              refine lv_iload_n hx hb dX2_advanceOrder_106 rfl (lv_at hl 1 rfl) ?_
              refine lv_iload hx hb dX2_advanceOrder_107 (lv_at hl 2 rfl) ?_
              refine zw_V_v (n := 2) (mc := 0) (ms := 0) (As := [.int (nI (lo)), .int (nI (hi))]) (rest := []) (w1 := fun _ : Unit => (ws.set ko (ao, zInts cA 7 (colF fo X))).set ko (ao, zInts cA 7 (colF fo (lswap X lo hi)))) hx hb hml hts hown hZ hP hD hS hA (c_X2_swap l D cA _ _ k0 h0 oc an al ar ab ao (zset_n hk (zapo' hko hk)) ko fo X (zset_s hko) lo hi (by omega) (by omega) (by omega)) gX2_advanceOrder_X2_swap rfl rfl ⟨rfl, rfl⟩ ⟨by decide +kernel, Nat.le_of_ble_eq_true rfl, Nat.le_of_ble_eq_true rfl⟩ (zset_n hk (zapo' hko hk)) rfl hl.1 rfl (Nat.le_of_ble_eq_true rfl) ⟨Nat.le_of_ble_eq_true rfl, Nat.le_of_ble_eq_true rfl⟩ rfl dX2_advanceOrder_109 (fun u_31 H locs hr_30 hP hD hS hz_31 => ?_)
              have hP : va_P D vwCl ((ws.set ko (ao, zInts cA 7 (colF fo X))).set ko (ao, zInts cA 7 (colF fo (lswap X lo hi)))) H := hP
              have hD : va_D A ((ws.set ko (ao, zInts cA 7 (colF fo X))).set ko (ao, zInts cA 7 (colF fo (lswap X lo hi)))) := hD
              rw [zset2] at hP hD
              refine lv_iinc (v := nI (lo + 1)) (lv' := [(3, .int (nI (lo + 1))), (0, .ref h0), (4, .int (nI (hi)))]) hx hb dX2_advanceOrder_112 hl (k := 1) rfl (zinc 1 _) (by decide) rfl (fun ls hl => ?_)
              refine lv_iinc (v := nI (hi - 1)) (lv' := [(4, .int (nI (hi - 1))), (3, .int (nI (lo + 1))), (0, .ref h0)]) hx hb dX2_advanceOrder_115 hl (k := 2) rfl (zdec (by omega)) (by decide) rfl (fun ls hl => ?_)
              refine lv_goto (tgt := 99) hx hb dX2_advanceOrder_118 (by decide) ?_
              exact ih99 (lo + 1, hi - 1, (n - 1), (lswap X lo hi)) H locs ls (by first | omega | (dsimp only; omega)) ⟨lv_sub hl [2, 1, 0] rfl, hP, hD, hS, by rw [← hrv]; exact (rv_s (by omega) (by omega)).symm, by rw [lswap_len]; exact hXl, by dsimp only; omega, by dsimp only; omega, by dsimp only; omega⟩
          · refine lv_iinc (v := nI (g - 1)) (lv' := [(2, .int (nI (g - 1))), (0, .ref h0), (1, .int (nI (q)))]) hx hb dX2_advanceOrder_75 hl (k := 2) rfl (zdec (by omega)) (by decide) rfl (fun ls hl => ?_)
            refine lv_goto (tgt := 51) hx hb dX2_advanceOrder_78 (by decide) ?_
            exact ih51 (g - 1) ls (by first | omega | (dsimp only; omega)) ⟨lv_sub hl [1, 2, 0] rfl, by rw [← hg1]; exact (lf_s (by omega) (by omega)).symm, by omega, by omega⟩
      · refine lv_iinc (v := pI q) (lv' := [(1, .int (pI q)), (0, .ref h0)]) hx hb dX2_advanceOrder_32 hl (k := 1) rfl (pI_dec q) (by decide) rfl (fun ls hl => ?_)
        refine lv_goto (tgt := 7) hx hb dX2_advanceOrder_35 (by decide) ?_
        exact ih7 (q) ls (by first | omega | (dsimp only; omega)) ⟨lv_sub hl [1, 0] rfl, by rw [← hk1]; exact (tf_s (by omega)).symm, by omega⟩
