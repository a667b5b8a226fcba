set_option maxHeartbeats 4000000 in
set_option maxRecDepth 100000 in
theorem c_X2_timeOf (l : Launch) (D : va_G) (cA : Nat → ClassId) (ws : va_W) (k0 h0 oc an al ar ab ao : Nat) (hk : ws[k0]? = some (h0, zOrd oc an al ar ab ao)) (kl : Nat) (fl : Nat → Int32) (hkl : ws[kl]? = some (al, zInts cA 56 fl)) (kg g : Nat) (fg : Nat → Int32) (hkg : ws[kg]? = some (g, zInts cA 7 fg)) (L : List Nat) (hL : L.length ≤ 7) (hg : ∀ i, i < L.length → fg i = nI (L.getD i 0)) (hLo : ∀ x, x ∈ L → x < 7) (lg : Nat → Nat → Nat) (hlg : ∀ a b, (a ∈ L ∨ a = 7) → b ∈ L → fl (a * 7 + b) = nI (lg a b))  : Met l yX2_timeOf wsX2_timeOf ({ frames := 2, cells := 0, slots := 0, locals := 43 }) (va_Pc [.ref h0, .ref g, .int (nI (L.length))] (zS D cA ws)) (vp_Si (fun r => r = nI (pt lg 7 L))) 0 0 zF := by
  refine zOpen (cc := cX2_timeOf) (maxL := 7) (ret := (some .int)) (own := RX2) (by decide) rfl rfl (Nat.le_of_ble_eq_true rfl) ?_
  intro p e s m below meth c ls hx hb hr hml hts hown hlocks hnm ⟨hZ, hP⟩ hl
  have hl : lv_has ls 7 [(0, .ref h0), (1, .ref g), (2, .int (nI (L.length)))] := hl
  refine lv_iconst (v := nI (0)) hx hb dX2_timeOf_0 (by decide) ?_
  refine lv_istore_n (lv' := [(3, .int (nI (0))), (0, .ref h0), (1, .ref g), (2, .int (nI (L.length)))]) hx hb dX2_timeOf_1 rfl hl (by decide) rfl (fun ls hl => ?_)
  refine lv_bipush (v := nI (7)) hx hb dX2_timeOf_2 (by decide) ?_
  refine lv_istore (lv' := [(4, .int (nI (7))), (3, .int (nI (0))), (0, .ref h0), (1, .ref g), (2, .int (nI (L.length)))]) hx hb dX2_timeOf_4 hl (by decide) rfl (fun ls hl => ?_)
  refine lv_iconst (v := nI (0)) hx hb dX2_timeOf_6 (by decide) ?_
  refine lv_istore (lv' := [(5, .int (nI (0))), (4, .int (nI (7))), (3, .int (nI (0))), (0, .ref h0), (1, .ref g), (2, .int (nI (L.length)))]) hx hb dX2_timeOf_7 hl (by decide) rfl (fun ls hl => ?_)
  refine z_loop (α := Nat × Nat × Nat) (fun v => L.length - v.1) (fun v ls => lv_has ls 7 [(0, .ref h0), (1, .ref g), (2, .int (nI (L.length))), (5, .int (nI (v.1))), (3, .int (nI (v.2.1))), (4, .int (nI (v.2.2)))] ∧ v.2.1 + pt lg v.2.2 (L.drop v.1) = pt lg 7 L ∧ v.1 ≤ L.length ∧ (v.2.2 ∈ L ∨ v.2.2 = 7)) (fun _ => []) (0, 0, 7) ⟨lv_sub hl [3, 4, 5, 0, 2, 1] rfl, by rw [List.drop_zero]; exact Nat.zero_add _, Nat.zero_le _, Or.inr rfl⟩ ?_
  intro v ih9 ls hv
  obtain ⟨i, x, a⟩ := v
  obtain ⟨hl, hI⟩ := hv
  have hl : lv_has ls 7 [(0, .ref h0), (1, .ref g), (2, .int (nI (L.length))), (5, .int (nI (i))), (3, .int (nI (x))), (4, .int (nI (a)))] := hl
  have hI : x + pt lg a (L.drop i) = pt lg 7 L ∧ i ≤ L.length ∧ (a ∈ L ∨ a = 7) := hI
  obtain ⟨hx1, hi, ha⟩ := hI
  have ha7 : a ≤ 7 := by
    rcases ha with h | h
    · exact Nat.le_of_lt (hLo a h)
    · omega
  refine lv_iload hx hb dX2_timeOf_9 (lv_at hl 3 rfl) ?_
  refine lv_iload_n hx hb dX2_timeOf_11 rfl (lv_at hl 2 rfl) ?_
  refine zc_ge (tgt := 44) hx hb (by omega) (by omega) dX2_timeOf_12 (by decide) (fun c_1 => ?_) (fun c_1 => ?_)
  · refine lv_iload_n hx hb dX2_timeOf_44 rfl (lv_at hl 4 rfl) ?_
    exact zr_i hx hb hr hlocks (by rw [← hx1, show i = L.length by omega, List.drop_length]; rfl) dX2_timeOf_45
  · have hm : L.getD i 0 ∈ L := getD_mem (by omega)
    have hb7 := hLo _ hm
    refine lv_aload_n hx hb dX2_timeOf_15 rfl (lv_at hl 1 rfl) ?_
    refine lv_iload hx hb dX2_timeOf_16 (lv_at hl 3 rfl) ?_
    refine zk_SN_i (n := 2) (As := [.ref g, .int (nI (i))]) (rest := []) hx hb hml hts hown hZ hP (c_X4_at l D cA _ kg g 7 fg hkg i (by omega) (by omega)) ggX2_timeOf_X4_at (List.mem_of_getElem? (i := 28) rfl) (by decide +kernel) rfl ⟨rfl, rfl⟩ ⟨by decide +kernel, Nat.le_of_ble_eq_true rfl, Nat.le_of_ble_eq_true rfl⟩ hl.1 rfl (Nat.le_of_ble_eq_true rfl) ⟨Nat.zero_le _, Nat.zero_le _⟩ rfl dX2_timeOf_18 (fun r_2 hr_3 => ?_)
    obtain rfl := show r_2 = _ from hr_3
    refine zx_val (y := nI (L.getD i 0)) (hg i (by omega)) ?_
    refine lv_istore (lv' := [(6, .int (nI (L.getD i 0))), (0, .ref h0), (1, .ref g), (2, .int (nI (L.length))), (5, .int (nI (i))), (3, .int (nI (x))), (4, .int (nI (a)))]) hx hb dX2_timeOf_21 hl (by decide) rfl (fun ls hl => ?_)
    refine lv_iload_n hx hb dX2_timeOf_23 rfl (lv_at hl 5 rfl) ?_
    refine lv_aload_n hx hb dX2_timeOf_24 rfl (lv_at hl 1 rfl) ?_
    refine lv_iload hx hb dX2_timeOf_25 (lv_at hl 6 rfl) ?_
    refine lv_iload hx hb dX2_timeOf_27 (lv_at hl 0 rfl) ?_
    refine zk_V_i (n := 2) (As := [.int (nI (a)), .int (nI (L.getD i 0))]) (rest := [.int (nI (x))]) hx hb hml hts hown hZ hP (c_X2_leg l D cA _ k0 h0 oc an al ar ab ao hk kl fl hkl a (L.getD i 0) (by omega) (by omega)) gX2_timeOf_X2_leg rfl rfl ⟨rfl, rfl⟩ ⟨by decide +kernel, Nat.le_of_ble_eq_true rfl, Nat.le_of_ble_eq_true rfl⟩ hk rfl hl.1 rfl (Nat.le_of_ble_eq_true rfl) ⟨Nat.zero_le _, Nat.zero_le _⟩ rfl dX2_timeOf_29 (fun r_4 hr_5 => ?_)
    obtain rfl := show r_4 = _ from hr_5
    refine zx_val (y := nI (lg a (L.getD i 0))) (hlg a _ ha hm) ?_
    refine zo_add hx hb dX2_timeOf_32 ?_
    refine lv_istore_n (lv' := [(3, .int (nI (x + (lg a (L.getD i 0))))), (6, .int (nI (L.getD i 0))), (0, .ref h0), (1, .ref g), (2, .int (nI (L.length))), (5, .int (nI (i))), (4, .int (nI (a)))]) hx hb dX2_timeOf_33 rfl hl (by decide) rfl (fun ls hl => ?_)
    refine lv_iload hx hb dX2_timeOf_34 (lv_at hl 1 rfl) ?_
    refine lv_istore (lv' := [(4, .int (nI (L.getD i 0))), (3, .int (nI (x + (lg a (L.getD i 0))))), (6, .int (nI (L.getD i 0))), (0, .ref h0), (1, .ref g), (2, .int (nI (L.length))), (5, .int (nI (i)))]) hx hb dX2_timeOf_36 hl (by decide) rfl (fun ls hl => ?_)
    refine lv_iinc (v := nI (i + 1)) (lv' := [(5, .int (nI (i + 1))), (4, .int (nI (L.getD i 0))), (3, .int (nI (x + (lg a (L.getD i 0))))), (6, .int (nI (L.getD i 0))), (0, .ref h0), (1, .ref g), (2, .int (nI (L.length)))]) hx hb dX2_timeOf_38 hl (k := 6) rfl (zinc 1 _) (by decide) rfl (fun ls hl => ?_)
    refine lv_goto (tgt := 9) hx hb dX2_timeOf_41 (by decide) ?_
    exact ih9 (i + 1, x + (lg a (L.getD i 0)), L.getD i 0) ls (by show L.length - (i + 1) < L.length - i; omega) ⟨lv_sub hl [4, 5, 6, 0, 2, 1] rfl, by rw [drop_getD (by omega)] at hx1; simp only [pt] at hx1; dsimp only; omega, by omega, Or.inl hm⟩

set_option maxHeartbeats 4000000 in
set_option maxRecDepth 100000 in
theorem c_X2_bestJobAt (l : Launch) (D : va_G) (cA : Nat → ClassId) (ws : va_W) (k0 h0 oc an al ar ab ao : Nat) (hk : ws[k0]? = some (h0, zOrd oc an al ar ab ao)) (kn : Nat) (fn : Nat → Int32) (hkn : ws[kn]? = some (an, zInts cA 7 fn)) (kb : Nat) (fb : Nat → Int32) (hkb : ws[kb]? = some (ab, zInts cA 7 fb)) (i b : Nat) (hi : i < 7) (hb9 : fb i = nI b) (hb7 : b < 7) : Met l yX2_bestJobAt wsX2_bestJobAt ({ frames := 1, cells := 0, slots := 0, locals := 21 }) (va_Pc [.ref h0, .int (nI (i))] (zS D cA ws)) (vp_Si (fun r => r = fn b)) 0 0 zF := by
  refine zOpen (cc := cX2_bestJobAt) (maxL := 2) (ret := (some .int)) (own := RX2) (by decide) rfl rfl (Nat.le_of_ble_eq_true rfl) ?_
  intro p e s m below meth c ls hx hb hr hml hts hown hlocks hnm ⟨hZ, hP⟩ hl
  have iX2 : ∀ w ∈ wsX20, w ∈ wsX2_bestJobAt := by decide +kernel
  have hl : lv_has ls 2 [(0, .ref h0), (1, .int (nI (i)))] := hl
  refine lv_aload_n hx hb dX2_bestJobAt_0 rfl (lv_at hl 0 rfl) ?_
  refine va_get (D := D) (ci := 2) (v := .ref an) (C := RX2) (T := TX2) (N := 6) hx hb hts iX2 hown hZ.1 hP k0 hk rfl 1 (by decide) (hts (.fieldLink RX2 15 "TapeRobotics$Orders" "numbers" "[I") (by decide +kernel)) (fun _ h9 => h9) rfl dX2_bestJobAt_1 ?_
  refine lv_aload_n hx hb dX2_bestJobAt_4 rfl (lv_at hl 0 rfl) ?_
  refine va_get (D := D) (ci := 2) (v := .ref ab) (C := RX2) (T := TX2) (N := 6) hx hb hts iX2 hown hZ.1 hP k0 hk rfl 4 (by decide) (hts (.fieldLink RX2 25 "TapeRobotics$Orders" "best" "[I") (by decide +kernel)) (fun _ h9 => h9) rfl dX2_bestJobAt_5 ?_
  refine lv_iload_n hx hb dX2_bestJobAt_8 rfl (lv_at hl 1 rfl) ?_
  refine zk_SN_i (n := 2) (As := [.ref ab, .int (nI (i))]) (rest := [.ref an]) hx hb hml hts hown hZ hP (c_X4_at l D cA _ kb ab 7 fb hkb i (by omega) (by omega)) ggX2_bestJobAt_X4_at (List.mem_of_getElem? (i := 28) rfl) (by decide +kernel) rfl ⟨rfl, rfl⟩ ⟨by decide +kernel, Nat.le_of_ble_eq_true rfl, Nat.le_of_ble_eq_true rfl⟩ hl.1 rfl (Nat.le_of_ble_eq_true rfl) ⟨Nat.zero_le _, Nat.zero_le _⟩ rfl dX2_bestJobAt_9 (fun r_1 hr_2 => ?_)
  obtain rfl := show r_1 = _ from hr_2
  refine zx_val (y := nI (b)) (hb9) ?_
  refine zk_SN_i (n := 2) (As := [.ref an, .int (nI (b))]) (rest := []) hx hb hml hts hown hZ hP (c_X4_at l D cA _ kn an 7 fn hkn b (by omega) (by omega)) ggX2_bestJobAt_X4_at (List.mem_of_getElem? (i := 28) rfl) (by decide +kernel) rfl ⟨rfl, rfl⟩ ⟨by decide +kernel, Nat.le_of_ble_eq_true rfl, Nat.le_of_ble_eq_true rfl⟩ hl.1 rfl (Nat.le_of_ble_eq_true rfl) ⟨Nat.zero_le _, Nat.zero_le _⟩ rfl dX2_bestJobAt_12 (fun r_3 hr_4 => ?_)
  obtain rfl := show r_3 = _ from hr_4
  exact zr_i hx hb hr hlocks (rfl) dX2_bestJobAt_15

set_option maxHeartbeats 4000000 in
set_option maxRecDepth 100000 in
theorem c_X2_findBest (l : Launch) (D : va_G) (cA : Nat → ClassId) (sz : Nat) (ws : va_W) (k0 h0 oc an al ar ab ao : Nat) (hk : ws[k0]? = some (h0, zOrd oc an al ar ab ao)) (kl : Nat) (fl : Nat → Int32) (hkl : ws[kl]? = some (al, zInts cA 56 fl)) (kr : Nat) (fr : Nat → Int32) (hkr : ws[kr]? = some (ar, zInts cA 896 fr)) (kb : Nat) (fb : Nat → Int32) (hkb : ws[kb]? = some (ab, zInts cA 7 fb)) (nlr : kr ≠ kl) (nbl : kb ≠ kl) (nbr : kb ≠ kr) (hoc : oc ≤ 7) (lg : Nat → Nat → Nat) (hlg : ∀ a b, (a < oc ∨ a = 7) → b < oc → fl (a * 7 + b) = nI (lg a b)) (hB : ∀ a b, b < oc → lg a b ≤ 100000)  : Met l yX2_findBest wsX2_findBest ({ frames := 5, cells := 0, slots := 0, locals := 115 }) (va_Pc [.ref h0] (zM D cA (ws) sz)) (va_Qv (fun _ : (Nat → Int32) => True) (fun u => zB D (va_A (ws) sz) ((ws.set kr (ar, zInts cA 896 u)).set kb (ab, zInts cA 7 (colF fb (BO lg oc (np 0) 7))))) (va_A (ws) sz)) 0 0 (va_A (ws) sz) := by
  refine zOpen (cc := cX2_findBest) (maxL := 4) (ret := none) (own := RX2) (by decide) rfl rfl (Nat.le_of_ble_eq_true rfl) ?_
  intro p e s m below meth c ls hx hb hr hml hts hown hlocks hnm ⟨hZ, hP, hD0, hsz⟩ hl
  subst hsz
  have hD := hD0.self (sz := s.heap.size)
  generalize hAe : va_A (ws) s.heap.size = A at hD ⊢
  have hA : ∀ q : Nat, s.heap.size ≤ q → A q := fun q h => by rw [← hAe]; exact Or.inr h
  have hS : va_S A s.heap s.heap [] := va_S.rf
  have iX2 : ∀ w ∈ wsX20, w ∈ wsX2_findBest := by decide +kernel
  have hl : lv_has ls 4 [(0, .ref h0)] := hl
  have hM := pow7 hoc
  have hM0 : 0 < 2 ^ oc := Nat.pow_pos (by omega)
  have hBT : ∀ p a, BT lg oc p a ≤ 700000 := fun p a => Nat.le_trans (BT_le hB p a) (by omega)
  have hP : va_P D vwCl (ws.set kr (ar, zInts cA 896 fr)) s.heap := by rw [zset_self hkr]; exact hP
  have hD : va_D A (ws.set kr (ar, zInts cA 896 fr)) := by rw [zset_self hkr]; exact hD
  refine lv_iconst (v := nI (1)) hx hb dX2_findBest_0 (by decide) ?_
  refine lv_aload_n hx hb dX2_findBest_1 rfl (lv_at hl 0 rfl) ?_
  refine va_get (D := D) (ci := 2) (v := .int (nI (oc))) (C := RX2) (T := TX2) (N := 6) hx hb hts iX2 hown hZ.1 hP k0 (zset_n hk (zapo' hkr hk)) rfl 0 (by decide) (hts (.fieldLink RX2 9 "TapeRobotics$Orders" "count" "I") (by decide +kernel)) (fun _ h9 => h9) rfl dX2_findBest_2 ?_
  refine lv_ishl hx hb dX2_findBest_5 ?_
  refine zx_val (y := nI (2 ^ oc)) (zshl oc (by omega)) ?_
  refine lv_iconst (v := nI (1)) hx hb dX2_findBest_6 (by decide) ?_
  refine zo_sub hx hb (by omega) dX2_findBest_7 ?_
  refine lv_istore_n (lv' := [(1, .int (nI ((2 ^ oc) - 1))), (0, .ref h0)]) hx hb dX2_findBest_8 rfl hl (by decide) rfl (fun ls hl => ?_)
  refine z_loopW (α := Nat × (Nat → Int32)) (fun v => v.1) (fun v H locs ls => lv_has ls 4 [(0, .ref h0), (1, .int (nI (v.1)))] ∧ va_P D vwCl (ws.set kr (ar, zInts cA 896 v.2)) H ∧ va_D A (ws.set kr (ar, zInts cA 896 v.2)) ∧ va_S A s.heap H locs ∧ (∀ r, v.1 < r → r < 2 ^ oc → ∀ a, a < oc → v.2 (r * 7 + a) = nI (BT lg oc (np r) a)) ∧ v.1 < 2 ^ oc) (fun _ => []) ((2 ^ oc) - 1, fr) ⟨lv_sub hl [1, 0] rfl, hP, hD, hS, (fun r h1 h2 => by have h3 : 2 ^ oc - 1 < r := h1; omega), by show 2 ^ oc - 1 < 2 ^ oc; omega⟩ ?_
  intro v ih9 H locs ls hv
  obtain ⟨rd, R⟩ := v
  obtain ⟨hl, hP, hD, hS, hI⟩ := hv
  have hP : va_P D vwCl (ws.set kr (ar, zInts cA 896 R)) H := hP
  have hD : va_D A (ws.set kr (ar, zInts cA 896 R)) := hD
  have hl : lv_has ls 4 [(0, .ref h0), (1, .int (nI (rd)))] := hl
  have hI : (∀ r, rd < r → r < 2 ^ oc → ∀ a, a < oc → R (r * 7 + a) = nI (BT lg oc (np r) a)) ∧ rd < 2 ^ oc := hI
  obtain ⟨hR, hrd⟩ := hI
  have hrd7 : rd < 2 ^ 7 := by omega
  refine lv_iload_n hx hb dX2_findBest_9 rfl (lv_at hl 1 rfl) ?_
  refine zf_le (tgt := 54) hx hb (by omega) dX2_findBest_10 (by decide) (fun c_1 => ?_) (fun c_1 => ?_)
  · have hP : va_P D vwCl ((ws.set kr (ar, zInts cA 896 R)).set kb (ab, zInts cA 7 (colF fb []))) H := by rw [colF_0, zset_self (zset_n hkb (Ne.symm nbr))]; exact hP
    have hD : va_D A ((ws.set kr (ar, zInts cA 896 R)).set kb (ab, zInts cA 7 (colF fb []))) := by rw [colF_0, zset_self (zset_n hkb (Ne.symm nbr))]; exact hD
    clear hrd hrd7
    have hl := lv_sub (l' := [(0, .ref h0)]) hl [0] rfl
    have hR0 : ∀ r, 0 < r → r < 2 ^ oc → ∀ a, a < oc → R (r * 7 + a) = nI (BT lg oc (np r) a) := fun r h1 h2 a h3 => hR r (by omega) h2 a h3
    clear hR
    refine lv_iconst (v := nI (0)) hx hb dX2_findBest_54 (by decide) ?_
    refine lv_istore_n (lv' := [(1, .int (nI (0))), (0, .ref h0)]) hx hb dX2_findBest_55 rfl hl (by decide) rfl (fun ls hl => ?_)
    refine lv_bipush (v := nI (7)) hx hb dX2_findBest_56 (by decide) ?_
    refine lv_istore_n (lv' := [(2, .int (nI (7))), (1, .int (nI (0))), (0, .ref h0)]) hx hb dX2_findBest_58 rfl hl (by decide) rfl (fun ls hl => ?_)
    refine lv_iconst (v := nI (0)) hx hb dX2_findBest_59 (by decide) ?_
    refine lv_istore_n (lv' := [(3, .int (nI (0))), (2, .int (nI (7))), (1, .int (nI (0))), (0, .ref h0)]) hx hb dX2_findBest_60 rfl hl (by decide) rfl (fun ls hl => ?_)
    refine z_loopW (α := Nat × Nat × Nat × List Nat) (fun v => oc - v.1) (fun v H locs ls => lv_has ls 4 [(0, .ref h0), (3, .int (nI (v.1))), (1, .int (nI (v.2.1))), (2, .int (nI (v.2.2.1)))] ∧ va_P D vwCl ((ws.set kr (ar, zInts cA 896 R)).set kb (ab, zInts cA 7 (colF fb v.2.2.2))) H ∧ va_D A ((ws.set kr (ar, zInts cA 896 R)).set kb (ab, zInts cA 7 (colF fb v.2.2.2))) ∧ va_S A s.heap H locs ∧ BO lg oc (np 0) 7 = v.2.2.2 ++ BO lg oc (np v.2.1) v.2.2.1 ∧ v.2.2.2.length = v.1 ∧ (v.2.2.1 < oc ∨ v.2.2.1 = 7) ∧ v.2.1 < 2 ^ oc ∧ v.1 ≤ oc) (fun _ => []) (0, 0, 7, []) ⟨lv_sub hl [3, 0, 2, 1] rfl, hP, hD, hS, rfl, rfl, Or.inr rfl, hM0, Nat.zero_le _⟩ ?_
    intro v ih61 H locs ls hv
    obtain ⟨i, rd, la, pre⟩ := v
    obtain ⟨hl, hP, hD, hS, hI⟩ := hv
    have hP : va_P D vwCl ((ws.set kr (ar, zInts cA 896 R)).set kb (ab, zInts cA 7 (colF fb pre))) H := hP
    have hD : va_D A ((ws.set kr (ar, zInts cA 896 R)).set kb (ab, zInts cA 7 (colF fb pre))) := hD
    have hl : lv_has ls 4 [(0, .ref h0), (3, .int (nI (i))), (1, .int (nI (rd))), (2, .int (nI (la)))] := hl
    have hI : BO lg oc (np 0) 7 = pre ++ BO lg oc (np rd) la ∧ pre.length = i ∧ (la < oc ∨ la = 7) ∧ rd < 2 ^ oc ∧ i ≤ oc := hI
    obtain ⟨hbo, hpl, hla, hrd, hi⟩ := hI
    have hrd7 : rd < 2 ^ 7 := by omega
    have hla7 : la ≤ 7 := by omega
    have hcn : i + cnt (np rd) oc = oc := by
      have h1 := congrArg List.length hbo
      rw [List.length_append, BO_length, BO_length, np_0, cnt_all] at h1; omega
    have hR : ∀ r, rd < r → r < 2 ^ oc → ∀ a, a < oc → R (r * 7 + a) = nI (BT lg oc (np r) a) := fun r h1 h2 a h3 => hR0 r (by omega) h2 a h3
    refine lv_iload_n hx hb dX2_findBest_61 rfl (lv_at hl 1 rfl) ?_
    refine lv_aload_n hx hb dX2_findBest_62 rfl (lv_at hl 0 rfl) ?_
    refine va_get (D := D) (ci := 2) (v := .int (nI (oc))) (C := RX2) (T := TX2) (N := 6) hx hb hts iX2 hown hZ.1 hP k0 (zset_n (zset_n hk (zapo' hkr hk)) (zapo' hkb hk)) rfl 0 (by decide) (hts (.fieldLink RX2 9 "TapeRobotics$Orders" "count" "I") (by decide +kernel)) (fun _ h9 => h9) rfl dX2_findBest_63 ?_
    refine zc_ge (tgt := 97) hx hb (by omega) (by omega) dX2_findBest_66 (by decide) (fun c_2 => ?_) (fun c_2 => ?_)
    · exact zr_qv (S := (Nat → Int32)) (w1 := fun u => (ws.set kr (ar, zInts cA 896 u)).set kb (ab, zInts cA 7 (colF fb (BO lg oc (np 0) 7)))) R hx hb hr hlocks (trivial) hP hD hS (by rw [hbo, show BO lg oc (np rd) la = [] from List.length_eq_zero_iff.mp (by rw [BO_length]; omega), List.append_nil]) dX2_findBest_97
    · obtain ⟨b, hba⟩ : ∃ b, aminP (fun b => lg la b + BT lg oc (rem (np rd) b) b) (np rd) oc = some b := by
        rcases h9 : aminP (fun b => lg la b + BT lg oc (rem (np rd) b) b) (np rd) oc with _ | b
        · have := cnt_pos h9; omega
        · exact ⟨b, rfl⟩
      obtain ⟨hbm, -⟩ := aminP_mem oc b hba
      refine lv_aload_n hx hb dX2_findBest_69 rfl (lv_at hl 0 rfl) ?_
      refine lv_iload_n hx hb dX2_findBest_70 rfl (lv_at hl 2 rfl) ?_
      refine lv_iload_n hx hb dX2_findBest_71 rfl (lv_at hl 3 rfl) ?_
      refine zk_V_i (n := 2) (As := [.int (nI (rd)), .int (nI (la))]) (rest := []) hx hb hml hts hown hZ hP (c_X2_bestFollower l D cA _ k0 h0 oc an al ar ab ao (zset_n (zset_n hk (zapo' hkr hk)) (zapo' hkb hk)) kl fl (zset_n (zset_n hkl nlr) nbl) kr R (zset_n (zset_s hkr) nbr) rd la (by omega) (by omega) (by omega) (fun b => lg la b) (fun b => BT lg oc (rem (np rd) b) b) (fun b hb2 => hlg _ b hla hb2) (fun b hb2 hbit => by rw [← np_or']; exact hR _ (np_gt hbit) (Nat.or_lt_two_pow hrd (Nat.pow_lt_pow_right (by omega) hb2)) b hb2) (fun b hb2 _ => by have h1 := hB la b hb2; have h2 := hBT (rem (np rd) b) b; omega)) gX2_findBest_X2_bestFollower rfl rfl ⟨rfl, rfl⟩ ⟨by decide +kernel, Nat.le_of_ble_eq_true rfl, Nat.le_of_ble_eq_true rfl⟩ (zset_n (zset_n hk (zapo' hkr hk)) (zapo' hkb hk)) rfl hl.1 rfl (Nat.le_of_ble_eq_true rfl) ⟨Nat.zero_le _, Nat.zero_le _⟩ rfl dX2_findBest_72 (fun r_3 hr_4 => ?_)
      obtain rfl := show r_3 = _ from hr_4
      refine zx_val (y := nI (b)) (by rw [hba]; rfl) ?_
      refine lv_istore_n (lv' := [(2, .int (nI (b))), (0, .ref h0), (3, .int (nI (i))), (1, .int (nI (rd)))]) hx hb dX2_findBest_75 rfl hl (by decide) rfl (fun ls hl => ?_)
      refine lv_aload_n hx hb dX2_findBest_76 rfl (lv_at hl 1 rfl) ?_
      refine va_get (D := D) (ci := 2) (v := .ref ab) (C := RX2) (T := TX2) (N := 6) hx hb hts iX2 hown hZ.1 hP k0 (zset_n (zset_n hk (zapo' hkr hk)) (zapo' hkb hk)) rfl 4 (by decide) (hts (.fieldLink RX2 25 "TapeRobotics$Orders" "best" "[I") (by decide +kernel)) (fun _ h9 => h9) rfl dX2_findBest_77 ?_
      refine lv_iload_n hx hb dX2_findBest_80 rfl (lv_at hl 2 rfl) ?_
      refine lv_iload_n hx hb dX2_findBest_81 rfl (lv_at hl 0 rfl) ?_
      refine zw_SN_v (n := 3) (mc := 0) (ms := 0) (As := [.ref ab, .int (nI (i)), .int (nI (b))]) (rest := []) (w1 := fun _ : Unit => ((ws.set kr (ar, zInts cA 896 R)).set kb (ab, zInts cA 7 (colF fb pre))).set kb (ab, zInts cA 7 (upd (colF fb pre) i (nI (b))))) hx hb hml hts hown hZ hP hD hS hA (c_X4_put l D cA _ _ kb ab 7 (colF fb pre) (zset_s (zset_n hkb (Ne.symm nbr))) i (by omega) (by omega) (nI (b))) ggX2_findBest_X4_put (List.mem_of_getElem? (i := 31) rfl) (by decide +kernel) rfl ⟨rfl, rfl⟩ ⟨by decide +kernel, Nat.le_of_ble_eq_true rfl, Nat.le_of_ble_eq_true rfl⟩ hl.1 rfl (Nat.le_of_ble_eq_true rfl) ⟨Nat.le_of_ble_eq_true rfl, Nat.le_of_ble_eq_true rfl⟩ rfl dX2_findBest_82 (fun u_7 H locs hr_6 hP hD hS hz_7 => ?_)
      have hP : va_P D vwCl (((ws.set kr (ar, zInts cA 896 R)).set kb (ab, zInts cA 7 (colF fb pre))).set kb (ab, zInts cA 7 (upd (colF fb pre) i (nI (b))))) H := hP
      have hD : va_D A (((ws.set kr (ar, zInts cA 896 R)).set kb (ab, zInts cA 7 (colF fb pre))).set kb (ab, zInts cA 7 (upd (colF fb pre) i (nI (b))))) := hD
      rw [zset2, ← hpl, colF_y] at hP hD
      refine lv_iload_n hx hb dX2_findBest_85 rfl (lv_at hl 3 rfl) ?_
      refine lv_iconst (v := nI (1)) hx hb dX2_findBest_86 (by decide) ?_
      refine lv_iload_n hx hb dX2_findBest_87 rfl (lv_at hl 0 rfl) ?_
      refine lv_ishl hx hb dX2_findBest_88 ?_
      refine zx_val (y := nI (2 ^ b)) (zshl b (by omega)) ?_
      refine lv_ior hx hb dX2_findBest_89 ?_
      refine zx_val (y := nI (rd ||| 2 ^ b)) (zor _ _) ?_
      refine lv_istore_n (lv' := [(1, .int (nI (rd ||| 2 ^ b))), (2, .int (nI (b))), (0, .ref h0), (3, .int (nI (i)))]) hx hb dX2_findBest_90 rfl hl (by decide) rfl (fun ls hl => ?_)
      refine lv_iinc (v := nI (i + 1)) (lv' := [(3, .int (nI (i + 1))), (1, .int (nI (rd ||| 2 ^ b))), (2, .int (nI (b))), (0, .ref h0)]) hx hb dX2_findBest_91 hl (k := 3) rfl (zinc 1 _) (by decide) rfl (fun ls hl => ?_)
      refine lv_goto (tgt := 61) hx hb dX2_findBest_94 (by decide) ?_
      exact ih61 (i + 1, rd ||| 2 ^ b, b, (pre ++ [b])) H locs ls (by show oc - (i + 1) < oc - i; omega) ⟨lv_sub hl [3, 0, 1, 2] rfl, hP, hD, hS, by show _ = (pre ++ [b]) ++ BO lg oc (np (rd ||| 2 ^ b)) b; rw [hbo, (BT_some hba).2, np_or', List.append_assoc]; rfl, by show (pre ++ [b]).length = _; rw [List.length_append]; simp; omega, Or.inl hbm, Nat.or_lt_two_pow hrd (Nat.pow_lt_pow_right (by omega) hbm), by omega⟩
  · refine lv_iconst (v := nI (0)) hx hb dX2_findBest_13 (by decide) ?_
    refine lv_istore_n (lv' := [(2, .int (nI (0))), (0, .ref h0), (1, .int (nI (rd)))]) hx hb dX2_findBest_14 rfl hl (by decide) rfl (fun ls hl => ?_)
    refine z_loopW (α := Nat × (Nat → Int32)) (fun v => oc - v.1) (fun v H locs ls => lv_has ls 4 [(0, .ref h0), (1, .int (nI (rd))), (2, .int (nI (v.1)))] ∧ va_P D vwCl (ws.set kr (ar, zInts cA 896 v.2)) H ∧ va_D A (ws.set kr (ar, zInts cA 896 v.2)) ∧ va_S A s.heap H locs ∧ (∀ r, rd < r → r < 2 ^ oc → ∀ a, a < oc → v.2 (r * 7 + a) = nI (BT lg oc (np r) a)) ∧ (∀ a, a < v.1 → v.2 (rd * 7 + a) = nI (BT lg oc (np rd) a)) ∧ v.1 ≤ oc) (fun _ => []) (0, R) ⟨lv_sub hl [1, 2, 0] rfl, hP, hD, hS, hR, (fun a ha => absurd ha (Nat.not_lt_zero a)), Nat.zero_le _⟩ ?_
    intro v ih15 H locs ls hv
    obtain ⟨j, R⟩ := v
    obtain ⟨hl, hP, hD, hS, hI⟩ := hv
    have hP : va_P D vwCl (ws.set kr (ar, zInts cA 896 R)) H := hP
    have hD : va_D A (ws.set kr (ar, zInts cA 896 R)) := hD
    have hl : lv_has ls 4 [(0, .ref h0), (1, .int (nI (rd))), (2, .int (nI (j)))] := hl
    have hI : (∀ r, rd < r → r < 2 ^ oc → ∀ a, a < oc → R (r * 7 + a) = nI (BT lg oc (np r) a)) ∧ (∀ a, a < j → R (rd * 7 + a) = nI (BT lg oc (np rd) a)) ∧ j ≤ oc := hI
    obtain ⟨hR, hRj, hj⟩ := hI
    refine lv_iload_n hx hb dX2_findBest_15 rfl (lv_at hl 2 rfl) ?_
    refine lv_aload_n hx hb dX2_findBest_16 rfl (lv_at hl 0 rfl) ?_
    refine va_get (D := D) (ci := 2) (v := .int (nI (oc))) (C := RX2) (T := TX2) (N := 6) hx hb hts iX2 hown hZ.1 hP k0 (zset_n hk (zapo' hkr hk)) rfl 0 (by decide) (hts (.fieldLink RX2 9 "TapeRobotics$Orders" "count" "I") (by decide +kernel)) (fun _ h9 => h9) rfl dX2_findBest_17 ?_
    refine zc_ge (tgt := 48) hx hb (by omega) (by omega) dX2_findBest_20 (by decide) (fun c_8 => ?_) (fun c_8 => ?_)
    · refine lv_iinc (v := nI (rd - 1)) (lv' := [(1, .int (nI (rd - 1))), (0, .ref h0), (2, .int (nI (j)))]) hx hb dX2_findBest_48 hl (k := 1) rfl (zdec (by omega)) (by decide) rfl (fun ls hl => ?_)
      refine lv_goto (tgt := 9) hx hb dX2_findBest_51 (by decide) ?_
      exact ih9 (rd - 1, R) H locs ls (by show (rd - 1) < rd; omega) ⟨lv_sub hl [1, 0] rfl, hP, hD, hS, (fun r h1 h2 a h3 => by
              by_cases e9 : r = rd
              · rw [e9]; exact hRj a (by omega)
              · have h1 : rd - 1 < r := h1
                exact hR r (by omega) h2 a h3), by show rd - 1 < 2 ^ oc; omega⟩
    · have hx9 : rd * 7 + j < 896 := by omega
      refine lv_aload_n hx hb dX2_findBest_23 rfl (lv_at hl 0 rfl) ?_
      refine va_get (D := D) (ci := 2) (v := .ref ar) (C := RX2) (T := TX2) (N := 6) hx hb hts iX2 hown hZ.1 hP k0 (zset_n hk (zapo' hkr hk)) rfl 3 (by decide) (hts (.fieldLink RX2 22 "TapeRobotics$Orders" "rests" "[I") (by decide +kernel)) (fun _ h9 => h9) rfl dX2_findBest_24 ?_
      refine lv_iload_n hx hb dX2_findBest_27 rfl (lv_at hl 1 rfl) ?_
      refine lv_bipush (v := nI (7)) hx hb dX2_findBest_28 (by decide) ?_
      refine zo_mul hx hb dX2_findBest_30 ?_
      refine lv_iload_n hx hb dX2_findBest_31 rfl (lv_at hl 2 rfl) ?_
      refine zo_add hx hb dX2_findBest_32 ?_
      refine lv_aload_n hx hb dX2_findBest_33 rfl (lv_at hl 0 rfl) ?_
      refine lv_iload_n hx hb dX2_findBest_34 rfl (lv_at hl 1 rfl) ?_
      refine lv_iload_n hx hb dX2_findBest_35 rfl (lv_at hl 2 rfl) ?_
      refine zk_V_i (n := 2) (As := [.int (nI (rd)), .int (nI (j))]) (rest := [.int (nI ((rd * 7) + j)), .ref ar]) hx hb hml hts hown hZ hP (c_X2_restBehind l D cA _ k0 h0 oc an al ar ab ao (zset_n hk (zapo' hkr hk)) kl fl (zset_n hkl nlr) kr R (zset_s hkr) rd j (by omega) (by omega) (by omega) (fun b => lg j b) (fun b => BT lg oc (rem (np rd) b) b) (fun b hb2 => hlg _ b (Or.inl (by omega)) hb2) (fun b hb2 hbit => by rw [← np_or']; exact hR _ (np_gt hbit) (Nat.or_lt_two_pow hrd (Nat.pow_lt_pow_right (by omega) hb2)) b hb2) (fun b hb2 _ => by have h1 := hB j b hb2; have h2 := hBT (rem (np rd) b) b; omega)) gX2_findBest_X2_restBehind rfl rfl ⟨rfl, rfl⟩ ⟨by decide +kernel, Nat.le_of_ble_eq_true rfl, Nat.le_of_ble_eq_true rfl⟩ (zset_n hk (zapo' hkr hk)) rfl hl.1 rfl (Nat.le_of_ble_eq_true rfl) ⟨Nat.zero_le _, Nat.zero_le _⟩ rfl dX2_findBest_36 (fun r_9 hr_10 => ?_)
      obtain rfl := show r_9 = _ from hr_10
      refine zx_val (y := nI (BT lg oc (np rd) j)) (congrArg nI BT_eq.symm) ?_
      refine zw_SN_v (n := 3) (mc := 0) (ms := 0) (As := [.ref ar, .int (nI ((rd * 7) + j)), .int (nI (BT lg oc (np rd) j))]) (rest := []) (w1 := fun _ : Unit => (ws.set kr (ar, zInts cA 896 R)).set kr (ar, zInts cA 896 (upd R ((rd * 7) + j) (nI (BT lg oc (np rd) j))))) hx hb hml hts hown hZ hP hD hS hA (c_X4_put l D cA _ _ kr ar 896 R (zset_s hkr) ((rd * 7) + j) (by omega) (by omega) (nI (BT lg oc (np rd) j))) ggX2_findBest_X4_put (List.mem_of_getElem? (i := 31) rfl) (by decide +kernel) rfl ⟨rfl, rfl⟩ ⟨by decide +kernel, Nat.le_of_ble_eq_true rfl, Nat.le_of_ble_eq_true rfl⟩ hl.1 rfl (Nat.le_of_ble_eq_true rfl) ⟨Nat.le_of_ble_eq_true rfl, Nat.le_of_ble_eq_true rfl⟩ rfl dX2_findBest_39 (fun u_13 H locs hr_12 hP hD hS hz_13 => ?_)
      have hP : va_P D vwCl ((ws.set kr (ar, zInts cA 896 R)).set kr (ar, zInts cA 896 (upd R ((rd * 7) + j) (nI (BT lg oc (np rd) j))))) H := hP
      have hD : va_D A ((ws.set kr (ar, zInts cA 896 R)).set kr (ar, zInts cA 896 (upd R ((rd * 7) + j) (nI (BT lg oc (np rd) j))))) := hD
      rw [zset2] at hP hD
      refine lv_iinc (v := nI (j + 1)) (lv' := [(2, .int (nI (j + 1))), (0, .ref h0), (1, .int (nI (rd)))]) hx hb dX2_findBest_42 hl (k := 2) rfl (zinc 1 _) (by decide) rfl (fun ls hl => ?_)
      refine lv_goto (tgt := 15) hx hb dX2_findBest_45 (by decide) ?_
      exact ih15 (j + 1, (upd R (rd * 7 + j) (nI (BT lg oc (np rd) j)))) H locs ls (by show oc - (j + 1) < oc - j; omega) ⟨lv_sub hl [1, 2, 0] rfl, hP, hD, hS, (fun r h1 h2 a h3 => by show upd R (rd * 7 + j) _ (r * 7 + a) = _; rw [pk_un (by omega)]; exact hR r h1 h2 a h3), (fun a ha => by
            show upd R (rd * 7 + j) _ (rd * 7 + a) = _
            by_cases e9 : a = j
            · rw [e9, pk_us]
            · rw [pk_un (by omega)]; exact hRj a (by omega)), by omega⟩
