set_option maxHeartbeats 4000000 in
set_option maxRecDepth 100000 in
theorem c_X2_timeByTrying (l : Launch) (D : va_G) (cA : Nat → ClassId) (sz : Nat) (ws : va_W) (k0 h0 oc an al ar ab ao : Nat) (hk : ws[k0]? = some (h0, zOrd oc an al ar ab ao)) (kl : Nat) (fl : Nat → Int32) (hkl : ws[kl]? = some (al, zInts cA 56 fl)) (ko : Nat) (fo : Nat → Int32) (hko : ws[ko]? = some (ao, zInts cA 7 fo)) (nol : ko ≠ kl) (hoc : oc ≤ 7) (lg : Nat → Nat → Nat) (hlg : ∀ a b, (a < oc ∨ a = 7) → b < oc → fl (a * 7 + b) = nI (lg a b)) (hB : ∀ a b, lg a b ≤ 100000)  : Met l yX2_timeByTrying wsX2_timeByTrying ({ frames := 3, cells := 0, slots := 0, locals := 69 }) (va_Pc [.ref h0] (zM D cA (ws) sz)) (va_Qi (fun (r : Int32) (u : List Nat) => r = nI (BT lg oc (np 0) 7)) (fun u => zB D (va_A (ws) sz) (ws.set ko (ao, zInts cA 7 (colF fo u)))) (va_A (ws) sz)) 0 0 (va_A (ws) sz) := by
  refine zOpen (cc := cX2_timeByTrying) (maxL := 3) (ret := (some .int)) (own := RX2) (by decide) rfl rfl (Nat.le_of_ble_eq_true rfl) ?_
  intro p e s m below meth c ls hx hb hr hml hts hown hlocks hnm ⟨hZ, hP, hD0, hsz⟩ hl
  subst hsz
  have hD := hD0.self (sz := s.heap.size)
  generalize hAe : va_A (ws) s.heap.size = A at hD ⊢
  have hA : ∀ q : Nat, s.heap.size ≤ q → A q := fun q h => by rw [← hAe]; exact Or.inr h
  have hS : va_S A s.heap s.heap [] := va_S.rf
  have iX2 : ∀ w ∈ wsX20, w ∈ wsX2_timeByTrying := by decide +kernel
  have hl : lv_has ls 3 [(0, .ref h0)] := hl
  have hP : va_P D vwCl (ws.set ko (ao, zInts cA 7 (colF fo (List.range 0)))) s.heap := by rw [show List.range 0 = [] from rfl, colF_0, zset_self hko]; exact hP
  have hD : va_D A (ws.set ko (ao, zInts cA 7 (colF fo (List.range 0)))) := by rw [show List.range 0 = [] from rfl, colF_0, zset_self hko]; exact hD
  have hrl : (List.range oc).length ≤ 7 := by rw [List.length_range]; exact hoc
  obtain ⟨hchk, hl5, hhd, hlx⟩ := lexOk_use hoc
  have hpt : ∀ L : List Nat, L.length ≤ 7 → pt lg 7 L ≤ 700000 := fun L hL => Nat.le_trans (pt_le hB L 7) (by omega)
  obtain ⟨rs0, hrs0⟩ : ∃ r, lexL oc (List.range oc) = [] ++ List.range oc :: r := by
    rcases h9 : lexL oc (List.range oc) with _ | ⟨a, r⟩
    · rw [h9] at hhd; cases hhd
    · rw [h9] at hhd; exact ⟨r, by rw [show a = List.range oc from Option.some.inj hhd]; rfl⟩
  refine lv_iconst (v := nI (0)) hx hb dX2_timeByTrying_0 (by decide) ?_
  refine lv_istore_n (lv' := [(1, .int (nI (0))), (0, .ref h0)]) hx hb dX2_timeByTrying_1 rfl hl (by decide) rfl (fun ls hl => ?_)
  refine z_loopW (α := Nat) (fun v => oc - v) (fun v H locs ls => lv_has ls 3 [(0, .ref h0), (1, .int (nI (v)))] ∧ va_P D vwCl (ws.set ko (ao, zInts cA 7 (colF fo (List.range v)))) H ∧ va_D A (ws.set ko (ao, zInts cA 7 (colF fo (List.range v)))) ∧ va_S A s.heap H locs ∧ v ≤ oc) (fun _ => []) (0) ⟨lv_sub hl [1, 0] rfl, hP, hD, hS, Nat.zero_le _⟩ ?_
  intro v ih2 H locs ls hv
  obtain ⟨k, rfl⟩ : ∃ z, z = v := ⟨_, rfl⟩
  obtain ⟨hl, hP, hD, hS, hI⟩ := hv
  have hP : va_P D vwCl (ws.set ko (ao, zInts cA 7 (colF fo (List.range k)))) H := hP
  have hD : va_D A (ws.set ko (ao, zInts cA 7 (colF fo (List.range k)))) := hD
  have hl : lv_has ls 3 [(0, .ref h0), (1, .int (nI (k)))] := hl
  have hI : k ≤ oc := hI
  have hk9 := hI
  refine lv_iload_n hx hb dX2_timeByTrying_2 rfl (lv_at hl 1 rfl) ?_
  refine lv_aload_n hx hb dX2_timeByTrying_3 rfl (lv_at hl 0 rfl) ?_
  refine va_get (D := D) (ci := 2) (v := .int (nI (oc))) (C := RX2) (T := TX2) (N := 6) hx hb hts iX2 hown hZ.1 hP k0 (zset_n hk (zapo' hko hk)) rfl 0 (by decide) (hts (.fieldLink RX2 9 "TapeRobotics$Orders" "count" "I") (by decide +kernel)) (fun _ h9 => h9) rfl dX2_timeByTrying_4 ?_
  refine zc_ge (tgt := 25) hx hb (by omega) (by omega) dX2_timeByTrying_7 (by decide) (fun c_1 => ?_) (fun c_1 => ?_)
  · have hke : k = oc := by omega
    rw [hke] at hP hD
    refine lv_aload_n hx hb dX2_timeByTrying_25 rfl (lv_at hl 0 rfl) ?_
    refine lv_aload_n hx hb dX2_timeByTrying_26 rfl (lv_at hl 0 rfl) ?_
    refine va_get (D := D) (ci := 2) (v := .ref ao) (C := RX2) (T := TX2) (N := 6) hx hb hts iX2 hown hZ.1 hP k0 (zset_n hk (zapo' hko hk)) rfl 5 (by decide) (hts (.fieldLink RX2 28 "TapeRobotics$Orders" "order" "[I") (by decide +kernel)) (fun _ h9 => h9) rfl dX2_timeByTrying_27 ?_
    refine lv_aload_n hx hb dX2_timeByTrying_30 rfl (lv_at hl 0 rfl) ?_
    refine va_get (D := D) (ci := 2) (v := .int (nI (oc))) (C := RX2) (T := TX2) (N := 6) hx hb hts iX2 hown hZ.1 hP k0 (zset_n hk (zapo' hko hk)) rfl 0 (by decide) (hts (.fieldLink RX2 9 "TapeRobotics$Orders" "count" "I") (by decide +kernel)) (fun _ h9 => h9) rfl dX2_timeByTrying_31 ?_
    refine zx_val (y := nI ((List.range oc).length)) (by rw [List.length_range]) ?_
    refine zk_V_i (n := 2) (As := [.ref ao, .int (nI ((List.range oc).length))]) (rest := []) hx hb hml hts hown hZ hP (c_X2_timeOf l D cA _ k0 h0 oc an al ar ab ao (zset_n hk (zapo' hko hk)) kl fl (zset_n hkl nol) ko ao (colF fo (List.range oc)) (zset_s hko) (List.range oc) (by omega) (fun i hi => colF_in hi) (fun x hx => Nat.lt_of_lt_of_le ((fun x hx => List.mem_range.mp hx) x hx) hoc) lg (fun a b h1 h2 => hlg a b (h1.elim (fun q => Or.inl ((fun x hx => List.mem_range.mp hx) a q)) Or.inr) ((fun x hx => List.mem_range.mp hx) b h2))) gX2_timeByTrying_X2_timeOf rfl rfl ⟨rfl, rfl⟩ ⟨by decide +kernel, Nat.le_of_ble_eq_true rfl, Nat.le_of_ble_eq_true rfl⟩ (zset_n hk (zapo' hko hk)) rfl hl.1 rfl (Nat.le_of_ble_eq_true rfl) ⟨Nat.zero_le _, Nat.zero_le _⟩ rfl dX2_timeByTrying_34 (fun r_2 hr_3 => ?_)
    obtain rfl := show r_2 = _ from hr_3
    refine lv_istore_n (lv' := [(1, .int (nI (pt lg 7 (List.range oc)))), (0, .ref h0)]) hx hb dX2_timeByTrying_37 rfl hl (by decide) rfl (fun ls hl => ?_)
    refine lv_iconst (v := nI (1)) hx hb dX2_timeByTrying_38 (by decide) ?_
    refine lv_istore_n (lv' := [(2, .int (nI (1))), (1, .int (nI (pt lg 7 (List.range oc)))), (0, .ref h0)]) hx hb dX2_timeByTrying_39 rfl hl (by decide) rfl (fun ls hl => ?_)
    refine z_loopW (α := Nat × Nat × List Nat × List (List Nat) × List (List Nat)) (fun v => 5041 - v.1) (fun v H locs ls => lv_has ls 3 [(0, .ref h0), (2, .int (nI (v.1))), (1, .int (nI (v.2.1)))] ∧ va_P D vwCl (ws.set ko (ao, zInts cA 7 (colF fo v.2.2.1))) H ∧ va_D A (ws.set ko (ao, zInts cA 7 (colF fo v.2.2.1))) ∧ va_S A s.heap H locs ∧ lexL oc (List.range oc) = v.2.2.2.1 ++ v.2.2.1 :: v.2.2.2.2 ∧ v.2.2.2.1.length + 1 = v.1 ∧ least lg (v.2.2.2.1 ++ [v.2.2.1]) v.2.1) (fun _ => []) (1, pt lg 7 (List.range oc), (List.range oc), [], rs0) ⟨lv_sub hl [2, 0, 1] rfl, hP, hD, hS, hrs0, rfl, least_1 _⟩ ?_
    intro v ih40 H locs ls hv
    obtain ⟨tr, x, lst, dn, rs⟩ := v
    obtain ⟨hl, hP, hD, hS, hI⟩ := hv
    have hP : va_P D vwCl (ws.set ko (ao, zInts cA 7 (colF fo lst))) H := hP
    have hD : va_D A (ws.set ko (ao, zInts cA 7 (colF fo lst))) := hD
    have hl : lv_has ls 3 [(0, .ref h0), (2, .int (nI (tr))), (1, .int (nI (x)))] := hl
    have hI : lexL oc (List.range oc) = dn ++ lst :: rs ∧ dn.length + 1 = tr ∧ least lg (dn ++ [lst]) x := hI
    obtain ⟨hall, htr, hls⟩ := hI
    have hmL := hlx lst (by rw [hall]; exact List.mem_append_right _ List.mem_cons_self)
    have hlen := hmL.1
    have hmem := hmL.2
    have htr2 : tr ≤ 5040 := by
      have h9 := hl5
      rw [hall, List.length_append, List.length_cons] at h9; omega
    have hx7 : x ≤ 700000 := by
      have h9 := hls.1 lst (List.mem_append_right _ List.mem_cons_self)
      have h8 := hpt lst (by omega)
      omega
    refine lv_iload_n hx hb dX2_timeByTrying_40 rfl (lv_at hl 1 rfl) ?_
    refine lv_sipush (v := nI (5040)) hx hb dX2_timeByTrying_41 (by decide) ?_
    refine zc_ge (tgt := 77) hx hb (by omega) (by omega) dX2_timeByTrying_44 (by decide) (fun c_4 => ?_) (fun c_4 => ?_)
    · have hrs2 : rs = [] := by
        first
        | exact hrs
        | (rcases rs with _ | ⟨r9, rs9⟩
           · rfl
           · have h9 := hl5
             rw [hall, List.length_append, List.length_cons, List.length_cons] at h9; omega)
      have hfin : x = BT lg oc (np 0) 7 := least_all (by rw [hall, hrs2]; exact hls)
      refine lv_iload_n hx hb dX2_timeByTrying_77 rfl (lv_at hl 2 rfl) ?_
      exact zr_qi (S := List Nat) (w1 := fun u => ws.set ko (ao, zInts cA 7 (colF fo u))) lst hx hb hr hlocks (by rw [hfin]) hP hD hS (rfl) dX2_timeByTrying_78
    · rcases had : adv oc lst with _ | nx
      · have hrs := chk_none (d := dn) (by rw [← hall]; exact hchk) had
        refine lv_aload_n hx hb dX2_timeByTrying_47 rfl (lv_at hl 0 rfl) ?_
        refine zw_V_i (n := 0) (mc := 0) (ms := 0) (As := []) (rest := []) (w1 := fun _ : Unit => (ws.set ko (ao, zInts cA 7 (colF fo lst))).set ko (ao, zInts cA 7 (colF fo ((adv oc lst).getD lst)))) hx hb hml hts hown hZ hP hD hS hA (c_X2_advanceOrder l D cA _ _ k0 h0 oc an al ar ab ao (zset_n hk (zapo' hko hk)) ko fo lst (zset_s hko) hoc hlen hmem) gX2_timeByTrying_X2_advanceOrder rfl rfl ⟨rfl, rfl⟩ ⟨by decide +kernel, Nat.le_of_ble_eq_true rfl, Nat.le_of_ble_eq_true rfl⟩ (zset_n hk (zapo' hko hk)) rfl hl.1 rfl (Nat.le_of_ble_eq_true rfl) ⟨Nat.le_of_ble_eq_true rfl, Nat.le_of_ble_eq_true rfl⟩ rfl dX2_timeByTrying_48 (fun r_5 u_7 H locs hr_6 hP hD hS hz_7 => ?_)
        obtain rfl := show r_5 = _ from hr_6
        have hP : va_P D vwCl ((ws.set ko (ao, zInts cA 7 (colF fo lst))).set ko (ao, zInts cA 7 (colF fo ((adv oc lst).getD lst)))) H := hP
        have hD : va_D A ((ws.set ko (ao, zInts cA 7 (colF fo lst))).set ko (ao, zInts cA 7 (colF fo ((adv oc lst).getD lst)))) := hD
        rw [zset2, had] at hP hD
        have hP : va_P D vwCl (ws.set ko (ao, zInts cA 7 (colF fo lst))) H := hP
        have hD : va_D A (ws.set ko (ao, zInts cA 7 (colF fo lst))) := hD
        refine zx_val (y := bI (false)) (by rw [had]; rfl) ?_
        refine zb_eq (tgt := 77) hx hb dX2_timeByTrying_51 (by decide) (fun c_8 => ?_) (fun c_8 => Bool.noConfusion c_8)
        have hrs2 : rs = [] := by
          first
          | exact hrs
          | (rcases rs with _ | ⟨r9, rs9⟩
             · rfl
             · have h9 := hl5
               rw [hall, List.length_append, List.length_cons, List.length_cons] at h9; omega)
        have hfin : x = BT lg oc (np 0) 7 := least_all (by rw [hall, hrs2]; exact hls)
        refine lv_iload_n hx hb dX2_timeByTrying_77 rfl (lv_at hl 2 rfl) ?_
        exact zr_qi (S := List Nat) (w1 := fun u => ws.set ko (ao, zInts cA 7 (colF fo u))) lst hx hb hr hlocks (by rw [hfin]) hP hD hS (rfl) dX2_timeByTrying_78
      · obtain ⟨r2, hrs⟩ := chk_some (d := dn) (by rw [← hall]; exact hchk) had
        rw [hrs] at hall
        have hmn := hlx nx (by rw [hall]; exact List.mem_append_right _ (List.mem_cons_of_mem _ List.mem_cons_self))
        have hlnx := hmn.1
        have hmnx := hmn.2
        have hptn := hpt nx (by omega)
        refine lv_aload_n hx hb dX2_timeByTrying_47 rfl (lv_at hl 0 rfl) ?_
        refine zw_V_i (n := 0) (mc := 0) (ms := 0) (As := []) (rest := []) (w1 := fun _ : Unit => (ws.set ko (ao, zInts cA 7 (colF fo lst))).set ko (ao, zInts cA 7 (colF fo ((adv oc lst).getD lst)))) hx hb hml hts hown hZ hP hD hS hA (c_X2_advanceOrder l D cA _ _ k0 h0 oc an al ar ab ao (zset_n hk (zapo' hko hk)) ko fo lst (zset_s hko) hoc hlen hmem) gX2_timeByTrying_X2_advanceOrder rfl rfl ⟨rfl, rfl⟩ ⟨by decide +kernel, Nat.le_of_ble_eq_true rfl, Nat.le_of_ble_eq_true rfl⟩ (zset_n hk (zapo' hko hk)) rfl hl.1 rfl (Nat.le_of_ble_eq_true rfl) ⟨Nat.le_of_ble_eq_true rfl, Nat.le_of_ble_eq_true rfl⟩ rfl dX2_timeByTrying_48 (fun r_9 u_11 H locs hr_10 hP hD hS hz_11 => ?_)
        obtain rfl := show r_9 = _ from hr_10
        have hP : va_P D vwCl ((ws.set ko (ao, zInts cA 7 (colF fo lst))).set ko (ao, zInts cA 7 (colF fo ((adv oc lst).getD lst)))) H := hP
        have hD : va_D A ((ws.set ko (ao, zInts cA 7 (colF fo lst))).set ko (ao, zInts cA 7 (colF fo ((adv oc lst).getD lst)))) := hD
        rw [zset2, had] at hP hD
        have hP : va_P D vwCl (ws.set ko (ao, zInts cA 7 (colF fo nx))) H := hP
        have hD : va_D A (ws.set ko (ao, zInts cA 7 (colF fo nx))) := hD
        refine zx_val (y := bI (true)) (by rw [had]; rfl) ?_
        refine zb_eq (tgt := 77) hx hb dX2_timeByTrying_51 (by decide) (fun c_12 => Bool.noConfusion c_12) (fun c_12 => ?_)
        refine lv_iload_n hx hb dX2_timeByTrying_54 rfl (lv_at hl 2 rfl) ?_
        refine lv_aload_n hx hb dX2_timeByTrying_55 rfl (lv_at hl 0 rfl) ?_
        refine lv_aload_n hx hb dX2_timeByTrying_56 rfl (lv_at hl 0 rfl) ?_
        refine va_get (D := D) (ci := 2) (v := .ref ao) (C := RX2) (T := TX2) (N := 6) hx hb hts iX2 hown hZ.1 hP k0 (zset_n hk (zapo' hko hk)) rfl 5 (by decide) (hts (.fieldLink RX2 28 "TapeRobotics$Orders" "order" "[I") (by decide +kernel)) (fun _ h9 => h9) rfl dX2_timeByTrying_57 ?_
        refine lv_aload_n hx hb dX2_timeByTrying_60 rfl (lv_at hl 0 rfl) ?_
        refine va_get (D := D) (ci := 2) (v := .int (nI (oc))) (C := RX2) (T := TX2) (N := 6) hx hb hts iX2 hown hZ.1 hP k0 (zset_n hk (zapo' hko hk)) rfl 0 (by decide) (hts (.fieldLink RX2 9 "TapeRobotics$Orders" "count" "I") (by decide +kernel)) (fun _ h9 => h9) rfl dX2_timeByTrying_61 ?_
        refine zx_val (y := nI (nx.length)) (by rw [hlnx]) ?_
        refine zk_V_i (n := 2) (As := [.ref ao, .int (nI (nx.length))]) (rest := [.int (nI (x))]) hx hb hml hts hown hZ hP (c_X2_timeOf l D cA _ k0 h0 oc an al ar ab ao (zset_n hk (zapo' hko hk)) kl fl (zset_n hkl nol) ko ao (colF fo nx) (zset_s hko) nx (by omega) (fun i hi => colF_in hi) (fun x hx => Nat.lt_of_lt_of_le (hmnx x hx) hoc) lg (fun a b h1 h2 => hlg a b (h1.elim (fun q => Or.inl (hmnx a q)) Or.inr) (hmnx b h2))) gX2_timeByTrying_X2_timeOf rfl rfl ⟨rfl, rfl⟩ ⟨by decide +kernel, Nat.le_of_ble_eq_true rfl, Nat.le_of_ble_eq_true rfl⟩ (zset_n hk (zapo' hko hk)) rfl hl.1 rfl (Nat.le_of_ble_eq_true rfl) ⟨Nat.zero_le _, Nat.zero_le _⟩ rfl dX2_timeByTrying_64 (fun r_13 hr_14 => ?_)
        obtain rfl := show r_13 = _ from hr_14
        refine va_mmin hx hb (hml.trans hl.1.symm) hown (hts (.methodLink RX2 87 Lib.Math.min.name) (by decide +kernel)) (hts (.static Lib.Math.min.name) (by decide +kernel)) (hts (.initialized "java/lang/Math") (by decide +kernel)) (hts (.code Lib.Math.min.name Lib.Math.min.code 2 (some .int)) (by decide +kernel)) (Nat.le_of_ble_eq_true rfl) (Nat.le_of_ble_eq_true rfl) (Nat.le_of_ble_eq_true rfl) (Nat.le_of_ble_eq_true rfl) dX2_timeByTrying_67 ?_
        refine zx_val (zm_min (by omega) (by omega)) ?_
        refine lv_istore_n (lv' := [(1, .int (nI (min x (pt lg 7 nx)))), (0, .ref h0), (2, .int (nI (tr)))]) hx hb dX2_timeByTrying_70 rfl hl (by decide) rfl (fun ls hl => ?_)
        refine lv_iinc (v := nI (tr + 1)) (lv' := [(2, .int (nI (tr + 1))), (1, .int (nI (min x (pt lg 7 nx)))), (0, .ref h0)]) hx hb dX2_timeByTrying_71 hl (k := 2) rfl (zinc 1 _) (by decide) rfl (fun ls hl => ?_)
        refine lv_goto (tgt := 40) hx hb dX2_timeByTrying_74 (by decide) ?_
        exact ih40 (tr + 1, min x (pt lg 7 nx), nx, (dn ++ [lst]), r2) H locs ls (by first | omega | (dsimp only; omega)) ⟨lv_sub hl [2, 0, 1] rfl, hP, hD, hS, by rw [hall, List.append_assoc]; rfl, by rw [List.length_append]; show dn.length + 1 + 1 = _; omega, least_snoc hls nx⟩
  · refine lv_aload_n hx hb dX2_timeByTrying_10 rfl (lv_at hl 0 rfl) ?_
    refine va_get (D := D) (ci := 2) (v := .ref ao) (C := RX2) (T := TX2) (N := 6) hx hb hts iX2 hown hZ.1 hP k0 (zset_n hk (zapo' hko hk)) rfl 5 (by decide) (hts (.fieldLink RX2 28 "TapeRobotics$Orders" "order" "[I") (by decide +kernel)) (fun _ h9 => h9) rfl dX2_timeByTrying_11 ?_
    refine lv_iload_n hx hb dX2_timeByTrying_14 rfl (lv_at hl 1 rfl) ?_
    refine lv_iload_n hx hb dX2_timeByTrying_15 rfl (lv_at hl 1 rfl) ?_
    refine zw_SN_v (n := 3) (mc := 0) (ms := 0) (As := [.ref ao, .int (nI (k)), .int (nI (k))]) (rest := []) (w1 := fun _ : Unit => (ws.set ko (ao, zInts cA 7 (colF fo (List.range k)))).set ko (ao, zInts cA 7 (upd (colF fo (List.range k)) k (nI (k))))) hx hb hml hts hown hZ hP hD hS hA (c_X4_put l D cA _ _ ko ao 7 (colF fo (List.range k)) (zset_s hko) k (by omega) (by omega) (nI (k))) ggX2_timeByTrying_X4_put (List.mem_of_getElem? (i := 31) rfl) (by decide +kernel) rfl ⟨rfl, rfl⟩ ⟨by decide +kernel, Nat.le_of_ble_eq_true rfl, Nat.le_of_ble_eq_true rfl⟩ hl.1 rfl (Nat.le_of_ble_eq_true rfl) ⟨Nat.le_of_ble_eq_true rfl, Nat.le_of_ble_eq_true rfl⟩ rfl dX2_timeByTrying_16 (fun u_17 H locs hr_16 hP hD hS hz_17 => ?_)
    have hP : va_P D vwCl ((ws.set ko (ao, zInts cA 7 (colF fo (List.range k)))).set ko (ao, zInts cA 7 (upd (colF fo (List.range k)) k (nI (k))))) H := hP
    have hD : va_D A ((ws.set ko (ao, zInts cA 7 (colF fo (List.range k)))).set ko (ao, zInts cA 7 (upd (colF fo (List.range k)) k (nI (k))))) := hD
    rw [zset2, colF_y' List.length_range, ← List.range_succ] at hP hD
    refine lv_iinc (v := nI (k + 1)) (lv' := [(1, .int (nI (k + 1))), (0, .ref h0)]) hx hb dX2_timeByTrying_19 hl (k := 1) rfl (zinc 1 _) (by decide) rfl (fun ls hl => ?_)
    refine lv_goto (tgt := 2) hx hb dX2_timeByTrying_22 (by decide) ?_
    exact ih2 (k + 1) H locs ls (by first | omega | (dsimp only; omega)) ⟨lv_sub hl [1, 0] rfl, hP, hD, hS, by omega⟩
