set_option maxHeartbeats 4000000 in
set_option maxRecDepth 100000 in
theorem c_X4_job (l : Launch) (hlt : l.stackTraces = false) (D : va_G) (cA : Nat → ClassId) (sz : Nat) (ws : va_W) (ad : Nat → Nat) (T : Nat → Nat) (Bd : Nat → Nat) (E : Nat → Nat) (PT : Nat → Nat) (PB : Nat → Nat) (PE : Nat → Nat) (n : Nat) (tr : Nat → Nat) (le : Nat → Nat) (sl : Nat → Nat) (mo : Nat → Option Nat) (la : Nat → Bool) (fc : Nat → Nat) (bo : Nat → Nat → Nat) (nd : Nat) (mk : Nat → Nat) (ck : Nat → Int32) (ct : Nat → Nat) (hd : Nat → Option Nat) (pq : Nat → Int32) (nj : Nat) (fw : Nat → Int32) (jf : Nat → Nat) (dl : Nat → Nat) (dn : Nat) (oc : Nat) (s8 : Nat → Int32) (s9 : Nat → Int32) (s10 : Nat → Int32) (s11 : Nat → Int32) (s12 : Nat → Int32) (hL : zL cA ws ad T Bd E PT PB PE n tr le sl mo la fc bo nd mk ck ct hd pq nj fw jf dl dn oc s8 s9 s10 s11 s12) (hI : zI n tr le sl mo fc bo nd mk ct hd pq nj fw jf dl) (v0 : Int32) (v1 : Int32) (v2 : Int32) : vx_Met l yX4_job wsX4_job ({ frames := 7, cells := 3, slots := 18, locals := 118 }) (va_Pc [.ref (ad 0), .int (v0), .int (v1), .int (v2)] (zMX D cA (ws) sz)) (va_Qi (fun (r : Int32) (u : Nat × Nat × Nat × va_W) => u.1 < n ∧ v0 = nI u.1 ∧ u.2.1 < fc u.1 ∧ v1 = nI u.2.1 ∧ u.2.2.1 ≤ 99999 ∧ v2 = nI u.2.2.1 ∧ nj < 60 ∧ (wl fw (nI u.1) nj).length < 7 ∧ r = nI nj ∧ zKeep ws u.2.2.2 ∧ zL cA u.2.2.2 ad T Bd E PT PB PE n tr le sl mo la fc bo nd mk ck ct hd pq (nj + 1) (upd fw nj (nI u.1)) (va_up jf nj u.2.1) (va_up dl nj u.2.2.1) dn oc s8 s9 s10 s11 s12) (fun u => zB D (va_A (ws) sz) (u.2.2.2)) (va_A (ws) sz)) (zXC (fun (E : String) (u : Unit) => zexIAS (kJ (ix v0 n) (fun t => ix v1 (fc t)) (ix v2 100000) (fun t => decide (nj < 60) && decide ((wl fw (nI t) nj).length < 7))) E) (fun u => ws) D (va_A (ws) sz)) 3 18 (va_A (ws) sz) := by
  refine zOpenX (cc := cX4_job) (maxL := 5) (ret := (some .int)) (own := RX4) (by decide) rfl rfl (Nat.le_of_ble_eq_true rfl) ?_
  intro p e s m below meth c ls hx hb hr hml hts hown hlocks htab ⟨⟨hZ, hP, hD0, hsz⟩, hX⟩ hl
  subst hsz
  have hD := hD0.self (sz := s.heap.size)
  generalize hAe : va_A (ws) s.heap.size = A at hD hX ⊢
  have hA : ∀ q : Nat, s.heap.size ≤ q → A q := fun q h => by rw [← hAe]; exact Or.inr h
  have hS : va_S A s.heap s.heap [] := va_S.rf
  have iX4 : ∀ w ∈ wsX40, w ∈ wsX4_job := by decide +kernel
  have iX1 : ∀ w ∈ wsX10, w ∈ wsX4_job := by decide +kernel
  have hl : lv_has ls 5 [(0, .ref (ad 0)), (1, .int (v0)), (2, .int (v1)), (3, .int (v2))] := hl
  have hL0 := hL
  obtain ⟨⟨l22, l23, l24, l25, l26, l27, l28, l29, l30, l31, l32, l33, l34⟩, hT, hE, hBne⟩ := hL
  obtain ⟨hn8, hd3, hj60, hIT, hID, hIJ, hIdl, hIw⟩ := hI
  refine lv_aload_n hx hb dX4_job_0 rfl (lv_at hl 0 rfl) ?_
  refine lv_iload_n hx hb dX4_job_1 rfl (lv_at hl 1 rfl) ?_
  refine zt_V_a (n := 1) (mc := 1) (ms := 6) (As := [.int (v0)]) (rest := []) hx hb hml hts hown hZ hX hP hD hS hA (c_X4_tapeNumbered l hlt D cA _ _ 0 (ad 0) (ad 1) n (ad 2) nd (ad 3) (ad 4) l22 1 T l23 hn8 v0) gX4_job_X4_tapeNumbered rfl rfl ⟨rfl, rfl⟩ ⟨by decide +kernel, Nat.le_of_ble_eq_true rfl, Nat.le_of_ble_eq_true rfl⟩ l22 rfl hl.1 rfl (Nat.le_of_ble_eq_true rfl) ⟨Nat.le_of_ble_eq_true rfl, Nat.le_of_ble_eq_true rfl⟩ rfl dX4_job_2 (fun E9 ce9 q9 u9 H locs hpx hP hD hS hz hq1 hq2 hq3 => ?_) (fun u_1 r_3 H locs hp_2 hra hP hD hS hz => ?_)
  · exact zt_out () hS hP hD (Or.inl ⟨kJ_1 (ix_none (by omega) hpx.2), hpx.1⟩) htab hlocks hq1 hq2 hq3 (Nat.le_of_ble_eq_true rfl) (Nat.le_of_ble_eq_true rfl)
  have hP : va_P D vwCl (ws) H := hP
  have hD : va_D A (ws) := hD
  obtain ⟨htn, hv_t⟩ := hp_2
  obtain ⟨t, rfl⟩ : ∃ z, z = u_1 := ⟨_, rfl⟩
  have hra : r_3 = T t := hra
  subst hra
  subst hv_t
  have hl : lv_has ls 5 [(0, .ref (ad 0)), (1, .int (nI (t))), (2, .int (v1)), (3, .int (v2))] := hl
  obtain ⟨-, -, hPT_t, hPB_t⟩ := hT t htn
  obtain ⟨htr1_t, htr8_t, hle4_t, hle200_t, hsl12_t, hmo_t, hfc10_t, hbo0_t, hbinc_t, hbtop_t⟩ := hIT t htn
  refine lv_astore (lv' := [(4, .ref (T t)), (0, .ref (ad 0)), (1, .int (nI (t))), (2, .int (v1)), (3, .int (v2))]) hx hb dX4_job_5 hl (by decide) rfl (fun ls hl => ?_)
  refine lv_aload hx hb dX4_job_7 (lv_at hl 0 rfl) ?_
  refine lv_iload_n hx hb dX4_job_9 rfl (lv_at hl 3 rfl) ?_
  refine zt_S_v (n := 2) (mc := 1) (ms := 6) (As := [.ref (T t), .int (v1)]) (rest := []) hx hb hml hts hown hZ hX hP hD hS hA (c_X4_refuseMissingFile l hlt D cA _ _ (PT t) (T t) t (tr t) (le t) (sl t) (fc t) (Bd t) ((mo t)) (la t) (hT t htn).1 (by omega) v1) gX4_job_X4_refuseMissingFile rfl ⟨rfl, rfl⟩ ⟨by decide +kernel, Nat.le_of_ble_eq_true rfl, Nat.le_of_ble_eq_true rfl⟩ hl.1 rfl (Nat.le_of_ble_eq_true rfl) ⟨Nat.le_of_ble_eq_true rfl, Nat.le_of_ble_eq_true rfl⟩ rfl dX4_job_10 (fun E9 ce9 q9 u9 H locs hpx hP hD hS hz hq1 hq2 hq3 => ?_) (fun u_4 H locs hp_5 hP hD hS hz => ?_)
  · exact zt_out () hS hP hD (Or.inl ⟨kJ_2 (ix_in (by omega) htn) (ix_none (by omega) hpx.2), hpx.1⟩) htab hlocks hq1 hq2 hq3 (Nat.le_of_ble_eq_true rfl) (Nat.le_of_ble_eq_true rfl)
  have hP : va_P D vwCl (ws) H := hP
  have hD : va_D A (ws) := hD
  obtain ⟨hfn, hv_f⟩ := hp_5
  obtain ⟨f, rfl⟩ : ∃ z, z = u_4 := ⟨_, rfl⟩
  subst hv_f
  have hl : lv_has ls 5 [(4, .ref (T t)), (0, .ref (ad 0)), (1, .int (nI (t))), (2, .int (nI (f))), (3, .int (v2))] := hl
  rcases zI_split v2 with hneg | ⟨d, hd31, rfl⟩
  · refine lv_iload_n hx hb dX4_job_13 rfl (lv_at hl 4 rfl) ?_
    refine lv_if_lt (tgt := 23) hx hb dX4_job_14 (by decide) (fun c_7 => ?_) (fun c_7 => absurd hneg c_7)
    exact zt_throw (cls := "java/lang/IllegalArgumentException") (text := "deadline out of range") (ik := 42) (is := 175) (ic := 46) () hx hb hlt hown hZ hX hS hP hD (Or.inr (Or.inl ⟨kJ_3 (ix_in (by omega) htn) (ix_in (by omega) hfn) (ix_neg hneg), rfl⟩)) htab hlocks (hl.1.trans hml.symm) (by decide) (hts (.classLink RX4 42 "java/lang/IllegalArgumentException") (by decide +kernel)) (hts (.initialized "java/lang/IllegalArgumentException") (by decide +kernel)) (fun w hw => hts w ((by decide +kernel : ∀ w ∈ (vx_atS RX4 46 "java/lang/IllegalArgumentException" ["java/lang/RuntimeException", "java/lang/Exception"]).filter goodWord, w ∈ wsX4_job) w hw)) (by decide +kernel) (by decide +kernel) (by decide +kernel) dX4_job_23 dX4_job_26 dX4_job_27 dX4_job_29 dX4_job_32 ⟨Nat.le_of_ble_eq_true rfl, Nat.le_of_ble_eq_true rfl, Nat.le_of_ble_eq_true rfl, Nat.le_of_ble_eq_true rfl⟩ (Nat.le_of_ble_eq_true rfl) (Nat.le_of_ble_eq_true rfl)
  · refine lv_iload_n hx hb dX4_job_13 rfl (lv_at hl 4 rfl) ?_
    refine zf_lt (tgt := 23) hx hb (by omega) dX4_job_14 (by decide) ?_
    refine lv_iload_n hx hb dX4_job_17 rfl (lv_at hl 4 rfl) ?_
    refine lv_ldc (v := nI 99999) hx hb hown (hts (.constant RX4 174 99999) (by decide +kernel)) dX4_job_18 ?_
    refine zc_le (tgt := 33) hx hb (by omega) (by omega) dX4_job_20 (by decide) (fun c_9 => ?_) (fun c_9 => ?_)
    · refine lv_aload_n hx hb dX4_job_33 rfl (lv_at hl 1 rfl) ?_
      refine va_get (D := D) (ci := 4) (v := .ref (ad 3)) (C := RX4) (T := TX4) (N := 6) hx hb hts iX4 hown hZ.1 hP 0 l22 rfl 4 (by decide) (hts (.fieldLink RX4 31 "TapeRobotics" "jobs" "LTapeRobotics$Jobs;") (by decide +kernel)) (fun _ h9 => h9) rfl dX4_job_34 ?_
      refine va_getN (D := D) (ci := 1) (v := .int (nI (nj))) (C := RX1) (T := TX1) (N := 5) hx hb hts iX1 hown hZ.1 hP 3 l25 rfl 0 (by decide) (va_Nw.use rfl (hZ.2 (.fieldLinkNest RX4 177 RX1 "count" "I" "TapeRobotics") (List.mem_of_getElem? (i := 41) rfl))) (fun _ h9 => h9) rfl dX4_job_37 ?_
      refine lv_bipush (v := nI (60)) hx hb dX4_job_40 (by decide) ?_
      refine zc_ge (tgt := 58) hx hb (by omega) (by omega) dX4_job_42 (by decide) (fun c_10 => ?_) (fun c_10 => ?_)
      · exact zt_throw (cls := "java/lang/IllegalStateException") (text := "no more jobs") (ik := 51) (is := 183) (ic := 55) () hx hb hlt hown hZ hX hS hP hD (Or.inr (Or.inr ⟨kJ_4 (ix_in (by omega) htn) (ix_in (by omega) hfn) (ix_in (by omega) (by omega)) (by first | (rw [decide_eq_false (show ¬ nj < 60 by omega), Bool.false_and]; done) | (rw [decide_eq_false (show ¬ (wl fw (nI t) nj).length < 7 by omega), Bool.and_false])), rfl⟩)) htab hlocks (hl.1.trans hml.symm) (by decide) (hts (.classLink RX4 51 "java/lang/IllegalStateException") (by decide +kernel)) (hts (.initialized "java/lang/IllegalStateException") (by decide +kernel)) (fun w hw => hts w ((by decide +kernel : ∀ w ∈ (vx_atS RX4 55 "java/lang/IllegalStateException" ["java/lang/RuntimeException", "java/lang/Exception"]).filter goodWord, w ∈ wsX4_job) w hw)) (by decide +kernel) (by decide +kernel) (by decide +kernel) dX4_job_58 dX4_job_61 dX4_job_62 dX4_job_64 dX4_job_67 ⟨Nat.le_of_ble_eq_true rfl, Nat.le_of_ble_eq_true rfl, Nat.le_of_ble_eq_true rfl, Nat.le_of_ble_eq_true rfl⟩ (Nat.le_of_ble_eq_true rfl) (Nat.le_of_ble_eq_true rfl)
      · have hw60 := wl_le (f := fw) (x := nI t) nj
        refine lv_aload_n hx hb dX4_job_45 rfl (lv_at hl 1 rfl) ?_
        refine va_get (D := D) (ci := 4) (v := .ref (ad 3)) (C := RX4) (T := TX4) (N := 6) hx hb hts iX4 hown hZ.1 hP 0 l22 rfl 4 (by decide) (hts (.fieldLink RX4 31 "TapeRobotics" "jobs" "LTapeRobotics$Jobs;") (by decide +kernel)) (fun _ h9 => h9) rfl dX4_job_46 ?_
        refine lv_iload_n hx hb dX4_job_49 rfl (lv_at hl 2 rfl) ?_
        refine zk_VN_i (n := 1) (As := [.int (nI (t))]) (rest := []) hx hb hml hts hown hZ hP (c_X1_countAt l D cA _ 3 (ad 3) nj dn (ad 5) (ad 6) (ad 7) l25 5 fw l27 t hj60) ggX4_job_X1_countAt (List.mem_of_getElem? (i := 3) rfl) (by decide +kernel) rfl ⟨rfl, rfl⟩ ⟨by decide +kernel, Nat.le_of_ble_eq_true rfl, Nat.le_of_ble_eq_true rfl⟩ l25 rfl hl.1 rfl (Nat.le_of_ble_eq_true rfl) ⟨Nat.le_of_ble_eq_true rfl, Nat.le_of_ble_eq_true rfl⟩ rfl dX4_job_50 (fun r_11 hr_12 => ?_)
        obtain rfl := show r_11 = _ from hr_12
        refine lv_bipush (v := nI (7)) hx hb dX4_job_53 (by decide) ?_
        refine zc_lt (tgt := 68) hx hb (by omega) (by omega) dX4_job_55 (by decide) (fun c_13 => ?_) (fun c_13 => ?_)
        · refine lv_aload_n hx hb dX4_job_68 rfl (lv_at hl 1 rfl) ?_
          refine va_get (D := D) (ci := 4) (v := .ref (ad 3)) (C := RX4) (T := TX4) (N := 6) hx hb hts iX4 hown hZ.1 hP 0 l22 rfl 4 (by decide) (hts (.fieldLink RX4 31 "TapeRobotics" "jobs" "LTapeRobotics$Jobs;") (by decide +kernel)) (fun _ h9 => h9) rfl dX4_job_69 ?_
          refine lv_iload_n hx hb dX4_job_72 rfl (lv_at hl 2 rfl) ?_
          refine lv_iload_n hx hb dX4_job_73 rfl (lv_at hl 3 rfl) ?_
          refine lv_iload_n hx hb dX4_job_74 rfl (lv_at hl 4 rfl) ?_
          refine zw_VN_i (n := 3) (mc := 0) (ms := 0) (As := [.int (nI (t)), .int (nI (f)), .int (nI (d))]) (rest := []) (w1 := fun _ : Unit => (((ws.set 5 (ad 5, zInts cA 60 (upd fw nj (nI t)))).set 6 (ad 6, zInts cA 60 (upd (fun k => nI (jf k)) nj (nI f)))).set 7 (ad 7, zInts cA 60 (upd (fun k => nI (dl k)) nj (nI d)))).set 3 (ad 3, zJobs (nj + 1) dn (ad 5) (ad 6) (ad 7))) hx hb hml hts hown hZ hP hD hS hA (c_X1_enter l D cA _ _ 3 (ad 3) nj dn (ad 5) (ad 6) (ad 7) l25 5 fw l27 6 jf l28 7 dl l29 t f d (by omega) (by decide) (by decide) (by decide)) ggX4_job_X1_enter (List.mem_of_getElem? (i := 24) rfl) (by decide +kernel) rfl ⟨rfl, rfl⟩ ⟨by decide +kernel, Nat.le_of_ble_eq_true rfl, Nat.le_of_ble_eq_true rfl⟩ l25 rfl hl.1 rfl (Nat.le_of_ble_eq_true rfl) ⟨Nat.le_of_ble_eq_true rfl, Nat.le_of_ble_eq_true rfl⟩ rfl dX4_job_75 (fun r_14 u_16 H locs hr_15 hP hD hS hz_16 => ?_)
          obtain rfl := show r_14 = _ from hr_15
          have hP : va_P D vwCl ((((ws.set 5 (ad 5, zInts cA 60 (upd fw nj (nI t)))).set 6 (ad 6, zInts cA 60 (upd (fun k => nI (jf k)) nj (nI f)))).set 7 (ad 7, zInts cA 60 (upd (fun k => nI (dl k)) nj (nI d)))).set 3 (ad 3, zJobs (nj + 1) dn (ad 5) (ad 6) (ad 7))) H := hP
          have hD : va_D A ((((ws.set 5 (ad 5, zInts cA 60 (upd fw nj (nI t)))).set 6 (ad 6, zInts cA 60 (upd (fun k => nI (jf k)) nj (nI f)))).set 7 (ad 7, zInts cA 60 (upd (fun k => nI (dl k)) nj (nI d)))).set 3 (ad 3, zJobs (nj + 1) dn (ad 5) (ad 6) (ad 7))) := hD
          rw [upd_nI, upd_nI] at hP hD
          have hP : va_P D vwCl ((((ws.set 5 (ad 5, zInts cA 60 (upd fw nj (nI t)))).set 6 (ad 6, zInts cA 60 (fun k => nI (va_up jf nj f k)))).set 7 (ad 7, zInts cA 60 (fun k => nI (va_up dl nj d k)))).set 3 (ad 3, zJobs (nj + 1) dn (ad 5) (ad 6) (ad 7))) H := hP
          have hD : va_D A ((((ws.set 5 (ad 5, zInts cA 60 (upd fw nj (nI t)))).set 6 (ad 6, zInts cA 60 (fun k => nI (va_up jf nj f k)))).set 7 (ad 7, zInts cA 60 (fun k => nI (va_up dl nj d k)))).set 3 (ad 3, zJobs (nj + 1) dn (ad 5) (ad 6) (ad 7))) := hD
          exact zr_ti (S := Nat × Nat × Nat × va_W) (w1 := fun u => u.2.2.2) (t, f, d, (((ws.set 5 (ad 5, zInts cA 60 (upd fw nj (nI t)))).set 6 (ad 6, zInts cA 60 (fun k => nI (va_up jf nj f k)))).set 7 (ad 7, zInts cA 60 (fun k => nI (va_up dl nj d k)))).set 3 (ad 3, zJobs (nj + 1) dn (ad 5) (ad 6) (ad 7))) hx hb hr hlocks (⟨htn, rfl, hfn, rfl, (show d ≤ 99999 by omega), rfl, (show nj < 60 by omega), by assumption, rfl, zKeep_set (zKeep_set (zKeep_set (zKeep_set zKeep_rf (by omega)) (by omega)) (by omega)) (by omega), zL_25 (zL_29 (zL_28 (zL_27 hL0 (upd fw nj (nI t))) (va_up jf nj f)) (va_up dl nj d)) (nj + 1) dn⟩) hP hD hS (rfl) dX4_job_78 ⟨Nat.le_of_ble_eq_true rfl, Nat.le_of_ble_eq_true rfl⟩
        · exact zt_throw (cls := "java/lang/IllegalStateException") (text := "no more jobs") (ik := 51) (is := 183) (ic := 55) () hx hb hlt hown hZ hX hS hP hD (Or.inr (Or.inr ⟨kJ_4 (ix_in (by omega) htn) (ix_in (by omega) hfn) (ix_in (by omega) (by omega)) (by first | (rw [decide_eq_false (show ¬ nj < 60 by omega), Bool.false_and]; done) | (rw [decide_eq_false (show ¬ (wl fw (nI t) nj).length < 7 by omega), Bool.and_false])), rfl⟩)) htab hlocks (hl.1.trans hml.symm) (by decide) (hts (.classLink RX4 51 "java/lang/IllegalStateException") (by decide +kernel)) (hts (.initialized "java/lang/IllegalStateException") (by decide +kernel)) (fun w hw => hts w ((by decide +kernel : ∀ w ∈ (vx_atS RX4 55 "java/lang/IllegalStateException" ["java/lang/RuntimeException", "java/lang/Exception"]).filter goodWord, w ∈ wsX4_job) w hw)) (by decide +kernel) (by decide +kernel) (by decide +kernel) dX4_job_58 dX4_job_61 dX4_job_62 dX4_job_64 dX4_job_67 ⟨Nat.le_of_ble_eq_true rfl, Nat.le_of_ble_eq_true rfl, Nat.le_of_ble_eq_true rfl, Nat.le_of_ble_eq_true rfl⟩ (Nat.le_of_ble_eq_true rfl) (Nat.le_of_ble_eq_true rfl)
    · exact zt_throw (cls := "java/lang/IllegalArgumentException") (text := "deadline out of range") (ik := 42) (is := 175) (ic := 46) () hx hb hlt hown hZ hX hS hP hD (Or.inr (Or.inl ⟨kJ_3 (ix_in (by omega) htn) (ix_in (by omega) hfn) (by rw [ix_nI hd31]; exact if_neg (by omega)), rfl⟩)) htab hlocks (hl.1.trans hml.symm) (by decide) (hts (.classLink RX4 42 "java/lang/IllegalArgumentException") (by decide +kernel)) (hts (.initialized "java/lang/IllegalArgumentException") (by decide +kernel)) (fun w hw => hts w ((by decide +kernel : ∀ w ∈ (vx_atS RX4 46 "java/lang/IllegalArgumentException" ["java/lang/RuntimeException", "java/lang/Exception"]).filter goodWord, w ∈ wsX4_job) w hw)) (by decide +kernel) (by decide +kernel) (by decide +kernel) dX4_job_23 dX4_job_26 dX4_job_27 dX4_job_29 dX4_job_32 ⟨Nat.le_of_ble_eq_true rfl, Nat.le_of_ble_eq_true rfl, Nat.le_of_ble_eq_true rfl, Nat.le_of_ble_eq_true rfl⟩ (Nat.le_of_ble_eq_true rfl) (Nat.le_of_ble_eq_true rfl)

set_option maxHeartbeats 4000000 in
set_option maxRecDepth 100000 in
theorem c_X4_lose (l : Launch) (hlt : l.stackTraces = false) (D : va_G) (cA : Nat → ClassId) (sz : Nat) (ws : va_W) (ad : Nat → Nat) (T : Nat → Nat) (Bd : Nat → Nat) (E : Nat → Nat) (PT : Nat → Nat) (PB : Nat → Nat) (PE : Nat → Nat) (n : Nat) (tr : Nat → Nat) (le : Nat → Nat) (sl : Nat → Nat) (mo : Nat → Option Nat) (la : Nat → Bool) (fc : Nat → Nat) (bo : Nat → Nat → Nat) (nd : Nat) (mk : Nat → Nat) (ck : Nat → Int32) (ct : Nat → Nat) (hd : Nat → Option Nat) (pq : Nat → Int32) (nj : Nat) (fw : Nat → Int32) (jf : Nat → Nat) (dl : Nat → Nat) (dn : Nat) (oc : Nat) (s8 : Nat → Int32) (s9 : Nat → Int32) (s10 : Nat → Int32) (s11 : Nat → Int32) (s12 : Nat → Int32) (hL : zL cA ws ad T Bd E PT PB PE n tr le sl mo la fc bo nd mk ck ct hd pq nj fw jf dl dn oc s8 s9 s10 s11 s12) (hI : zI n tr le sl mo fc bo nd mk ct hd pq nj fw jf dl) (v0 : Int32) : vx_Met l yX4_lose wsX4_lose ({ frames := 7, cells := 2, slots := 12, locals := 118 }) (va_Pc [.ref (ad 0), .int (v0)] (zMX D cA (ws) sz)) (va_Qi (fun (r : Int32) (u : Nat × va_W) => u.1 < n ∧ v0 = nI u.1 ∧ (mo u.1 = none ∧ la u.1 = true) ∧ r = nI (cnt (fun i => !(va_up la u.1 false) i) n) ∧ zKeep ws u.2 ∧ zL cA u.2 ad T Bd E PT PB PE n tr le sl mo (va_up la u.1 false) fc bo nd mk ck ct hd pq nj fw jf dl dn oc s8 s9 s10 s11 s12) (fun u => zB D (va_A (ws) sz) (u.2)) (va_A (ws) sz)) (zXC (fun (E : String) (u : Unit) => zexIS (kS (ix v0 n) (fun t => !(mo t).isSome && la t)) E) (fun u => ws) D (va_A (ws) sz)) 2 12 (va_A (ws) sz) := by
  refine zOpenX (cc := cX4_lose) (maxL := 3) (ret := (some .int)) (own := RX4) (by decide) rfl rfl (Nat.le_of_ble_eq_true rfl) ?_
  intro p e s m below meth c ls hx hb hr hml hts hown hlocks htab ⟨⟨hZ, hP, hD0, hsz⟩, hX⟩ hl
  subst hsz
  have hD := hD0.self (sz := s.heap.size)
  generalize hAe : va_A (ws) s.heap.size = A at hD hX ⊢
  have hA : ∀ q : Nat, s.heap.size ≤ q → A q := fun q h => by rw [← hAe]; exact Or.inr h
  have hS : va_S A s.heap s.heap [] := va_S.rf
  have iX3 : ∀ w ∈ wsX30, w ∈ wsX4_lose := by decide +kernel
  have hl : lv_has ls 3 [(0, .ref (ad 0)), (1, .int (v0))] := hl
  have hL0 := hL
  obtain ⟨⟨l22, l23, l24, l25, l26, l27, l28, l29, l30, l31, l32, l33, l34⟩, hT, hE, hBne⟩ := hL
  obtain ⟨hn8, hd3, hj60, hIT, hID, hIJ, hIdl, hIw⟩ := hI
  refine lv_aload_n hx hb dX4_lose_0 rfl (lv_at hl 0 rfl) ?_
  refine lv_iload_n hx hb dX4_lose_1 rfl (lv_at hl 1 rfl) ?_
  refine zt_V_a (n := 1) (mc := 1) (ms := 6) (As := [.int (v0)]) (rest := []) hx hb hml hts hown hZ hX hP hD hS hA (c_X4_tapeNumbered l hlt D cA _ _ 0 (ad 0) (ad 1) n (ad 2) nd (ad 3) (ad 4) l22 1 T l23 hn8 v0) gX4_lose_X4_tapeNumbered rfl rfl ⟨rfl, rfl⟩ ⟨by decide +kernel, Nat.le_of_ble_eq_true rfl, Nat.le_of_ble_eq_true rfl⟩ l22 rfl hl.1 rfl (Nat.le_of_ble_eq_true rfl) ⟨Nat.le_of_ble_eq_true rfl, Nat.le_of_ble_eq_true rfl⟩ rfl dX4_lose_2 (fun E9 ce9 q9 u9 H locs hpx hP hD hS hz hq1 hq2 hq3 => ?_) (fun u_1 r_3 H locs hp_2 hra hP hD hS hz => ?_)
  · exact zt_out () hS hP hD (Or.inl ⟨kS_1 (ix_none (by omega) hpx.2), hpx.1⟩) htab hlocks hq1 hq2 hq3 (Nat.le_of_ble_eq_true rfl) (Nat.le_of_ble_eq_true rfl)
  have hP : va_P D vwCl (ws) H := hP
  have hD : va_D A (ws) := hD
  obtain ⟨htn, hv_t⟩ := hp_2
  obtain ⟨t, rfl⟩ : ∃ z, z = u_1 := ⟨_, rfl⟩
  have hra : r_3 = T t := hra
  subst hra
  subst hv_t
  have hl : lv_has ls 3 [(0, .ref (ad 0)), (1, .int (nI (t)))] := hl
  obtain ⟨-, -, hPT_t, hPB_t⟩ := hT t htn
  obtain ⟨htr1_t, htr8_t, hle4_t, hle200_t, hsl12_t, hmo_t, hfc10_t, hbo0_t, hbinc_t, hbtop_t⟩ := hIT t htn
  refine lv_astore_n (lv' := [(2, .ref (T t)), (0, .ref (ad 0)), (1, .int (nI (t)))]) hx hb dX4_lose_5 rfl hl (by decide) rfl (fun ls hl => ?_)
  refine lv_aload_n hx hb dX4_lose_6 rfl (lv_at hl 0 rfl) ?_
  refine zk_VN_i (n := 0) (As := []) (rest := []) hx hb hml hts hown hZ hP (c_X3_isInDrive l D cA _ (PT t) (T t) t (tr t) (le t) (sl t) (fc t) (Bd t) ((mo t)) (la t) (hT t htn).1 (fun k h => by have := (hmo_t k h).1; omega)) ggX4_lose_X3_isInDrive (List.mem_of_getElem? (i := 2) rfl) (by decide +kernel) rfl ⟨rfl, rfl⟩ ⟨by decide +kernel, Nat.le_of_ble_eq_true rfl, Nat.le_of_ble_eq_true rfl⟩ (hT t htn).1 rfl hl.1 rfl (Nat.le_of_ble_eq_true rfl) ⟨Nat.le_of_ble_eq_true rfl, Nat.le_of_ble_eq_true rfl⟩ rfl dX4_lose_7 (fun r_4 hr_5 => ?_)
  obtain rfl := show r_4 = _ from hr_5
  refine zb_ne (tgt := 20) hx hb dX4_lose_10 (by decide) (fun c_6 => ?_) (fun c_6 => ?_)
  · exact zt_throw (cls := "java/lang/IllegalStateException") (text := "tape in a drive, or without a label") (ik := 51) (is := 235) (ic := 55) () hx hb hlt hown hZ hX hS hP hD (Or.inr ⟨kS_n (ix_in (by omega) htn) (by first | (rw [show (mo t).isSome = true by assumption]; rfl) | (rw [show la t = false by assumption, Bool.and_false])), rfl⟩) htab hlocks (hl.1.trans hml.symm) (by decide) (hts (.classLink RX4 51 "java/lang/IllegalStateException") (by decide +kernel)) (hts (.initialized "java/lang/IllegalStateException") (by decide +kernel)) (fun w hw => hts w ((by decide +kernel : ∀ w ∈ (vx_atS RX4 55 "java/lang/IllegalStateException" ["java/lang/RuntimeException", "java/lang/Exception"]).filter goodWord, w ∈ wsX4_lose) w hw)) (by decide +kernel) (by decide +kernel) (by decide +kernel) dX4_lose_20 dX4_lose_23 dX4_lose_24 dX4_lose_26 dX4_lose_29 ⟨Nat.le_of_ble_eq_true rfl, Nat.le_of_ble_eq_true rfl, Nat.le_of_ble_eq_true rfl, Nat.le_of_ble_eq_true rfl⟩ (Nat.le_of_ble_eq_true rfl) (Nat.le_of_ble_eq_true rfl)
  · refine lv_aload_n hx hb dX4_lose_13 rfl (lv_at hl 0 rfl) ?_
    refine va_getN (D := D) (ci := 3) (v := .int (bI (la t))) (C := RX3) (T := TX3) (N := 8) hx hb hts iX3 hown hZ.1 hP (PT t) (hT t htn).1 rfl 5 (by decide) (va_Nw.use rfl (hZ.2 (.fieldLinkNest RX4 122 RX3 "hasLabel" "Z" "TapeRobotics") (List.mem_of_getElem? (i := 49) rfl))) (fun _ h9 => h9) rfl dX4_lose_14 ?_
    refine zb_ne (tgt := 30) hx hb dX4_lose_17 (by decide) (fun c_7 => ?_) (fun c_7 => ?_)
    · have hnn : mo t = none := Option.not_isSome_iff_eq_none.mp (by rw [show (mo t).isSome = false by assumption]; exact Bool.noConfusion)
      refine lv_aload_n hx hb dX4_lose_30 rfl (lv_at hl 0 rfl) ?_
      refine lv_iconst (v := bI (false)) hx hb dX4_lose_31 (by decide) ?_
      refine va_putN (D := D) (ci := 3) (v := .int (bI (false))) (ty := .boolean) (C := RX3) (T := TX3) (N := 8) hx hb hts iX3 tyX3 tyX3_ok nmX3 hown hZ.1 hP hD hS (PT t) (hT t htn).1 rfl 5 (by decide) (va_Nw.use rfl (hZ.2 (.fieldLinkNest RX4 122 RX3 "hasLabel" "Z" "TapeRobotics") (List.mem_of_getElem? (i := 49) rfl))) (fun _ h9 => h9) rfl (by decide +kernel) (narB _) (fitB _) (Nat.le_of_ble_eq_true rfl) dX4_lose_32 (fun H locs hP hD hS => ?_)
      have hP : va_P D vwCl (ws.set (PT t) (T t, .inr (3, [.int (nI (t)), .int (nI (tr t)), .int (nI (le t)), .int (nI (sl t)), .int (oI (mo t)), .int (bI (false)), .int (nI (fc t)), .ref (Bd t)]))) H := hP
      have hD : va_D A (ws.set (PT t) (T t, .inr (3, [.int (nI (t)), .int (nI (tr t)), .int (nI (le t)), .int (nI (sl t)), .int (oI (mo t)), .int (bI (false)), .int (nI (fc t)), .ref (Bd t)]))) := hD
      have hL9 := zL_T hL0 hn8 htn (sl t) (mo t) false (fc t)
      simp only [va_up_id] at hL9
      refine lv_aload_n hx hb dX4_lose_35 rfl (lv_at hl 1 rfl) ?_
      refine zk_V_i (n := 0) (As := []) (rest := []) hx hb hml hts hown hZ hP (c_X4_countWithoutLabels l D cA _ 0 (ad 0) (ad 1) n (ad 2) nd (ad 3) (ad 4) hL9.1.1 1 T hL9.1.2.1 hn8 PT tr le sl mo (va_up la t false) fc Bd (fun i hi => (hL9.2.1 i hi).1)) gX4_lose_X4_countWithoutLabels rfl rfl ⟨rfl, rfl⟩ ⟨by decide +kernel, Nat.le_of_ble_eq_true rfl, Nat.le_of_ble_eq_true rfl⟩ (zset_n l22 (by omega)) rfl hl.1 rfl (Nat.le_of_ble_eq_true rfl) ⟨Nat.le_of_ble_eq_true rfl, Nat.le_of_ble_eq_true rfl⟩ rfl dX4_lose_36 (fun r_8 hr_9 => ?_)
      obtain rfl := show r_8 = _ from hr_9
      exact zr_ti (S := Nat × va_W) (w1 := fun u => u.2) (t, ws.set (PT t) (T t, .inr (3, [.int (nI (t)), .int (nI (tr t)), .int (nI (le t)), .int (nI (sl t)), .int (oI (mo t)), .int (bI (false)), .int (nI (fc t)), .ref (Bd t)]))) hx hb hr hlocks (⟨htn, rfl, ⟨hnn, by assumption⟩, rfl, zKeep_set zKeep_rf (by omega), hL9⟩) hP hD hS (rfl) dX4_lose_39 ⟨Nat.le_of_ble_eq_true rfl, Nat.le_of_ble_eq_true rfl⟩
    · exact zt_throw (cls := "java/lang/IllegalStateException") (text := "tape in a drive, or without a label") (ik := 51) (is := 235) (ic := 55) () hx hb hlt hown hZ hX hS hP hD (Or.inr ⟨kS_n (ix_in (by omega) htn) (by first | (rw [show (mo t).isSome = true by assumption]; rfl) | (rw [show la t = false by assumption, Bool.and_false])), rfl⟩) htab hlocks (hl.1.trans hml.symm) (by decide) (hts (.classLink RX4 51 "java/lang/IllegalStateException") (by decide +kernel)) (hts (.initialized "java/lang/IllegalStateException") (by decide +kernel)) (fun w hw => hts w ((by decide +kernel : ∀ w ∈ (vx_atS RX4 55 "java/lang/IllegalStateException" ["java/lang/RuntimeException", "java/lang/Exception"]).filter goodWord, w ∈ wsX4_lose) w hw)) (by decide +kernel) (by decide +kernel) (by decide +kernel) dX4_lose_20 dX4_lose_23 dX4_lose_24 dX4_lose_26 dX4_lose_29 ⟨Nat.le_of_ble_eq_true rfl, Nat.le_of_ble_eq_true rfl, Nat.le_of_ble_eq_true rfl, Nat.le_of_ble_eq_true rfl⟩ (Nat.le_of_ble_eq_true rfl) (Nat.le_of_ble_eq_true rfl)

set_option maxHeartbeats 4000000 in
set_option maxRecDepth 100000 in
theorem c_X4_inventory (l : Launch) (D : va_G) (cA : Nat → ClassId) (sz : Nat) (ws : va_W) (ad : Nat → Nat) (T : Nat → Nat) (Bd : Nat → Nat) (E : Nat → Nat) (PT : Nat → Nat) (PB : Nat → Nat) (PE : Nat → Nat) (n : Nat) (tr : Nat → Nat) (le : Nat → Nat) (sl : Nat → Nat) (mo : Nat → Option Nat) (la : Nat → Bool) (fc : Nat → Nat) (bo : Nat → Nat → Nat) (nd : Nat) (mk : Nat → Nat) (ck : Nat → Int32) (ct : Nat → Nat) (hd : Nat → Option Nat) (pq : Nat → Int32) (nj : Nat) (fw : Nat → Int32) (jf : Nat → Nat) (dl : Nat → Nat) (dn : Nat) (oc : Nat) (s8 : Nat → Int32) (s9 : Nat → Int32) (s10 : Nat → Int32) (s11 : Nat → Int32) (s12 : Nat → Int32) (hL : zL cA ws ad T Bd E PT PB PE n tr le sl mo la fc bo nd mk ck ct hd pq nj fw jf dl dn oc s8 s9 s10 s11 s12) (hI : zI n tr le sl mo fc bo nd mk ct hd pq nj fw jf dl)  : Met l yX4_inventory wsX4_inventory ({ frames := 2, cells := 0, slots := 0, locals := 46 }) (va_Pc [.ref (ad 0)] (zM D cA (ws) sz)) (va_Qi (fun (r : Int32) (u : va_W) => r = nI (5 * cnt (fun i => !la i) n + 2 * hiS sl mo n) ∧ zKeep ws u ∧ zL cA u ad T Bd E PT PB PE n tr le sl mo (laM la n) fc bo nd mk ck ct hd pq nj fw jf dl dn oc s8 s9 s10 s11 s12) (fun u => zB D (va_A (ws) sz) (u)) (va_A (ws) sz)) 0 0 (va_A (ws) sz) := by
  refine zOpen (cc := cX4_inventory) (maxL := 6) (ret := (some .int)) (own := RX4) (by decide) rfl rfl (Nat.le_of_ble_eq_true rfl) ?_
  intro p e s m below meth c ls hx hb hr hml hts hown hlocks hnm ⟨hZ, hP, hD0, hsz⟩ hl
  subst hsz
  have hD := hD0.self (sz := s.heap.size)
  generalize hAe : va_A (ws) s.heap.size = A at hD ⊢
  have hA : ∀ q : Nat, s.heap.size ≤ q → A q := fun q h => by rw [← hAe]; exact Or.inr h
  have hS : va_S A s.heap s.heap [] := va_S.rf
  have iX4 : ∀ w ∈ wsX40, w ∈ wsX4_inventory := by decide +kernel
  have iX3 : ∀ w ∈ wsX30, w ∈ wsX4_inventory := by decide +kernel
  have hl : lv_has ls 6 [(0, .ref (ad 0))] := hl
  have hL0 := hL
  obtain ⟨⟨l22, l23, l24, l25, l26, l27, l28, l29, l30, l31, l32, l33, l34⟩, hT, hE, hBne⟩ := hL
  obtain ⟨hn8, hd3, hj60, hIT, hID, hIJ, hIdl, hIw⟩ := hI
  refine lv_iconst (v := nI (5)) hx hb dX4_inventory_0 (by decide) ?_
  refine lv_aload_n hx hb dX4_inventory_1 rfl (lv_at hl 0 rfl) ?_
  refine zk_V_i (n := 0) (As := []) (rest := [.int (nI (5))]) hx hb hml hts hown hZ hP (c_X4_countWithoutLabels l D cA _ 0 (ad 0) (ad 1) n (ad 2) nd (ad 3) (ad 4) hL0.1.1 1 T hL0.1.2.1 hn8 PT tr le sl mo la fc Bd (fun i hi => (hL0.2.1 i hi).1)) gX4_inventory_X4_countWithoutLabels rfl rfl ⟨rfl, rfl⟩ ⟨by decide +kernel, Nat.le_of_ble_eq_true rfl, Nat.le_of_ble_eq_true rfl⟩ l22 rfl hl.1 rfl (Nat.le_of_ble_eq_true rfl) ⟨Nat.le_of_ble_eq_true rfl, Nat.le_of_ble_eq_true rfl⟩ rfl dX4_inventory_2 (fun r_1 hr_2 => ?_)
  obtain rfl := show r_1 = _ from hr_2
  refine zo_mul hx hb dX4_inventory_5 ?_
  refine lv_iconst (v := nI (2)) hx hb dX4_inventory_6 (by decide) ?_
  refine lv_aload_n hx hb dX4_inventory_7 rfl (lv_at hl 0 rfl) ?_
  refine zk_V_i (n := 0) (As := []) (rest := [.int (nI (2)), .int (nI (5 * (cnt (fun i => !la i) n)))]) hx hb hml hts hown hZ hP (c_X4_highestSlotWithTape l D cA _ 0 (ad 0) (ad 1) n (ad 2) nd (ad 3) (ad 4) hL0.1.1 1 T hL0.1.2.1 hn8 PT tr le sl mo la fc Bd (fun i hi => (hL0.2.1 i hi).1) (fun i hi => (hIT i hi).2.2.2.2.1) (fun i k hi h => by have := ((hIT i hi).2.2.2.2.2.1 k h).1; omega)) gX4_inventory_X4_highestSlotWithTape rfl rfl ⟨rfl, rfl⟩ ⟨by decide +kernel, Nat.le_of_ble_eq_true rfl, Nat.le_of_ble_eq_true rfl⟩ l22 rfl hl.1 rfl (Nat.le_of_ble_eq_true rfl) ⟨Nat.le_of_ble_eq_true rfl, Nat.le_of_ble_eq_true rfl⟩ rfl dX4_inventory_8 (fun r_3 hr_4 => ?_)
  obtain rfl := show r_3 = _ from hr_4
  refine zo_mul hx hb dX4_inventory_11 ?_
  refine zo_add hx hb dX4_inventory_12 ?_
  refine lv_istore_n (lv' := [(1, .int (nI ((5 * (cnt (fun i => !la i) n)) + (2 * (hiS sl mo n))))), (0, .ref (ad 0))]) hx hb dX4_inventory_13 rfl hl (by decide) rfl (fun ls hl => ?_)
  have hL1 : zL cA ws ad T Bd E PT PB PE n tr le sl mo (laM la (min 0 n)) fc bo nd mk ck ct hd pq nj fw jf dl dn oc s8 s9 s10 s11 s12 := by rw [Nat.zero_min, laM_0]; exact hL0
  refine lv_aload_n hx hb dX4_inventory_14 rfl (lv_at hl 1 rfl) ?_
  refine va_get (D := D) (ci := 4) (v := .ref (ad 1)) (C := RX4) (T := TX4) (N := 6) hx hb hts iX4 hown hZ.1 hP 0 l22 rfl 0 (by decide) (hts (.fieldLink RX4 11 "TapeRobotics" "tapes" "[LTapeRobotics$Tape;") (by decide +kernel)) (fun _ h9 => h9) rfl dX4_inventory_15 ?_
  refine lv_astore_n (lv' := [(2, .ref (ad 1)), (1, .int (nI ((5 * (cnt (fun i => !la i) n)) + (2 * (hiS sl mo n))))), (0, .ref (ad 0))]) hx hb dX4_inventory_18 rfl hl (by decide) rfl (fun ls hl => ?_)
  refine lv_aload_n hx hb dX4_inventory_19 rfl (lv_at hl 0 rfl) ?_
  refine va_alen (v := nI (8)) hx hb hZ.1 hP 1 1 l23 rfl rfl dX4_inventory_20 ?_
  refine lv_istore_n (lv' := [(3, .int (nI (8))), (2, .ref (ad 1)), (1, .int (nI ((5 * (cnt (fun i => !la i) n)) + (2 * (hiS sl mo n))))), (0, .ref (ad 0))]) hx hb dX4_inventory_21 rfl hl (by decide) rfl (fun ls hl => ?_)
  refine lv_iconst (v := nI (0)) hx hb dX4_inventory_22 (by decide) ?_
  refine lv_istore (lv' := [(4, .int (nI (0))), (3, .int (nI (8))), (2, .ref (ad 1)), (1, .int (nI ((5 * (cnt (fun i => !la i) n)) + (2 * (hiS sl mo n))))), (0, .ref (ad 0))]) hx hb dX4_inventory_23 hl (by decide) rfl (fun ls hl => ?_)
  refine z_loopW (α := Nat × va_W) (fun v => 8 - v.1) (fun v H locs ls => lv_has ls 6 [(0, .ref (ad 0)), (1, .int (nI (5 * cnt (fun i => !la i) n + 2 * hiS sl mo n))), (2, .ref (ad 1)), (3, .int (nI (8))), (4, .int (nI (v.1)))] ∧ va_P D vwCl (v.2) H ∧ va_D A (v.2) ∧ va_S A s.heap H locs ∧ zL cA v.2 ad T Bd E PT PB PE n tr le sl mo (laM la (min v.1 n)) fc bo nd mk ck ct hd pq nj fw jf dl dn oc s8 s9 s10 s11 s12 ∧ zKeep ws v.2 ∧ v.1 ≤ 8) (fun _ => []) (0, ws) ⟨lv_sub hl [4, 3, 2, 1, 0] rfl, hP, hD, hS, hL1, zKeep_rf, Nat.zero_le _⟩ ?_
  intro v ih25 H locs ls hv
  obtain ⟨i, w9⟩ := v
  obtain ⟨hl, hP, hD, hS, hI⟩ := hv
  have hP : va_P D vwCl (w9) H := hP
  have hD : va_D A (w9) := hD
  have hl : lv_has ls 6 [(0, .ref (ad 0)), (1, .int (nI (5 * cnt (fun i => !la i) n + 2 * hiS sl mo n))), (2, .ref (ad 1)), (3, .int (nI (8))), (4, .int (nI (i)))] := hl
  have hI : zL cA w9 ad T Bd E PT PB PE n tr le sl mo (laM la (min i n)) fc bo nd mk ck ct hd pq nj fw jf dl dn oc s8 s9 s10 s11 s12 ∧ zKeep ws w9 ∧ i ≤ 8 := hI
  obtain ⟨hL9, hkp, hi8⟩ := hI
  clear l22 l23 l24 l25 l26 l27 l28 l29 l30 l31 l32 l33 l34 hT hE hBne
  obtain ⟨⟨l22, l23, -⟩, hT, -⟩ := id hL9
  refine lv_iload hx hb dX4_inventory_25 (lv_at hl 4 rfl) ?_
  refine lv_iload_n hx hb dX4_inventory_27 rfl (lv_at hl 3 rfl) ?_
  refine zc_ge (tgt := 54) hx hb (by omega) (by omega) dX4_inventory_28 (by decide) (fun c_5 => ?_) (fun c_5 => ?_)
  · refine lv_iload_n hx hb dX4_inventory_54 rfl (lv_at hl 1 rfl) ?_
    exact zr_qi (S := va_W) (w1 := fun u => u) w9 hx hb hr hlocks (⟨rfl, hkp, by rw [show min i n = n by omega] at hL9; exact hL9⟩) hP hD hS (rfl) dX4_inventory_55
  · by_cases hin : i < n
    · obtain ⟨-, -, hPTi, hPBi⟩ := hT i hin
      refine lv_aload_n hx hb dX4_inventory_31 rfl (lv_at hl 2 rfl) ?_
      refine lv_iload hx hb dX4_inventory_32 (lv_at hl 4 rfl) ?_
      refine va_aldq hx hb hZ.1 hP 1 1 l23 rfl (vp_in_nI (show i < 8 by omega) (by omega)) dX4_inventory_34 ?_
      rw [nI_clamp (show i < 2 ^ 31 by omega)]
      refine zx_v (b := .ref (T i)) (by rw [rng_in hin]; rfl) ?_
      refine lv_astore (lv' := [(5, .ref (T i)), (0, .ref (ad 0)), (1, .int (nI (5 * cnt (fun i => !la i) n + 2 * hiS sl mo n))), (2, .ref (ad 1)), (3, .int (nI (8))), (4, .int (nI (i)))]) hx hb dX4_inventory_35 hl (by decide) rfl (fun ls hl => ?_)
      refine lv_aload hx hb dX4_inventory_37 (lv_at hl 0 rfl) ?_
      refine lv_ifnull hx hb dX4_inventory_39 ?_
      refine lv_aload hx hb dX4_inventory_42 (lv_at hl 0 rfl) ?_
      refine lv_iconst (v := bI (true)) hx hb dX4_inventory_44 (by decide) ?_
      refine va_putN (D := D) (ci := 3) (v := .int (bI (true))) (ty := .boolean) (C := RX3) (T := TX3) (N := 8) hx hb hts iX3 tyX3 tyX3_ok nmX3 hown hZ.1 hP hD hS (PT i) (hT i hin).1 rfl 5 (by decide) (va_Nw.use rfl (hZ.2 (.fieldLinkNest RX4 122 RX3 "hasLabel" "Z" "TapeRobotics") (List.mem_of_getElem? (i := 49) rfl))) (fun _ h9 => h9) rfl (by decide +kernel) (narB _) (fitB _) (Nat.le_of_ble_eq_true rfl) dX4_inventory_45 (fun H locs hP hD hS => ?_)
      have hP : va_P D vwCl (w9.set (PT i) (T i, .inr (3, [.int (nI (i)), .int (nI (tr i)), .int (nI (le i)), .int (nI (sl i)), .int (oI (mo i)), .int (bI (true)), .int (nI (fc i)), .ref (Bd i)]))) H := hP
      have hD : va_D A (w9.set (PT i) (T i, .inr (3, [.int (nI (i)), .int (nI (tr i)), .int (nI (le i)), .int (nI (sl i)), .int (oI (mo i)), .int (bI (true)), .int (nI (fc i)), .ref (Bd i)]))) := hD
      have hL8 := zL_T hL9 hn8 hin (sl i) (mo i) true (fc i)
      simp only [va_up_id] at hL8
      rw [show va_up (laM la (min i n)) i true = laM la (min (i + 1) n) by rw [(min_in hin).1, (min_in hin).2, laM_s]] at hL8
      refine lv_iinc (v := nI (i + 1)) (lv' := [(4, .int (nI (i + 1))), (5, .ref (T i)), (0, .ref (ad 0)), (1, .int (nI (5 * cnt (fun i => !la i) n + 2 * hiS sl mo n))), (2, .ref (ad 1)), (3, .int (nI (8)))]) hx hb dX4_inventory_48 hl (k := 5) rfl (zinc 1 _) (by decide) rfl (fun ls hl => ?_)
      refine lv_goto (tgt := 25) hx hb dX4_inventory_51 (by decide) ?_
      exact ih25 (i + 1, (w9.set (PT i) (T i, .inr (3, [.int (nI (i)), .int (nI (tr i)), .int (nI (le i)), .int (nI (sl i)), .int (oI (mo i)), .int (bI (true)), .int (nI (fc i)), .ref (Bd i)])))) H locs ls (by first | omega | (dsimp only; omega)) ⟨lv_sub hl [2, 3, 4, 5, 0] rfl, hP, hD, hS, hL8, zKeep_set hkp (by omega), by omega⟩
    · refine lv_aload_n hx hb dX4_inventory_31 rfl (lv_at hl 2 rfl) ?_
      refine lv_iload hx hb dX4_inventory_32 (lv_at hl 4 rfl) ?_
      refine va_aldq hx hb hZ.1 hP 1 1 l23 rfl (vp_in_nI (show i < 8 by omega) (by omega)) dX4_inventory_34 ?_
      rw [nI_clamp (show i < 2 ^ 31 by omega)]
      refine zx_v (b := .null) (by rw [rng_out hin]; rfl) ?_
      refine lv_astoreN (lv' := [(5, .null), (0, .ref (ad 0)), (1, .int (nI (5 * cnt (fun i => !la i) n + 2 * hiS sl mo n))), (2, .ref (ad 1)), (3, .int (nI (8))), (4, .int (nI (i)))]) hx hb dX4_inventory_35 hl (by decide) rfl (fun ls hl => ?_)
      refine lv_aloadN hx hb dX4_inventory_37 (lv_at hl 0 rfl) ?_
      refine lv_ifnullN (tgt := 48) hx hb dX4_inventory_39 (by decide) ?_
      refine lv_iinc (v := nI (i + 1)) (lv' := [(4, .int (nI (i + 1))), (5, .null), (0, .ref (ad 0)), (1, .int (nI (5 * cnt (fun i => !la i) n + 2 * hiS sl mo n))), (2, .ref (ad 1)), (3, .int (nI (8)))]) hx hb dX4_inventory_48 hl (k := 5) rfl (zinc 1 _) (by decide) rfl (fun ls hl => ?_)
      refine lv_goto (tgt := 25) hx hb dX4_inventory_51 (by decide) ?_
      exact ih25 (i + 1, w9) H locs ls (by first | omega | (dsimp only; omega)) ⟨lv_sub hl [2, 3, 4, 5, 0] rfl, hP, hD, hS, (by rw [min_out hin]; exact hL9), hkp, by omega⟩
