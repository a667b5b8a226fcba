set_option maxHeartbeats 4000000 in
set_option maxRecDepth 100000 in
theorem c_X4_next (l : Launch) (D : va_G) (cA : Nat → ClassId) (ws : va_W) (k0 h0 ta n da nd jj oo : Nat) (hk : ws[k0]? = some (h0, zTR ta n da nd jj oo)) (kt : Nat) (T : Nat → Nat) (hkt : ws[kt]? = some (ta, zRefs cA 1 8 (rng n T))) (hn8 : n ≤ 8) (PT : Nat → Nat) (tr le sl : Nat → Nat) (mo : Nat → Option Nat) (la : Nat → Bool) (fc : Nat → Nat) (Bd : Nat → Nat) (hT : ∀ i, i < n → ws[PT i]? = some (T i, zTape i (tr i) (le i) (sl i) (mo i) (la i) (fc i) (Bd i))) (k1 nj dn wA fA dA : Nat) (hk1 : ws[k1]? = some (jj, zJobs nj dn wA fA dA)) (kw : Nat) (fw : Nat → Int32) (hkw : ws[kw]? = some (wA, zInts cA 60 fw)) (kd : Nat) (dl : Nat → Nat) (hkd : ws[kd]? = some (dA, zInts cA 60 (fun k => nI (dl k)))) (hj60 : nj ≤ 60) (hdl : ∀ k, dl k ≤ 99999) (hmo : ∀ i j, i < n → mo i = some j → j < 2 ^ 31) : Met l yX4_next wsX4_next ({ frames := 2, cells := 0, slots := 0, locals := 44 }) (va_Pc [.ref h0] (zS D cA ws)) (vp_Si (fun r => r = oI (nxt mo la (fun q9 => (wl fw (nI q9) nj).length) (fun q9 => erl fw (nI q9) dl nj) n))) 0 0 zF := by
  refine zOpen (cc := cX4_next) (maxL := 11) (ret := (some .int)) (own := RX4) (by decide) rfl rfl (Nat.le_of_ble_eq_true rfl) ?_
  intro p e s m below meth c ls hx hb hr hml hts hown hlocks hnm ⟨hZ, hP⟩ hl
  have iX4 : ∀ w ∈ wsX40, w ∈ wsX4_next := by decide +kernel
  have iX3 : ∀ w ∈ wsX30, w ∈ wsX4_next := by decide +kernel
  have hl : lv_has ls 11 [(0, .ref h0)] := hl
  refine lv_iconst (v := (-1)) hx hb dX4_next_0 (by decide) ?_
  refine lv_istore_n (lv' := [(1, .int ((-1))), (0, .ref h0)]) hx hb dX4_next_1 rfl hl (by decide) rfl (fun ls hl => ?_)
  refine lv_iconst (v := nI (0)) hx hb dX4_next_2 (by decide) ?_
  refine lv_istore_n (lv' := [(2, .int (nI (0))), (1, .int ((-1))), (0, .ref h0)]) hx hb dX4_next_3 rfl hl (by decide) rfl (fun ls hl => ?_)
  refine lv_iconst (v := nI (0)) hx hb dX4_next_4 (by decide) ?_
  refine lv_istore_n (lv' := [(3, .int (nI (0))), (2, .int (nI (0))), (1, .int ((-1))), (0, .ref h0)]) hx hb dX4_next_5 rfl hl (by decide) rfl (fun ls hl => ?_)
  refine lv_aload_n hx hb dX4_next_6 rfl (lv_at hl 3 rfl) ?_
  refine va_get (D := D) (ci := 4) (v := .ref ta) (C := RX4) (T := TX4) (N := 6) hx hb hts iX4 hown hZ.1 hP k0 hk rfl 0 (by decide) (hts (.fieldLink RX4 11 "TapeRobotics" "tapes" "[LTapeRobotics$Tape;") (by decide +kernel)) (fun _ h9 => h9) rfl dX4_next_7 ?_
  refine lv_astore (lv' := [(4, .ref ta), (3, .int (nI (0))), (2, .int (nI (0))), (1, .int ((-1))), (0, .ref h0)]) hx hb dX4_next_10 hl (by decide) rfl (fun ls hl => ?_)
  refine lv_aload hx hb dX4_next_12 (lv_at hl 0 rfl) ?_
  refine va_alen (v := nI (8)) hx hb hZ.1 hP kt 1 hkt rfl rfl dX4_next_14 ?_
  refine lv_istore (lv' := [(5, .int (nI (8))), (4, .ref ta), (3, .int (nI (0))), (2, .int (nI (0))), (1, .int ((-1))), (0, .ref h0)]) hx hb dX4_next_15 hl (by decide) rfl (fun ls hl => ?_)
  refine lv_iconst (v := nI (0)) hx hb dX4_next_17 (by decide) ?_
  refine lv_istore (lv' := [(6, .int (nI (0))), (5, .int (nI (8))), (4, .ref ta), (3, .int (nI (0))), (2, .int (nI (0))), (1, .int ((-1))), (0, .ref h0)]) hx hb dX4_next_18 hl (by decide) rfl (fun ls hl => ?_)
  refine z_loop (α := Nat × Option Nat × Nat × Nat) (fun v => 8 - v.1) (fun v ls => lv_has ls 11 [(0, .ref h0), (4, .ref ta), (5, .int (nI (8))), (6, .int (nI (v.1))), (1, .int (oI v.2.1)), (2, .int (nI (v.2.2.1))), (3, .int (nI (v.2.2.2)))] ∧ v.2.1 = nxt mo la (fun q9 => (wl fw (nI q9) nj).length) (fun q9 => erl fw (nI q9) dl nj) (min v.1 n) ∧ (∀ b, v.2.1 = some b → v.2.2.1 = erl fw (nI b) dl nj ∧ v.2.2.2 = (wl fw (nI b) nj).length ∧ b < n) ∧ v.1 ≤ 8 ∧ v.2.2.1 ≤ 99999 ∧ v.2.2.2 ≤ 60) (fun _ => []) (0, none, 0, 0) ⟨lv_sub hl [6, 2, 1, 0, 5, 4, 3] rfl, by rw [Nat.zero_min]; rfl, (fun b h => nomatch h), Nat.zero_le _, Nat.zero_le _, Nat.zero_le _⟩ ?_
  intro v ih20 ls hv
  obtain ⟨i, o, y, z⟩ := v
  obtain ⟨hl, hI⟩ := hv
  have hl : lv_has ls 11 [(0, .ref h0), (4, .ref ta), (5, .int (nI (8))), (6, .int (nI (i))), (1, .int (oI o)), (2, .int (nI (y))), (3, .int (nI (z)))] := hl
  have hI : o = nxt mo la (fun q9 => (wl fw (nI q9) nj).length) (fun q9 => erl fw (nI q9) dl nj) (min i n) ∧ (∀ b, o = some b → y = erl fw (nI b) dl nj ∧ z = (wl fw (nI b) nj).length ∧ b < n) ∧ i ≤ 8 ∧ y ≤ 99999 ∧ z ≤ 60 := hI
  obtain ⟨ho, hob, hi8, hy9, hz9⟩ := hI
  refine lv_iload hx hb dX4_next_20 (lv_at hl 3 rfl) ?_
  refine lv_iload hx hb dX4_next_22 (lv_at hl 2 rfl) ?_
  refine zc_ge (tgt := 141) hx hb (by omega) (by omega) dX4_next_24 (by decide) (fun c_1 => ?_) (fun c_1 => ?_)
  · refine lv_iload_n hx hb dX4_next_141 rfl (lv_at hl 4 rfl) ?_
    exact zr_i hx hb hr hlocks (by rw [ho, show min i n = n by omega]) dX4_next_142
  · by_cases hin : i < n
    · refine lv_aload hx hb dX4_next_27 (lv_at hl 1 rfl) ?_
      refine lv_iload hx hb dX4_next_29 (lv_at hl 3 rfl) ?_
      refine va_aldq hx hb hZ.1 hP kt 1 hkt rfl (vp_in_nI (show i < 8 by omega) (by omega)) dX4_next_31 ?_
      rw [nI_clamp (show i < 2 ^ 31 by omega)]
      refine zx_v (b := .ref (T i)) (by rw [rng_in hin]; rfl) ?_
      refine lv_astore (lv' := [(7, .ref (T i)), (0, .ref h0), (4, .ref ta), (5, .int (nI (8))), (6, .int (nI (i))), (1, .int (oI o)), (2, .int (nI (y))), (3, .int (nI (z)))]) hx hb dX4_next_32 hl (by decide) rfl (fun ls hl => ?_)
      refine lv_aload hx hb dX4_next_34 (lv_at hl 0 rfl) ?_
      refine lv_ifnull hx hb dX4_next_36 ?_
      refine lv_aload hx hb dX4_next_39 (lv_at hl 0 rfl) ?_
      refine zk_VN_i (n := 0) (As := []) (rest := []) hx hb hml hts hown hZ hP (c_X3_isInDrive l D cA _ (PT i) (T i) i (tr i) (le i) (sl i) (fc i) (Bd i) ((mo i)) (la i) (hT i hin) (hmo i · hin)) ggX4_next_X3_isInDrive (List.mem_of_getElem? (i := 2) rfl) (by decide +kernel) rfl ⟨rfl, rfl⟩ ⟨by decide +kernel, Nat.le_of_ble_eq_true rfl, Nat.le_of_ble_eq_true rfl⟩ (hT i hin) rfl hl.1 rfl (Nat.le_of_ble_eq_true rfl) ⟨Nat.le_of_ble_eq_true rfl, Nat.le_of_ble_eq_true rfl⟩ rfl dX4_next_41 (fun r_2 hr_3 => ?_)
      obtain rfl := show r_2 = _ from hr_3
      refine zb_ne (tgt := 135) hx hb dX4_next_44 (by decide) (fun c_4 => ?_) (fun c_4 => ?_)
      · refine lv_iinc (v := nI (i + 1)) (lv' := [(6, .int (nI (i + 1))), (7, .ref (T i)), (0, .ref h0), (4, .ref ta), (5, .int (nI (8))), (1, .int (oI o)), (2, .int (nI (y))), (3, .int (nI (z)))]) hx hb dX4_next_135 hl (k := 4) rfl (zinc 1 _) (by decide) rfl (fun ls hl => ?_)
        refine lv_goto (tgt := 20) hx hb dX4_next_138 (by decide) ?_
        exact ih20 (i + 1, o, y, z) ls (by first | omega | (dsimp only; omega)) ⟨lv_sub hl [2, 3, 4, 0, 5, 6, 7] rfl, (by show _ = _; rw [(min_in hin).1, (min_in hin).2, nxt_mo (by assumption)]; rw [(min_in hin).2] at ho; exact ho), hob, by omega, hy9, hz9⟩
      · refine lv_aload hx hb dX4_next_47 (lv_at hl 0 rfl) ?_
        refine va_getN (D := D) (ci := 3) (v := .int (bI (la i))) (C := RX3) (T := TX3) (N := 8) hx hb hts iX3 hown hZ.1 hP (PT i) (hT i hin) rfl 5 (by decide) (va_Nw.use rfl (hZ.2 (.fieldLinkNest RX4 122 RX3 "hasLabel" "Z" "TapeRobotics") (List.mem_of_getElem? (i := 49) rfl))) (fun _ h9 => h9) rfl dX4_next_49 ?_
        refine zb_eq (tgt := 135) hx hb dX4_next_52 (by decide) (fun c_5 => ?_) (fun c_5 => ?_)
        · refine lv_iinc (v := nI (i + 1)) (lv' := [(6, .int (nI (i + 1))), (7, .ref (T i)), (0, .ref h0), (4, .ref ta), (5, .int (nI (8))), (1, .int (oI o)), (2, .int (nI (y))), (3, .int (nI (z)))]) hx hb dX4_next_135 hl (k := 4) rfl (zinc 1 _) (by decide) rfl (fun ls hl => ?_)
          refine lv_goto (tgt := 20) hx hb dX4_next_138 (by decide) ?_
          exact ih20 (i + 1, o, y, z) ls (by first | omega | (dsimp only; omega)) ⟨lv_sub hl [2, 3, 4, 0, 5, 6, 7] rfl, (by show _ = _; rw [(min_in hin).1, (min_in hin).2, nxt_la (by assumption)]; rw [(min_in hin).2] at ho; exact ho), hob, by omega, hy9, hz9⟩
        · refine lv_aload_n hx hb dX4_next_55 rfl (lv_at hl 1 rfl) ?_
          refine va_get (D := D) (ci := 4) (v := .ref jj) (C := RX4) (T := TX4) (N := 6) hx hb hts iX4 hown hZ.1 hP k0 hk rfl 4 (by decide) (hts (.fieldLink RX4 31 "TapeRobotics" "jobs" "LTapeRobotics$Jobs;") (by decide +kernel)) (fun _ h9 => h9) rfl dX4_next_56 ?_
          refine lv_aload hx hb dX4_next_59 (lv_at hl 0 rfl) ?_
          refine va_getN (D := D) (ci := 3) (v := .int (nI (i))) (C := RX3) (T := TX3) (N := 8) hx hb hts iX3 hown hZ.1 hP (PT i) (hT i hin) rfl 0 (by decide) (va_Nw.use rfl (hZ.2 (.fieldLinkNest RX4 189 RX3 "number" "I" "TapeRobotics") (List.mem_of_getElem? (i := 46) rfl))) (fun _ h9 => h9) rfl dX4_next_61 ?_
          refine zk_VN_i (n := 1) (As := [.int (nI (i))]) (rest := []) hx hb hml hts hown hZ hP (c_X1_countAt l D cA _ k1 jj nj dn wA fA dA hk1 kw fw hkw i hj60) ggX4_next_X1_countAt (List.mem_of_getElem? (i := 3) rfl) (by decide +kernel) rfl ⟨rfl, rfl⟩ ⟨by decide +kernel, Nat.le_of_ble_eq_true rfl, Nat.le_of_ble_eq_true rfl⟩ hk1 rfl hl.1 rfl (Nat.le_of_ble_eq_true rfl) ⟨Nat.le_of_ble_eq_true rfl, Nat.le_of_ble_eq_true rfl⟩ rfl dX4_next_64 (fun r_6 hr_7 => ?_)
          obtain rfl := show r_6 = _ from hr_7
          refine lv_istore (lv' := [(8, .int (nI ((wl fw (nI i) nj).length))), (7, .ref (T i)), (0, .ref h0), (4, .ref ta), (5, .int (nI (8))), (6, .int (nI (i))), (1, .int (oI o)), (2, .int (nI (y))), (3, .int (nI (z)))]) hx hb dX4_next_67 hl (by decide) rfl (fun ls hl => ?_)
          refine lv_aload_n hx hb dX4_next_69 rfl (lv_at hl 2 rfl) ?_
          refine va_get (D := D) (ci := 4) (v := .ref jj) (C := RX4) (T := TX4) (N := 6) hx hb hts iX4 hown hZ.1 hP k0 hk rfl 4 (by decide) (hts (.fieldLink RX4 31 "TapeRobotics" "jobs" "LTapeRobotics$Jobs;") (by decide +kernel)) (fun _ h9 => h9) rfl dX4_next_70 ?_
          refine lv_aload hx hb dX4_next_73 (lv_at hl 1 rfl) ?_
          refine va_getN (D := D) (ci := 3) (v := .int (nI (i))) (C := RX3) (T := TX3) (N := 8) hx hb hts iX3 hown hZ.1 hP (PT i) (hT i hin) rfl 0 (by decide) (va_Nw.use rfl (hZ.2 (.fieldLinkNest RX4 189 RX3 "number" "I" "TapeRobotics") (List.mem_of_getElem? (i := 46) rfl))) (fun _ h9 => h9) rfl dX4_next_75 ?_
          refine zk_VN_i (n := 1) (As := [.int (nI (i))]) (rest := []) hx hb hml hts hown hZ hP (c_X1_earliestDeadlineAt l D cA _ k1 jj nj dn wA fA dA hk1 kw fw hkw kd dl hkd i hj60 (fun k => Nat.lt_of_le_of_lt (hdl k) (by decide))) ggX4_next_X1_earliestDeadlineAt (List.mem_of_getElem? (i := 5) rfl) (by decide +kernel) rfl ⟨rfl, rfl⟩ ⟨by decide +kernel, Nat.le_of_ble_eq_true rfl, Nat.le_of_ble_eq_true rfl⟩ hk1 rfl hl.1 rfl (Nat.le_of_ble_eq_true rfl) ⟨Nat.le_of_ble_eq_true rfl, Nat.le_of_ble_eq_true rfl⟩ rfl dX4_next_78 (fun r_8 hr_9 => ?_)
          obtain rfl := show r_8 = _ from hr_9
          refine lv_istore (lv' := [(9, .int (nI (erl fw (nI i) dl nj))), (8, .int (nI ((wl fw (nI i) nj).length))), (7, .ref (T i)), (0, .ref h0), (4, .ref ta), (5, .int (nI (8))), (6, .int (nI (i))), (1, .int (oI o)), (2, .int (nI (y))), (3, .int (nI (z)))]) hx hb dX4_next_81 hl (by decide) rfl (fun ls hl => ?_)
          have hel9 : erl fw (nI i) dl nj ≤ 99999 := erl_le nj
          have hcn9 : (wl fw (nI i) nj).length ≤ 60 := Nat.le_trans (wl_le nj) hj60
          rcases o with _ | b
          · have ho9 : nxt mo la (fun q9 => (wl fw (nI q9) nj).length) (fun q9 => erl fw (nI q9) dl nj) i = none := by rw [(min_in hin).2] at ho; exact ho.symm
            refine lv_iload_n hx hb dX4_next_83 rfl (lv_at hl 7 rfl) ?_
            refine lv_iconst (v := (-1)) hx hb dX4_next_84 (by decide) ?_
            refine lv_icmp_eq (tgt := 106) hx hb dX4_next_85 (by decide) (fun c_10 => ?_) (fun c_10 => absurd rfl c_10)
            refine lv_iconst (v := bI (true)) hx hb dX4_next_106 (by decide) ?_
            refine lv_goto (tgt := 111) hx hb dX4_next_107 (by decide) ?_
            refine lv_istore (lv' := [(10, .int (bI (true))), (9, .int (nI (erl fw (nI i) dl nj))), (8, .int (nI ((wl fw (nI i) nj).length))), (7, .ref (T i)), (0, .ref h0), (4, .ref ta), (5, .int (nI (8))), (6, .int (nI (i))), (1, .int (oI none)), (2, .int (nI (y))), (3, .int (nI (z)))]) hx hb dX4_next_111 hl (by decide) rfl (fun ls hl => ?_)
            refine lv_iload hx hb dX4_next_113 (lv_at hl 2 rfl) ?_
            refine zf_le (tgt := 135) hx hb (by omega) dX4_next_115 (by decide) (fun c_11 => ?_) (fun c_11 => ?_)
            · refine lv_iinc (v := nI (i + 1)) (lv' := [(6, .int (nI (i + 1))), (10, .int (bI (true))), (9, .int (nI (erl fw (nI i) dl nj))), (8, .int (nI ((wl fw (nI i) nj).length))), (7, .ref (T i)), (0, .ref h0), (4, .ref ta), (5, .int (nI (8))), (1, .int (oI none)), (2, .int (nI (y))), (3, .int (nI (z)))]) hx hb dX4_next_135 hl (k := 7) rfl (zinc 1 _) (by decide) rfl (fun ls hl => ?_)
              refine lv_goto (tgt := 20) hx hb dX4_next_138 (by decide) ?_
              exact ih20 (i + 1, none, y, z) ls (by first | omega | (dsimp only; omega)) ⟨lv_sub hl [5, 6, 7, 0, 8, 9, 10] rfl, (by show _ = _; rw [(min_in hin).1, (min_in hin).2, nxt_cw (show (wl fw (nI i) nj).length = 0 by omega)]; rw [(min_in hin).2] at ho; exact ho), hob, by omega, hy9, hz9⟩
            · refine lv_iload hx hb dX4_next_118 (lv_at hl 0 rfl) ?_
              refine zb_eq (tgt := 135) hx hb dX4_next_120 (by decide) (fun c_12 => Bool.noConfusion c_12) (fun c_12 => ?_)
              refine lv_aload hx hb dX4_next_123 (lv_at hl 3 rfl) ?_
              refine va_getN (D := D) (ci := 3) (v := .int (nI (i))) (C := RX3) (T := TX3) (N := 8) hx hb hts iX3 hown hZ.1 hP (PT i) (hT i hin) rfl 0 (by decide) (va_Nw.use rfl (hZ.2 (.fieldLinkNest RX4 189 RX3 "number" "I" "TapeRobotics") (List.mem_of_getElem? (i := 46) rfl))) (fun _ h9 => h9) rfl dX4_next_125 ?_
              refine lv_istore_n (lv' := [(1, .int (nI (i))), (10, .int (bI (true))), (9, .int (nI (erl fw (nI i) dl nj))), (8, .int (nI ((wl fw (nI i) nj).length))), (7, .ref (T i)), (0, .ref h0), (4, .ref ta), (5, .int (nI (8))), (6, .int (nI (i))), (2, .int (nI (y))), (3, .int (nI (z)))]) hx hb dX4_next_128 rfl hl (by decide) rfl (fun ls hl => ?_)
              refine lv_iload hx hb dX4_next_129 (lv_at hl 2 rfl) ?_
              refine lv_istore_n (lv' := [(2, .int (nI (erl fw (nI i) dl nj))), (1, .int (nI (i))), (10, .int (bI (true))), (9, .int (nI (erl fw (nI i) dl nj))), (8, .int (nI ((wl fw (nI i) nj).length))), (7, .ref (T i)), (0, .ref h0), (4, .ref ta), (5, .int (nI (8))), (6, .int (nI (i))), (3, .int (nI (z)))]) hx hb dX4_next_131 rfl hl (by decide) rfl (fun ls hl => ?_)
              refine lv_iload hx hb dX4_next_132 (lv_at hl 4 rfl) ?_
              refine lv_istore_n (lv' := [(3, .int (nI ((wl fw (nI i) nj).length))), (2, .int (nI (erl fw (nI i) dl nj))), (1, .int (nI (i))), (10, .int (bI (true))), (9, .int (nI (erl fw (nI i) dl nj))), (8, .int (nI ((wl fw (nI i) nj).length))), (7, .ref (T i)), (0, .ref h0), (4, .ref ta), (5, .int (nI (8))), (6, .int (nI (i)))]) hx hb dX4_next_134 rfl hl (by decide) rfl (fun ls hl => ?_)
              refine lv_iinc (v := nI (i + 1)) (lv' := [(6, .int (nI (i + 1))), (3, .int (nI ((wl fw (nI i) nj).length))), (2, .int (nI (erl fw (nI i) dl nj))), (1, .int (nI (i))), (10, .int (bI (true))), (9, .int (nI (erl fw (nI i) dl nj))), (8, .int (nI ((wl fw (nI i) nj).length))), (7, .ref (T i)), (0, .ref h0), (4, .ref ta), (5, .int (nI (8)))]) hx hb dX4_next_135 hl (k := 10) rfl (zinc 1 _) (by decide) rfl (fun ls hl => ?_)
              refine lv_goto (tgt := 20) hx hb dX4_next_138 (by decide) ?_
              exact ih20 (i + 1, (some i), erl fw (nI i) dl nj, (wl fw (nI i) nj).length) ls (by first | omega | (dsimp only; omega)) ⟨lv_sub hl [8, 9, 10, 0, 3, 2, 1] rfl, (by show _ = _; rw [(min_in hin).1, (min_in hin).2]; exact (nxt_new (by assumption) (by assumption) (by omega) ho9).symm), (fun b hb9 => by cases hb9; exact ⟨rfl, rfl, hin⟩), by omega, (show erl fw (nI i) dl nj ≤ 99999 from hel9), (show (wl fw (nI i) nj).length ≤ 60 from hcn9)⟩
          · have ho9 : nxt mo la (fun q9 => (wl fw (nI q9) nj).length) (fun q9 => erl fw (nI q9) dl nj) i = some b := by rw [(min_in hin).2] at ho; exact ho.symm
            obtain ⟨hyb, hzb, hbn⟩ := hob b rfl
            refine lv_iload_n hx hb dX4_next_83 rfl (lv_at hl 7 rfl) ?_
            refine lv_iconst (v := (-1)) hx hb dX4_next_84 (by decide) ?_
            refine lv_icmp_eq (tgt := 106) hx hb dX4_next_85 (by decide) (fun c_13 => absurd c_13 (nI_nm1 (by omega))) (fun c_13 => ?_)
            refine lv_iload hx hb dX4_next_88 (lv_at hl 0 rfl) ?_
            refine lv_iload_n hx hb dX4_next_90 rfl (lv_at hl 8 rfl) ?_
            refine zc_lt (tgt := 106) hx hb (by omega) (by omega) dX4_next_91 (by decide) (fun c_14 => ?_) (fun c_14 => ?_)
            · refine lv_iconst (v := bI (true)) hx hb dX4_next_106 (by decide) ?_
              refine lv_goto (tgt := 111) hx hb dX4_next_107 (by decide) ?_
              refine lv_istore (lv' := [(10, .int (bI (true))), (9, .int (nI (erl fw (nI i) dl nj))), (8, .int (nI ((wl fw (nI i) nj).length))), (7, .ref (T i)), (0, .ref h0), (4, .ref ta), (5, .int (nI (8))), (6, .int (nI (i))), (1, .int (oI (some b))), (2, .int (nI (y))), (3, .int (nI (z)))]) hx hb dX4_next_111 hl (by decide) rfl (fun ls hl => ?_)
              refine lv_iload hx hb dX4_next_113 (lv_at hl 2 rfl) ?_
              refine zf_le (tgt := 135) hx hb (by omega) dX4_next_115 (by decide) (fun c_15 => ?_) (fun c_15 => ?_)
              · refine lv_iinc (v := nI (i + 1)) (lv' := [(6, .int (nI (i + 1))), (10, .int (bI (true))), (9, .int (nI (erl fw (nI i) dl nj))), (8, .int (nI ((wl fw (nI i) nj).length))), (7, .ref (T i)), (0, .ref h0), (4, .ref ta), (5, .int (nI (8))), (1, .int (oI (some b))), (2, .int (nI (y))), (3, .int (nI (z)))]) hx hb dX4_next_135 hl (k := 7) rfl (zinc 1 _) (by decide) rfl (fun ls hl => ?_)
                refine lv_goto (tgt := 20) hx hb dX4_next_138 (by decide) ?_
                exact ih20 (i + 1, (some b), y, z) ls (by first | omega | (dsimp only; omega)) ⟨lv_sub hl [5, 6, 7, 0, 8, 9, 10] rfl, (by show _ = _; rw [(min_in hin).1, (min_in hin).2, nxt_cw (show (wl fw (nI i) nj).length = 0 by omega)]; rw [(min_in hin).2] at ho; exact ho), hob, by omega, hy9, hz9⟩
              · refine lv_iload hx hb dX4_next_118 (lv_at hl 0 rfl) ?_
                refine zb_eq (tgt := 135) hx hb dX4_next_120 (by decide) (fun c_16 => Bool.noConfusion c_16) (fun c_16 => ?_)
                refine lv_aload hx hb dX4_next_123 (lv_at hl 3 rfl) ?_
                refine va_getN (D := D) (ci := 3) (v := .int (nI (i))) (C := RX3) (T := TX3) (N := 8) hx hb hts iX3 hown hZ.1 hP (PT i) (hT i hin) rfl 0 (by decide) (va_Nw.use rfl (hZ.2 (.fieldLinkNest RX4 189 RX3 "number" "I" "TapeRobotics") (List.mem_of_getElem? (i := 46) rfl))) (fun _ h9 => h9) rfl dX4_next_125 ?_
                refine lv_istore_n (lv' := [(1, .int (nI (i))), (10, .int (bI (true))), (9, .int (nI (erl fw (nI i) dl nj))), (8, .int (nI ((wl fw (nI i) nj).length))), (7, .ref (T i)), (0, .ref h0), (4, .ref ta), (5, .int (nI (8))), (6, .int (nI (i))), (2, .int (nI (y))), (3, .int (nI (z)))]) hx hb dX4_next_128 rfl hl (by decide) rfl (fun ls hl => ?_)
                refine lv_iload hx hb dX4_next_129 (lv_at hl 2 rfl) ?_
                refine lv_istore_n (lv' := [(2, .int (nI (erl fw (nI i) dl nj))), (1, .int (nI (i))), (10, .int (bI (true))), (9, .int (nI (erl fw (nI i) dl nj))), (8, .int (nI ((wl fw (nI i) nj).length))), (7, .ref (T i)), (0, .ref h0), (4, .ref ta), (5, .int (nI (8))), (6, .int (nI (i))), (3, .int (nI (z)))]) hx hb dX4_next_131 rfl hl (by decide) rfl (fun ls hl => ?_)
                refine lv_iload hx hb dX4_next_132 (lv_at hl 4 rfl) ?_
                refine lv_istore_n (lv' := [(3, .int (nI ((wl fw (nI i) nj).length))), (2, .int (nI (erl fw (nI i) dl nj))), (1, .int (nI (i))), (10, .int (bI (true))), (9, .int (nI (erl fw (nI i) dl nj))), (8, .int (nI ((wl fw (nI i) nj).length))), (7, .ref (T i)), (0, .ref h0), (4, .ref ta), (5, .int (nI (8))), (6, .int (nI (i)))]) hx hb dX4_next_134 rfl hl (by decide) rfl (fun ls hl => ?_)
                refine lv_iinc (v := nI (i + 1)) (lv' := [(6, .int (nI (i + 1))), (3, .int (nI ((wl fw (nI i) nj).length))), (2, .int (nI (erl fw (nI i) dl nj))), (1, .int (nI (i))), (10, .int (bI (true))), (9, .int (nI (erl fw (nI i) dl nj))), (8, .int (nI ((wl fw (nI i) nj).length))), (7, .ref (T i)), (0, .ref h0), (4, .ref ta), (5, .int (nI (8)))]) hx hb dX4_next_135 hl (k := 10) rfl (zinc 1 _) (by decide) rfl (fun ls hl => ?_)
                refine lv_goto (tgt := 20) hx hb dX4_next_138 (by decide) ?_
                exact ih20 (i + 1, (some i), erl fw (nI i) dl nj, (wl fw (nI i) nj).length) ls (by first | omega | (dsimp only; omega)) ⟨lv_sub hl [8, 9, 10, 0, 3, 2, 1] rfl, (by show _ = _; rw [(min_in hin).1, (min_in hin).2]; first | (rw [nxt_lt (by assumption) (by assumption) (show 0 < (wl fw (nI i) nj).length by omega) ho9 (show erl fw (nI i) dl nj < erl fw (nI b) dl nj by omega)]; done) | (rw [nxt_eq (by assumption) (by assumption) (show 0 < (wl fw (nI i) nj).length by omega) ho9 (show erl fw (nI i) dl nj = erl fw (nI b) dl nj by omega) (show (wl fw (nI b) nj).length < (wl fw (nI i) nj).length by omega)])), (fun b hb9 => by cases hb9; exact ⟨rfl, rfl, hin⟩), by omega, (show erl fw (nI i) dl nj ≤ 99999 from hel9), (show (wl fw (nI i) nj).length ≤ 60 from hcn9)⟩
            · refine lv_iload hx hb dX4_next_94 (lv_at hl 0 rfl) ?_
              refine lv_iload_n hx hb dX4_next_96 rfl (lv_at hl 8 rfl) ?_
              refine zc_ne (tgt := 110) hx hb (by omega) (by omega) dX4_next_97 (by decide) (fun c_17 => ?_) (fun c_17 => ?_)
              · refine lv_iconst (v := bI (false)) hx hb dX4_next_110 (by decide) ?_
                refine lv_istore (lv' := [(10, .int (bI (false))), (9, .int (nI (erl fw (nI i) dl nj))), (8, .int (nI ((wl fw (nI i) nj).length))), (7, .ref (T i)), (0, .ref h0), (4, .ref ta), (5, .int (nI (8))), (6, .int (nI (i))), (1, .int (oI (some b))), (2, .int (nI (y))), (3, .int (nI (z)))]) hx hb dX4_next_111 hl (by decide) rfl (fun ls hl => ?_)
                refine lv_iload hx hb dX4_next_113 (lv_at hl 2 rfl) ?_
                refine zf_le (tgt := 135) hx hb (by omega) dX4_next_115 (by decide) (fun c_18 => ?_) (fun c_18 => ?_)
                · refine lv_iinc (v := nI (i + 1)) (lv' := [(6, .int (nI (i + 1))), (10, .int (bI (false))), (9, .int (nI (erl fw (nI i) dl nj))), (8, .int (nI ((wl fw (nI i) nj).length))), (7, .ref (T i)), (0, .ref h0), (4, .ref ta), (5, .int (nI (8))), (1, .int (oI (some b))), (2, .int (nI (y))), (3, .int (nI (z)))]) hx hb dX4_next_135 hl (k := 7) rfl (zinc 1 _) (by decide) rfl (fun ls hl => ?_)
                  refine lv_goto (tgt := 20) hx hb dX4_next_138 (by decide) ?_
                  exact ih20 (i + 1, (some b), y, z) ls (by first | omega | (dsimp only; omega)) ⟨lv_sub hl [5, 6, 7, 0, 8, 9, 10] rfl, (by show _ = _; rw [(min_in hin).1, (min_in hin).2, nxt_no ho9 (show ¬ erl fw (nI i) dl nj < erl fw (nI b) dl nj by omega) (fun h9 => show ¬ (wl fw (nI b) nj).length < (wl fw (nI i) nj).length from by have h8 : erl fw (nI i) dl nj = erl fw (nI b) dl nj := h9; omega)]; rw [(min_in hin).2] at ho; exact ho), hob, by omega, hy9, hz9⟩
                · refine lv_iload hx hb dX4_next_118 (lv_at hl 0 rfl) ?_
                  refine zb_eq (tgt := 135) hx hb dX4_next_120 (by decide) (fun c_19 => ?_) (fun c_19 => Bool.noConfusion c_19)
                  refine lv_iinc (v := nI (i + 1)) (lv' := [(6, .int (nI (i + 1))), (10, .int (bI (false))), (9, .int (nI (erl fw (nI i) dl nj))), (8, .int (nI ((wl fw (nI i) nj).length))), (7, .ref (T i)), (0, .ref h0), (4, .ref ta), (5, .int (nI (8))), (1, .int (oI (some b))), (2, .int (nI (y))), (3, .int (nI (z)))]) hx hb dX4_next_135 hl (k := 7) rfl (zinc 1 _) (by decide) rfl (fun ls hl => ?_)
                  refine lv_goto (tgt := 20) hx hb dX4_next_138 (by decide) ?_
                  exact ih20 (i + 1, (some b), y, z) ls (by first | omega | (dsimp only; omega)) ⟨lv_sub hl [5, 6, 7, 0, 8, 9, 10] rfl, (by show _ = _; rw [(min_in hin).1, (min_in hin).2, nxt_no ho9 (show ¬ erl fw (nI i) dl nj < erl fw (nI b) dl nj by omega) (fun h9 => show ¬ (wl fw (nI b) nj).length < (wl fw (nI i) nj).length from by have h8 : erl fw (nI i) dl nj = erl fw (nI b) dl nj := h9; omega)]; rw [(min_in hin).2] at ho; exact ho), hob, by omega, hy9, hz9⟩
              · refine lv_iload hx hb dX4_next_100 (lv_at hl 1 rfl) ?_
                refine lv_iload_n hx hb dX4_next_102 rfl (lv_at hl 9 rfl) ?_
                refine zc_le (tgt := 110) hx hb (by omega) (by omega) dX4_next_103 (by decide) (fun c_20 => ?_) (fun c_20 => ?_)
                · refine lv_iconst (v := bI (false)) hx hb dX4_next_110 (by decide) ?_
                  refine lv_istore (lv' := [(10, .int (bI (false))), (9, .int (nI (erl fw (nI i) dl nj))), (8, .int (nI ((wl fw (nI i) nj).length))), (7, .ref (T i)), (0, .ref h0), (4, .ref ta), (5, .int (nI (8))), (6, .int (nI (i))), (1, .int (oI (some b))), (2, .int (nI (y))), (3, .int (nI (z)))]) hx hb dX4_next_111 hl (by decide) rfl (fun ls hl => ?_)
                  refine lv_iload hx hb dX4_next_113 (lv_at hl 2 rfl) ?_
                  refine zf_le (tgt := 135) hx hb (by omega) dX4_next_115 (by decide) (fun c_21 => ?_) (fun c_21 => ?_)
                  · refine lv_iinc (v := nI (i + 1)) (lv' := [(6, .int (nI (i + 1))), (10, .int (bI (false))), (9, .int (nI (erl fw (nI i) dl nj))), (8, .int (nI ((wl fw (nI i) nj).length))), (7, .ref (T i)), (0, .ref h0), (4, .ref ta), (5, .int (nI (8))), (1, .int (oI (some b))), (2, .int (nI (y))), (3, .int (nI (z)))]) hx hb dX4_next_135 hl (k := 7) rfl (zinc 1 _) (by decide) rfl (fun ls hl => ?_)
                    refine lv_goto (tgt := 20) hx hb dX4_next_138 (by decide) ?_
                    exact ih20 (i + 1, (some b), y, z) ls (by first | omega | (dsimp only; omega)) ⟨lv_sub hl [5, 6, 7, 0, 8, 9, 10] rfl, (by show _ = _; rw [(min_in hin).1, (min_in hin).2, nxt_no ho9 (show ¬ erl fw (nI i) dl nj < erl fw (nI b) dl nj by omega) (fun h9 => show ¬ (wl fw (nI b) nj).length < (wl fw (nI i) nj).length from by have h8 : erl fw (nI i) dl nj = erl fw (nI b) dl nj := h9; omega)]; rw [(min_in hin).2] at ho; exact ho), hob, by omega, hy9, hz9⟩
                  · refine lv_iload hx hb dX4_next_118 (lv_at hl 0 rfl) ?_
                    refine zb_eq (tgt := 135) hx hb dX4_next_120 (by decide) (fun c_22 => ?_) (fun c_22 => Bool.noConfusion c_22)
                    refine lv_iinc (v := nI (i + 1)) (lv' := [(6, .int (nI (i + 1))), (10, .int (bI (false))), (9, .int (nI (erl fw (nI i) dl nj))), (8, .int (nI ((wl fw (nI i) nj).length))), (7, .ref (T i)), (0, .ref h0), (4, .ref ta), (5, .int (nI (8))), (1, .int (oI (some b))), (2, .int (nI (y))), (3, .int (nI (z)))]) hx hb dX4_next_135 hl (k := 7) rfl (zinc 1 _) (by decide) rfl (fun ls hl => ?_)
                    refine lv_goto (tgt := 20) hx hb dX4_next_138 (by decide) ?_
                    exact ih20 (i + 1, (some b), y, z) ls (by first | omega | (dsimp only; omega)) ⟨lv_sub hl [5, 6, 7, 0, 8, 9, 10] rfl, (by show _ = _; rw [(min_in hin).1, (min_in hin).2, nxt_no ho9 (show ¬ erl fw (nI i) dl nj < erl fw (nI b) dl nj by omega) (fun h9 => show ¬ (wl fw (nI b) nj).length < (wl fw (nI i) nj).length from by have h8 : erl fw (nI i) dl nj = erl fw (nI b) dl nj := h9; omega)]; rw [(min_in hin).2] at ho; exact ho), hob, by omega, hy9, hz9⟩
                · refine lv_iconst (v := bI (true)) hx hb dX4_next_106 (by decide) ?_
                  refine lv_goto (tgt := 111) hx hb dX4_next_107 (by decide) ?_
                  refine lv_istore (lv' := [(10, .int (bI (true))), (9, .int (nI (erl fw (nI i) dl nj))), (8, .int (nI ((wl fw (nI i) nj).length))), (7, .ref (T i)), (0, .ref h0), (4, .ref ta), (5, .int (nI (8))), (6, .int (nI (i))), (1, .int (oI (some b))), (2, .int (nI (y))), (3, .int (nI (z)))]) hx hb dX4_next_111 hl (by decide) rfl (fun ls hl => ?_)
                  refine lv_iload hx hb dX4_next_113 (lv_at hl 2 rfl) ?_
                  refine zf_le (tgt := 135) hx hb (by omega) dX4_next_115 (by decide) (fun c_23 => ?_) (fun c_23 => ?_)
                  · refine lv_iinc (v := nI (i + 1)) (lv' := [(6, .int (nI (i + 1))), (10, .int (bI (true))), (9, .int (nI (erl fw (nI i) dl nj))), (8, .int (nI ((wl fw (nI i) nj).length))), (7, .ref (T i)), (0, .ref h0), (4, .ref ta), (5, .int (nI (8))), (1, .int (oI (some b))), (2, .int (nI (y))), (3, .int (nI (z)))]) hx hb dX4_next_135 hl (k := 7) rfl (zinc 1 _) (by decide) rfl (fun ls hl => ?_)
                    refine lv_goto (tgt := 20) hx hb dX4_next_138 (by decide) ?_
                    exact ih20 (i + 1, (some b), y, z) ls (by first | omega | (dsimp only; omega)) ⟨lv_sub hl [5, 6, 7, 0, 8, 9, 10] rfl, (by show _ = _; rw [(min_in hin).1, (min_in hin).2, nxt_cw (show (wl fw (nI i) nj).length = 0 by omega)]; rw [(min_in hin).2] at ho; exact ho), hob, by omega, hy9, hz9⟩
                  · refine lv_iload hx hb dX4_next_118 (lv_at hl 0 rfl) ?_
                    refine zb_eq (tgt := 135) hx hb dX4_next_120 (by decide) (fun c_24 => Bool.noConfusion c_24) (fun c_24 => ?_)
                    refine lv_aload hx hb dX4_next_123 (lv_at hl 3 rfl) ?_
                    refine va_getN (D := D) (ci := 3) (v := .int (nI (i))) (C := RX3) (T := TX3) (N := 8) hx hb hts iX3 hown hZ.1 hP (PT i) (hT i hin) rfl 0 (by decide) (va_Nw.use rfl (hZ.2 (.fieldLinkNest RX4 189 RX3 "number" "I" "TapeRobotics") (List.mem_of_getElem? (i := 46) rfl))) (fun _ h9 => h9) rfl dX4_next_125 ?_
                    refine lv_istore_n (lv' := [(1, .int (nI (i))), (10, .int (bI (true))), (9, .int (nI (erl fw (nI i) dl nj))), (8, .int (nI ((wl fw (nI i) nj).length))), (7, .ref (T i)), (0, .ref h0), (4, .ref ta), (5, .int (nI (8))), (6, .int (nI (i))), (2, .int (nI (y))), (3, .int (nI (z)))]) hx hb dX4_next_128 rfl hl (by decide) rfl (fun ls hl => ?_)
                    refine lv_iload hx hb dX4_next_129 (lv_at hl 2 rfl) ?_
                    refine lv_istore_n (lv' := [(2, .int (nI (erl fw (nI i) dl nj))), (1, .int (nI (i))), (10, .int (bI (true))), (9, .int (nI (erl fw (nI i) dl nj))), (8, .int (nI ((wl fw (nI i) nj).length))), (7, .ref (T i)), (0, .ref h0), (4, .ref ta), (5, .int (nI (8))), (6, .int (nI (i))), (3, .int (nI (z)))]) hx hb dX4_next_131 rfl hl (by decide) rfl (fun ls hl => ?_)
                    refine lv_iload hx hb dX4_next_132 (lv_at hl 4 rfl) ?_
                    refine lv_istore_n (lv' := [(3, .int (nI ((wl fw (nI i) nj).length))), (2, .int (nI (erl fw (nI i) dl nj))), (1, .int (nI (i))), (10, .int (bI (true))), (9, .int (nI (erl fw (nI i) dl nj))), (8, .int (nI ((wl fw (nI i) nj).length))), (7, .ref (T i)), (0, .ref h0), (4, .ref ta), (5, .int (nI (8))), (6, .int (nI (i)))]) hx hb dX4_next_134 rfl hl (by decide) rfl (fun ls hl => ?_)
                    refine lv_iinc (v := nI (i + 1)) (lv' := [(6, .int (nI (i + 1))), (3, .int (nI ((wl fw (nI i) nj).length))), (2, .int (nI (erl fw (nI i) dl nj))), (1, .int (nI (i))), (10, .int (bI (true))), (9, .int (nI (erl fw (nI i) dl nj))), (8, .int (nI ((wl fw (nI i) nj).length))), (7, .ref (T i)), (0, .ref h0), (4, .ref ta), (5, .int (nI (8)))]) hx hb dX4_next_135 hl (k := 10) rfl (zinc 1 _) (by decide) rfl (fun ls hl => ?_)
                    refine lv_goto (tgt := 20) hx hb dX4_next_138 (by decide) ?_
                    exact ih20 (i + 1, (some i), erl fw (nI i) dl nj, (wl fw (nI i) nj).length) ls (by first | omega | (dsimp only; omega)) ⟨lv_sub hl [8, 9, 10, 0, 3, 2, 1] rfl, (by show _ = _; rw [(min_in hin).1, (min_in hin).2]; first | (rw [nxt_lt (by assumption) (by assumption) (show 0 < (wl fw (nI i) nj).length by omega) ho9 (show erl fw (nI i) dl nj < erl fw (nI b) dl nj by omega)]; done) | (rw [nxt_eq (by assumption) (by assumption) (show 0 < (wl fw (nI i) nj).length by omega) ho9 (show erl fw (nI i) dl nj = erl fw (nI b) dl nj by omega) (show (wl fw (nI b) nj).length < (wl fw (nI i) nj).length by omega)])), (fun b hb9 => by cases hb9; exact ⟨rfl, rfl, hin⟩), by omega, (show erl fw (nI i) dl nj ≤ 99999 from hel9), (show (wl fw (nI i) nj).length ≤ 60 from hcn9)⟩
    · refine lv_aload hx hb dX4_next_27 (lv_at hl 1 rfl) ?_
      refine lv_iload hx hb dX4_next_29 (lv_at hl 3 rfl) ?_
      refine va_aldq hx hb hZ.1 hP kt 1 hkt rfl (vp_in_nI (show i < 8 by omega) (by omega)) dX4_next_31 ?_
      rw [nI_clamp (show i < 2 ^ 31 by omega)]
      refine zx_v (b := .null) (by rw [rng_out hin]; rfl) ?_
      refine lv_astoreN (lv' := [(7, .null), (0, .ref h0), (4, .ref ta), (5, .int (nI (8))), (6, .int (nI (i))), (1, .int (oI o)), (2, .int (nI (y))), (3, .int (nI (z)))]) hx hb dX4_next_32 hl (by decide) rfl (fun ls hl => ?_)
      refine lv_aloadN hx hb dX4_next_34 (lv_at hl 0 rfl) ?_
      refine lv_ifnullN (tgt := 135) hx hb dX4_next_36 (by decide) ?_
      refine lv_iinc (v := nI (i + 1)) (lv' := [(6, .int (nI (i + 1))), (7, .null), (0, .ref h0), (4, .ref ta), (5, .int (nI (8))), (1, .int (oI o)), (2, .int (nI (y))), (3, .int (nI (z)))]) hx hb dX4_next_135 hl (k := 4) rfl (zinc 1 _) (by decide) rfl (fun ls hl => ?_)
      refine lv_goto (tgt := 20) hx hb dX4_next_138 (by decide) ?_
      exact ih20 (i + 1, o, y, z) ls (by first | omega | (dsimp only; omega)) ⟨lv_sub hl [2, 3, 4, 0, 5, 6, 7] rfl, (by show _ = _; rw [min_out hin]; exact ho), hob, by omega, hy9, hz9⟩
