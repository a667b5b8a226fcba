theorem erm_erl {f : Nat → Int32} {x : Int32} {d : Nat → Nat} (hd : ∀ k, d k ≤ 99999) : ∀ (n : Nat), erm f x d n = if (wl f x n).length = 0 then 100000 else erl f x d n
  | 0 => rfl
  | n + 1 => by
    have ih := erm_erl (f := f) (x := x) hd n
    have h1 := hd n
    rw [erm]
    by_cases h : f n = x
    · rw [erl_y h, wl_y h, List.length_append, if_neg (show ¬ ((wl f x n).length + [n].length = 0) by simp)]
      rw [ih]
      by_cases e : (wl f x n).length = 0
      · have e2 : erl f x d n = 99999 := by
          unfold erl; rw [List.length_eq_zero_iff.mp e]; rfl
        rw [if_pos e, if_pos ⟨h, by omega⟩, e2]; omega
      · rw [if_neg e]
        by_cases e3 : d n < erl f x d n
        · rw [if_pos ⟨h, e3⟩]; omega
        · rw [if_neg (fun q => e3 q.2)]; omega
    · rw [erl_n h, wl_n h, if_neg (fun q => h q.1)]; exact ih
theorem erm_pos {f : Nat → Int32} {x : Int32} {d : Nat → Nat} {n : Nat} (hd : ∀ k, d k ≤ 99999) (h : 0 < (wl f x n).length) : erm f x d n = erl f x d n := by rw [erm_erl hd, if_neg (by omega)]
set_option maxHeartbeats 4000000 in
set_option maxRecDepth 100000 in
theorem c_X5_next (l : Launch) (D : va_G) (cA : Nat → ClassId) (sz : Nat) (ws : va_W) {gd : Nat → Nat} {n : Nat} {tr : Nat → Nat} {le : Nat → Nat} {sl : Nat → Nat} {mo : Nat → Option Nat} {la : Nat → Bool} {fc : Nat → Nat} {sf : Nat → Int32} {bf : Nat → Int32} {nd : Nat} {mk : Nat → Nat} {ck : Nat → Int32} {ct : Nat → Nat} {hd : Nat → Option Nat} {pf : Nat → Int32} {nj : Nat} {jt : Nat → Int32} {jf : Nat → Nat} {dl : Nat → Nat} {fin : Nat → Bool} {my : Nat} {fls : Nat → Int32} {fod : Nat → Int32} {fle : Nat → Int32} {fro : Nat → Int32} {th : Nat} {bo : Nat → Nat → Nat} {pq : Nat → Int32} {fw : Nat → Int32} {dn : Nat} (hm : mL cA ws gd n tr le sl mo la fc sf bf nd mk ck ct hd pf nj jt jf dl fin my fls fod fle fro th) (hI : zI n tr le sl mo fc bo nd mk ct hd pq nj fw jf dl) (hM : mI n la fc bo nd ck ct hd pq pf nj fw jt fin sf bf dn)  : Met l yX5_next wsX5_next ({ frames := 2, cells := 0, slots := 0, locals := 45 }) (va_Pc [.ref (gd 0)] (zM D cA (ws) sz)) (va_Qi (fun (r : Int32) (u : va_W) => r = oI (nxt mo la (fun q9 => (wl fw (nI q9) nj).length) (fun q9 => erl fw (nI q9) dl nj) n) ∧ mKeep ws u ∧ mL cA u gd n tr le sl mo la fc sf bf nd mk ck ct hd pf nj jt jf dl fin my fls fod fle fro 0) (fun u => zB D (va_A (ws) sz) (u)) (va_A (ws) sz)) 0 0 (va_A (ws) sz) := by
  refine zOpen (cc := cX5_next) (maxL := 4) (ret := (some .int)) (own := RX5) (by decide) rfl rfl (Nat.le_of_ble_eq_true rfl) ?_
  intro p e s m below meth c ls hx hb hr hml hts hown hlocks hnm ⟨hZ, hP, hD0, hsz⟩ hl
  subst hsz
  have hD := hD0.self (sz := s.heap.size)
  generalize hAe : va_A (ws) s.heap.size = A at hD ⊢
  have hA : ∀ q : Nat, s.heap.size ≤ q → A q := fun q h => by rw [← hAe]; exact Or.inr h
  have hS : va_S A s.heap s.heap [] := va_S.rf
  have iX5 : ∀ w ∈ wsX50, w ∈ wsX5_next := by decide +kernel
  have hl : lv_has ls 4 [(0, .ref (gd 0))] := hl
  have hm0 := hm
  have hI0 := hI
  have hM0 := hM
  obtain ⟨hn8, hd3, hj60, hIT, hID, hIJ, hIdl, hIw⟩ := hI
  obtain ⟨hM1, hM2, hM3, hM4, hM5, hM6, hM7⟩ := hM
  obtain ⟨m0, m1, m2, m3, m4, m5, m6, m7, m8, m9, m10, m11, m12, m13, m14, m15, m16, m17, m18, m19, m20, m21⟩ := hm
  have hfc10 : ∀ i, i < n → fc i ≤ 10 := fun i hi => (hIT i hi).2.2.2.2.2.2.1
  have hsl12 : ∀ i, i < n → sl i < 12 := fun i hi => (hIT i hi).2.2.2.2.1
  have hH8 : ∀ j, j < nd → ∀ t, hd j = some t → t < 8 := fun j hj t h => by have := ((hID j hj).2.2.2 t h).1; omega
  have hmo3 : ∀ i, i < n → ∀ j, mo i = some j → j < nd := fun i hi j h => ((hIT i hi).2.2.2.2.2.1 j h).1
  have hfw : ∀ k, k < nj → fw k = if fin k then -1 else jt k := fun k hk => (hM5 k hk).1
  refine lv_aload_n hx hb dX5_next_0 rfl (lv_at hl 0 rfl) ?_
  refine lv_iconst (v := nI (0)) hx hb dX5_next_1 (by decide) ?_
  refine va_put (D := D) (ci := 5) (v := .int (nI (0))) (ty := .int) (C := RX5) (T := TX5) (N := 26) hx hb hts iX5 tyX5 tyX5_ok nmX5 hown hZ.1 hP hD hS 0 m0 rfl 25 (by decide) (hts (.fieldLink RX5 74 "TapeRoboticsModel" "thrown" "I") (by decide +kernel)) (fun _ h9 => h9) rfl (by decide +kernel) rfl rfl (Nat.le_of_ble_eq_true rfl) dX5_next_2 (fun H locs hP hD hS => ?_)
  have hP : va_P D vwCl (ws.set 0 (gd 0, zMod gd n nd nj my 0)) H := hP
  have hD : va_D A (ws.set 0 (gd 0, zMod gd n nd nj my 0)) := hD
  refine lv_iconst (v := (-1)) hx hb dX5_next_5 (by decide) ?_
  refine lv_istore_n (lv' := [(1, .int ((-1))), (0, .ref (gd 0))]) hx hb dX5_next_6 rfl hl (by decide) rfl (fun ls hl => ?_)
  refine lv_iconst (v := nI (0)) hx hb dX5_next_7 (by decide) ?_
  refine lv_istore_n (lv' := [(2, .int (nI (0))), (1, .int ((-1))), (0, .ref (gd 0))]) hx hb dX5_next_8 rfl hl (by decide) rfl (fun ls hl => ?_)
  refine z_loop (α := Nat × Option Nat) (fun v => n - v.1) (fun v ls => lv_has ls 4 [(0, .ref (gd 0)), (2, .int (nI (v.1))), (1, .int (oI v.2))] ∧ v.2 = nxt mo la (fun q9 => (wl fw (nI q9) nj).length) (fun q9 => erl fw (nI q9) dl nj) v.1 ∧ v.1 ≤ n) (fun _ => []) (0, none) ⟨lv_sub hl [2, 0, 1] rfl, rfl, Nat.zero_le _⟩ ?_
  intro v ih9 ls hv
  obtain ⟨i, o⟩ := v
  obtain ⟨hl, hI⟩ := hv
  have hl : lv_has ls 4 [(0, .ref (gd 0)), (2, .int (nI (i))), (1, .int (oI o))] := hl
  have hI : o = nxt mo la (fun q9 => (wl fw (nI q9) nj).length) (fun q9 => erl fw (nI q9) dl nj) i ∧ i ≤ n := hI
  obtain ⟨ho, hi⟩ := hI
  refine lv_iload_n hx hb dX5_next_9 rfl (lv_at hl 1 rfl) ?_
  refine lv_aload_n hx hb dX5_next_10 rfl (lv_at hl 0 rfl) ?_
  refine va_get (D := D) (ci := 5) (v := .int (nI (n))) (C := RX5) (T := TX5) (N := 26) hx hb hts iX5 hown hZ.1 hP 0 (zset_s m0) rfl 0 (by decide) (hts (.fieldLink RX5 78 "TapeRoboticsModel" "tapes" "I") (by decide +kernel)) (fun _ h9 => h9) rfl dX5_next_11 ?_
  refine zc_ge (tgt := 120) hx hb (by omega) (by omega) dX5_next_14 (by decide) (fun c_1 => ?_) (fun c_1 => ?_)
  · refine lv_iload_n hx hb dX5_next_120 rfl (lv_at hl 2 rfl) ?_
    exact zr_qi (S := va_W) (w1 := fun u => u) (ws.set 0 (gd 0, zMod gd n nd nj my 0)) hx hb hr hlocks (⟨by rw [ho, show i = n by omega], (mKeep_set mKeep_rf (by decide)), (mL_0 hm0 n nd nj my 0)⟩) hP hD hS (rfl) dX5_next_121
  · have hwl9 := wl_le (f := fw) (x := nI i) nj
    have hsi9 := hsl12 i (by omega)
    rcases hmi : mo i with _ | j9
    · refine lv_aload_n hx hb dX5_next_17 rfl (lv_at hl 0 rfl) ?_
      refine va_get (D := D) (ci := 5) (v := .ref (gd 4)) (C := RX5) (T := TX5) (N := 26) hx hb hts iX5 hown hZ.1 hP 0 (zset_s m0) rfl 4 (by decide) (hts (.fieldLink RX5 19 "TapeRoboticsModel" "mounted" "[I") (by decide +kernel)) (fun _ h9 => h9) rfl dX5_next_18 ?_
      refine lv_iload_n hx hb dX5_next_21 rfl (lv_at hl 1 rfl) ?_
      refine va_iald hx hb hZ.1 hP 4 0 (zset_n m4 (by decide)) rfl (vp_in_nI (show i < 8 by omega) (by omega)) dX5_next_22 ?_
      rw [nI_clamp (show i < 2 ^ 31 by omega)]
      refine zx_val (y := (-1)) (by rw [hmi]; rfl) ?_
      refine lv_iconst (v := (-1)) hx hb dX5_next_23 (by decide) ?_
      refine lv_icmp_ne (tgt := 114) hx hb dX5_next_24 (by decide) (fun c_2 => absurd rfl c_2) (fun c_2 => ?_)
      refine lv_aload_n hx hb dX5_next_27 rfl (lv_at hl 0 rfl) ?_
      refine va_get (D := D) (ci := 5) (v := .ref (gd 5)) (C := RX5) (T := TX5) (N := 26) hx hb hts iX5 hown hZ.1 hP 0 (zset_s m0) rfl 5 (by decide) (hts (.fieldLink RX5 22 "TapeRoboticsModel" "lost" "[Z") (by decide +kernel)) (fun _ h9 => h9) rfl dX5_next_28 ?_
      refine lv_iload_n hx hb dX5_next_31 rfl (lv_at hl 1 rfl) ?_
      refine va_zald hx hb hZ.1 hP 5 3 (zset_n m5 (by decide)) rfl (vp_in_nI (show i < 8 by omega) (by omega)) dX5_next_32 ?_
      rw [nI_clamp (show i < 2 ^ 31 by omega)]
      refine zb_ne (tgt := 114) hx hb dX5_next_33 (by decide) (fun c_3 => ?_) (fun c_3 => ?_)
      · refine lv_iinc (v := nI (i + 1)) (lv' := [(2, .int (nI (i + 1))), (0, .ref (gd 0)), (1, .int (oI o))]) hx hb dX5_next_114 hl (k := 1) rfl (zinc 1 _) (by decide) rfl (fun ls hl => ?_)
        refine lv_goto (tgt := 9) hx hb dX5_next_117 (by decide) ?_
        exact ih9 (i + 1, o) ls (by first | omega | (dsimp only; omega)) ⟨lv_sub hl [1, 0, 2] rfl, by show _ = nxt mo la (fun q9 => (wl fw (nI q9) nj).length) (fun q9 => erl fw (nI q9) dl nj) (i + 1); first | (rw [nxt_cw (show (wl fw (nI i) nj).length = 0 by assumption)]; exact ho) | (rw [nxt_la (show la i = false by cases h8 : la i with | false => rfl | true => exact absurd (show (!la i) = true by assumption) (by rw [h8]; exact Bool.noConfusion))]; exact ho), by first | omega | (dsimp only; omega)⟩
      · refine lv_aload_n hx hb dX5_next_36 rfl (lv_at hl 0 rfl) ?_
        refine lv_iload_n hx hb dX5_next_37 rfl (lv_at hl 1 rfl) ?_
        refine zk_V_i (n := 1) (As := [.int (nI (i))]) (rest := []) hx hb hml hts hown hZ hP (c_X5_waitingAt l D cA _ ((mL_0 hm0 n nd nj my 0)) fw hfw i hj60 (by omega)) gX5_next_X5_waitingAt rfl rfl ⟨rfl, rfl⟩ ⟨by decide +kernel, Nat.le_of_ble_eq_true rfl, Nat.le_of_ble_eq_true rfl⟩ (zset_s m0) rfl hl.1 rfl (Nat.le_of_ble_eq_true rfl) ⟨Nat.le_of_ble_eq_true rfl, Nat.le_of_ble_eq_true rfl⟩ rfl dX5_next_38 (fun r_4 hr_5 => ?_)
        obtain rfl := show r_4 = _ from hr_5
        refine zf_le (tgt := 114) hx hb (by omega) dX5_next_41 (by decide) (fun c_6 => ?_) (fun c_6 => ?_)
        · refine lv_iinc (v := nI (i + 1)) (lv' := [(2, .int (nI (i + 1))), (0, .ref (gd 0)), (1, .int (oI o))]) hx hb dX5_next_114 hl (k := 1) rfl (zinc 1 _) (by decide) rfl (fun ls hl => ?_)
          refine lv_goto (tgt := 9) hx hb dX5_next_117 (by decide) ?_
          exact ih9 (i + 1, o) ls (by first | omega | (dsimp only; omega)) ⟨lv_sub hl [1, 0, 2] rfl, by show _ = nxt mo la (fun q9 => (wl fw (nI q9) nj).length) (fun q9 => erl fw (nI q9) dl nj) (i + 1); first | (rw [nxt_cw (show (wl fw (nI i) nj).length = 0 by assumption)]; exact ho) | (rw [nxt_la (show la i = false by cases h8 : la i with | false => rfl | true => exact absurd (show (!la i) = true by assumption) (by rw [h8]; exact Bool.noConfusion))]; exact ho), by first | omega | (dsimp only; omega)⟩
        · have hci : 0 < (wl fw (nI i) nj).length := by assumption
          have hei := erl_le (f := fw) (x := nI i) (dl := dl) nj
          have hwi := wl_le (f := fw) (x := nI i) nj
          have hmi2 : (mo i).isSome = false := by rw [hmi]; rfl
          have hla : la i = true := by
            have h9 : (!la i) = false := by assumption
            cases h8 : la i with
            | true => rfl
            | false => rw [h8] at h9; cases h9
          rcases o with _ | b
          · have hl : lv_has ls 4 [(0, .ref (gd 0)), (2, .int (nI (i))), (1, .int ((-1)))] := hl
            refine lv_iload_n hx hb dX5_next_44 rfl (lv_at hl 2 rfl) ?_
            refine lv_iconst (v := (-1)) hx hb dX5_next_45 (by decide) ?_
            refine lv_icmp_eq (tgt := 62) hx hb dX5_next_46 (by decide) (fun c_7 => ?_) (fun c_7 => absurd rfl c_7)
            refine lv_iconst (v := nI (1)) hx hb dX5_next_62 (by decide) ?_
            refine lv_goto (tgt := 67) hx hb dX5_next_63 (by decide) ?_
            refine lv_istore_n (lv' := [(3, .int (nI (1))), (0, .ref (gd 0)), (2, .int (nI (i))), (1, .int ((-1)))]) hx hb dX5_next_67 rfl hl (by decide) rfl (fun ls hl => ?_)
            refine lv_iload_n hx hb dX5_next_68 rfl (lv_at hl 0 rfl) ?_
            refine zf_ne (tgt := 98) hx hb (by omega) dX5_next_69 (by decide) (fun c_8 => ?_) (fun c_8 => False.elim (by omega))
            refine lv_iconst (v := nI (1)) hx hb dX5_next_98 (by decide) ?_
            refine lv_goto (tgt := 103) hx hb dX5_next_99 (by decide) ?_
            refine lv_istore_n (lv' := [(3, .int (nI (1))), (0, .ref (gd 0)), (2, .int (nI (i))), (1, .int ((-1)))]) hx hb dX5_next_103 rfl hl (by decide) rfl (fun ls hl => ?_)
            refine lv_iload_n hx hb dX5_next_104 rfl (lv_at hl 0 rfl) ?_
            refine zf_eq (tgt := 112) hx hb (by omega) dX5_next_105 (by decide) (fun c_9 => False.elim (by omega)) (fun c_9 => ?_)
            refine lv_iload_n hx hb dX5_next_108 rfl (lv_at hl 2 rfl) ?_
            refine lv_goto (tgt := 113) hx hb dX5_next_109 (by decide) ?_
            refine lv_istore_n (lv' := [(1, .int (nI (i))), (3, .int (nI (1))), (0, .ref (gd 0)), (2, .int (nI (i)))]) hx hb dX5_next_113 rfl hl (by decide) rfl (fun ls hl => ?_)
            refine lv_iinc (v := nI (i + 1)) (lv' := [(2, .int (nI (i + 1))), (1, .int (nI (i))), (3, .int (nI (1))), (0, .ref (gd 0))]) hx hb dX5_next_114 hl (k := 3) rfl (zinc 1 _) (by decide) rfl (fun ls hl => ?_)
            refine lv_goto (tgt := 9) hx hb dX5_next_117 (by decide) ?_
            exact ih9 (i + 1, (some i)) ls (by first | omega | (dsimp only; omega)) ⟨lv_sub hl [3, 0, 1] rfl, by show _ = nxt mo la (fun q9 => (wl fw (nI q9) nj).length) (fun q9 => erl fw (nI q9) dl nj) (i + 1); exact (nxt_new hmi2 hla hci ho.symm).symm, by first | omega | (dsimp only; omega)⟩
          · obtain ⟨hbn, hcb, -, -⟩ := nxt_b i ho.symm
            have hcb : 0 < (wl fw (nI b) nj).length := hcb
            have heb := erl_le (f := fw) (x := nI b) (dl := dl) nj
            have hwb := wl_le (f := fw) (x := nI b) nj
            have hl : lv_has ls 4 [(0, .ref (gd 0)), (2, .int (nI (i))), (1, .int (nI (b)))] := hl
            refine lv_iload_n hx hb dX5_next_44 rfl (lv_at hl 2 rfl) ?_
            refine lv_iconst (v := (-1)) hx hb dX5_next_45 (by decide) ?_
            refine lv_icmp_eq (tgt := 62) hx hb dX5_next_46 (by decide) (fun c_10 => absurd c_10 (nI_nm1 (by omega))) (fun c_10 => ?_)
            refine lv_aload_n hx hb dX5_next_49 rfl (lv_at hl 0 rfl) ?_
            refine lv_iload_n hx hb dX5_next_50 rfl (lv_at hl 1 rfl) ?_
            refine zk_V_i (n := 1) (As := [.int (nI (i))]) (rest := []) hx hb hml hts hown hZ hP (c_X5_earliest l D cA _ ((mL_0 hm0 n nd nj my 0)) fw hfw i hj60 (by omega) hIdl) gX5_next_X5_earliest rfl rfl ⟨rfl, rfl⟩ ⟨by decide +kernel, Nat.le_of_ble_eq_true rfl, Nat.le_of_ble_eq_true rfl⟩ (zset_s m0) rfl hl.1 rfl (Nat.le_of_ble_eq_true rfl) ⟨Nat.le_of_ble_eq_true rfl, Nat.le_of_ble_eq_true rfl⟩ rfl dX5_next_51 (fun r_11 hr_12 => ?_)
            obtain rfl := show r_11 = _ from hr_12
            refine zx_val (y := nI (erl fw (nI i) dl nj)) (by rw [erm_pos hIdl hci]) ?_
            refine lv_aload_n hx hb dX5_next_54 rfl (lv_at hl 0 rfl) ?_
            refine lv_iload_n hx hb dX5_next_55 rfl (lv_at hl 2 rfl) ?_
            refine zk_V_i (n := 1) (As := [.int (nI (b))]) (rest := [.int (nI (erl fw (nI i) dl nj))]) hx hb hml hts hown hZ hP (c_X5_earliest l D cA _ ((mL_0 hm0 n nd nj my 0)) fw hfw b hj60 (by omega) hIdl) gX5_next_X5_earliest rfl rfl ⟨rfl, rfl⟩ ⟨by decide +kernel, Nat.le_of_ble_eq_true rfl, Nat.le_of_ble_eq_true rfl⟩ (zset_s m0) rfl hl.1 rfl (Nat.le_of_ble_eq_true rfl) ⟨Nat.le_of_ble_eq_true rfl, Nat.le_of_ble_eq_true rfl⟩ rfl dX5_next_56 (fun r_13 hr_14 => ?_)
            obtain rfl := show r_13 = _ from hr_14
            refine zx_val (y := nI (erl fw (nI b) dl nj)) (by rw [erm_pos hIdl hcb]) ?_
            refine zc_ge (tgt := 66) hx hb (by omega) (by omega) dX5_next_59 (by decide) (fun c_15 => ?_) (fun c_15 => ?_)
            · refine lv_iconst (v := nI (0)) hx hb dX5_next_66 (by decide) ?_
              refine lv_istore_n (lv' := [(3, .int (nI (0))), (0, .ref (gd 0)), (2, .int (nI (i))), (1, .int (nI (b)))]) hx hb dX5_next_67 rfl hl (by decide) rfl (fun ls hl => ?_)
              refine lv_iload_n hx hb dX5_next_68 rfl (lv_at hl 0 rfl) ?_
              refine zf_ne (tgt := 98) hx hb (by omega) dX5_next_69 (by decide) (fun c_16 => False.elim (by omega)) (fun c_16 => ?_)
              refine lv_aload_n hx hb dX5_next_72 rfl (lv_at hl 1 rfl) ?_
              refine lv_iload_n hx hb dX5_next_73 rfl (lv_at hl 2 rfl) ?_
              refine zk_V_i (n := 1) (As := [.int (nI (i))]) (rest := []) hx hb hml hts hown hZ hP (c_X5_earliest l D cA _ ((mL_0 hm0 n nd nj my 0)) fw hfw i hj60 (by omega) hIdl) gX5_next_X5_earliest rfl rfl ⟨rfl, rfl⟩ ⟨by decide +kernel, Nat.le_of_ble_eq_true rfl, Nat.le_of_ble_eq_true rfl⟩ (zset_s m0) rfl hl.1 rfl (Nat.le_of_ble_eq_true rfl) ⟨Nat.le_of_ble_eq_true rfl, Nat.le_of_ble_eq_true rfl⟩ rfl dX5_next_74 (fun r_17 hr_18 => ?_)
              obtain rfl := show r_17 = _ from hr_18
              refine zx_val (y := nI (erl fw (nI i) dl nj)) (by rw [erm_pos hIdl hci]) ?_
              refine lv_aload_n hx hb dX5_next_77 rfl (lv_at hl 1 rfl) ?_
              refine lv_iload_n hx hb dX5_next_78 rfl (lv_at hl 3 rfl) ?_
              refine zk_V_i (n := 1) (As := [.int (nI (b))]) (rest := [.int (nI (erl fw (nI i) dl nj))]) hx hb hml hts hown hZ hP (c_X5_earliest l D cA _ ((mL_0 hm0 n nd nj my 0)) fw hfw b hj60 (by omega) hIdl) gX5_next_X5_earliest rfl rfl ⟨rfl, rfl⟩ ⟨by decide +kernel, Nat.le_of_ble_eq_true rfl, Nat.le_of_ble_eq_true rfl⟩ (zset_s m0) rfl hl.1 rfl (Nat.le_of_ble_eq_true rfl) ⟨Nat.le_of_ble_eq_true rfl, Nat.le_of_ble_eq_true rfl⟩ rfl dX5_next_79 (fun r_19 hr_20 => ?_)
              obtain rfl := show r_19 = _ from hr_20
              refine zx_val (y := nI (erl fw (nI b) dl nj)) (by rw [erm_pos hIdl hcb]) ?_
              refine zc_ne (tgt := 102) hx hb (by omega) (by omega) dX5_next_82 (by decide) (fun c_21 => ?_) (fun c_21 => ?_)
              · refine lv_iconst (v := nI (0)) hx hb dX5_next_102 (by decide) ?_
                refine lv_istore_n (lv' := [(3, .int (nI (0))), (0, .ref (gd 0)), (2, .int (nI (i))), (1, .int (nI (b)))]) hx hb dX5_next_103 rfl hl (by decide) rfl (fun ls hl => ?_)
                refine lv_iload_n hx hb dX5_next_104 rfl (lv_at hl 0 rfl) ?_
                refine zf_eq (tgt := 112) hx hb (by omega) dX5_next_105 (by decide) (fun c_22 => ?_) (fun c_22 => False.elim (by omega))
                refine lv_iload_n hx hb dX5_next_112 rfl (lv_at hl 3 rfl) ?_
                refine lv_istore_n (lv' := [(1, .int (nI (b))), (3, .int (nI (0))), (0, .ref (gd 0)), (2, .int (nI (i)))]) hx hb dX5_next_113 rfl hl (by decide) rfl (fun ls hl => ?_)
                refine lv_iinc (v := nI (i + 1)) (lv' := [(2, .int (nI (i + 1))), (1, .int (nI (b))), (3, .int (nI (0))), (0, .ref (gd 0))]) hx hb dX5_next_114 hl (k := 3) rfl (zinc 1 _) (by decide) rfl (fun ls hl => ?_)
                refine lv_goto (tgt := 9) hx hb dX5_next_117 (by decide) ?_
                exact ih9 (i + 1, (some b)) ls (by first | omega | (dsimp only; omega)) ⟨lv_sub hl [3, 0, 1] rfl, by show _ = nxt mo la (fun q9 => (wl fw (nI q9) nj).length) (fun q9 => erl fw (nI q9) dl nj) (i + 1); rw [nxt_no ho.symm (show ¬ erl fw (nI i) dl nj < erl fw (nI b) dl nj by first | omega | (dsimp only; omega)) (fun q => show ¬ (wl fw (nI b) nj).length < (wl fw (nI i) nj).length by have q : erl fw (nI i) dl nj = erl fw (nI b) dl nj := q; omega)]; exact ho, by first | omega | (dsimp only; omega)⟩
              · refine lv_aload_n hx hb dX5_next_85 rfl (lv_at hl 1 rfl) ?_
                refine lv_iload_n hx hb dX5_next_86 rfl (lv_at hl 2 rfl) ?_
                refine zk_V_i (n := 1) (As := [.int (nI (i))]) (rest := []) hx hb hml hts hown hZ hP (c_X5_waitingAt l D cA _ ((mL_0 hm0 n nd nj my 0)) fw hfw i hj60 (by omega)) gX5_next_X5_waitingAt rfl rfl ⟨rfl, rfl⟩ ⟨by decide +kernel, Nat.le_of_ble_eq_true rfl, Nat.le_of_ble_eq_true rfl⟩ (zset_s m0) rfl hl.1 rfl (Nat.le_of_ble_eq_true rfl) ⟨Nat.le_of_ble_eq_true rfl, Nat.le_of_ble_eq_true rfl⟩ rfl dX5_next_87 (fun r_23 hr_24 => ?_)
                obtain rfl := show r_23 = _ from hr_24
                refine lv_aload_n hx hb dX5_next_90 rfl (lv_at hl 1 rfl) ?_
                refine lv_iload_n hx hb dX5_next_91 rfl (lv_at hl 3 rfl) ?_
                refine zk_V_i (n := 1) (As := [.int (nI (b))]) (rest := [.int (nI ((wl fw (nI i) nj).length))]) hx hb hml hts hown hZ hP (c_X5_waitingAt l D cA _ ((mL_0 hm0 n nd nj my 0)) fw hfw b hj60 (by omega)) gX5_next_X5_waitingAt rfl rfl ⟨rfl, rfl⟩ ⟨by decide +kernel, Nat.le_of_ble_eq_true rfl, Nat.le_of_ble_eq_true rfl⟩ (zset_s m0) rfl hl.1 rfl (Nat.le_of_ble_eq_true rfl) ⟨Nat.le_of_ble_eq_true rfl, Nat.le_of_ble_eq_true rfl⟩ rfl dX5_next_92 (fun r_25 hr_26 => ?_)
                obtain rfl := show r_25 = _ from hr_26
                refine zc_le (tgt := 102) hx hb (by omega) (by omega) dX5_next_95 (by decide) (fun c_27 => ?_) (fun c_27 => ?_)
                · refine lv_iconst (v := nI (0)) hx hb dX5_next_102 (by decide) ?_
                  refine lv_istore_n (lv' := [(3, .int (nI (0))), (0, .ref (gd 0)), (2, .int (nI (i))), (1, .int (nI (b)))]) hx hb dX5_next_103 rfl hl (by decide) rfl (fun ls hl => ?_)
                  refine lv_iload_n hx hb dX5_next_104 rfl (lv_at hl 0 rfl) ?_
                  refine zf_eq (tgt := 112) hx hb (by omega) dX5_next_105 (by decide) (fun c_28 => ?_) (fun c_28 => False.elim (by omega))
                  refine lv_iload_n hx hb dX5_next_112 rfl (lv_at hl 3 rfl) ?_
                  refine lv_istore_n (lv' := [(1, .int (nI (b))), (3, .int (nI (0))), (0, .ref (gd 0)), (2, .int (nI (i)))]) hx hb dX5_next_113 rfl hl (by decide) rfl (fun ls hl => ?_)
                  refine lv_iinc (v := nI (i + 1)) (lv' := [(2, .int (nI (i + 1))), (1, .int (nI (b))), (3, .int (nI (0))), (0, .ref (gd 0))]) hx hb dX5_next_114 hl (k := 3) rfl (zinc 1 _) (by decide) rfl (fun ls hl => ?_)
                  refine lv_goto (tgt := 9) hx hb dX5_next_117 (by decide) ?_
                  exact ih9 (i + 1, (some b)) ls (by first | omega | (dsimp only; omega)) ⟨lv_sub hl [3, 0, 1] rfl, by show _ = nxt mo la (fun q9 => (wl fw (nI q9) nj).length) (fun q9 => erl fw (nI q9) dl nj) (i + 1); rw [nxt_no ho.symm (show ¬ erl fw (nI i) dl nj < erl fw (nI b) dl nj by first | omega | (dsimp only; omega)) (fun q => show ¬ (wl fw (nI b) nj).length < (wl fw (nI i) nj).length by have q : erl fw (nI i) dl nj = erl fw (nI b) dl nj := q; omega)]; exact ho, by first | omega | (dsimp only; omega)⟩
                · refine lv_iconst (v := nI (1)) hx hb dX5_next_98 (by decide) ?_
                  refine lv_goto (tgt := 103) hx hb dX5_next_99 (by decide) ?_
                  refine lv_istore_n (lv' := [(3, .int (nI (1))), (0, .ref (gd 0)), (2, .int (nI (i))), (1, .int (nI (b)))]) hx hb dX5_next_103 rfl hl (by decide) rfl (fun ls hl => ?_)
                  refine lv_iload_n hx hb dX5_next_104 rfl (lv_at hl 0 rfl) ?_
                  refine zf_eq (tgt := 112) hx hb (by omega) dX5_next_105 (by decide) (fun c_29 => False.elim (by omega)) (fun c_29 => ?_)
                  refine lv_iload_n hx hb dX5_next_108 rfl (lv_at hl 2 rfl) ?_
                  refine lv_goto (tgt := 113) hx hb dX5_next_109 (by decide) ?_
                  refine lv_istore_n (lv' := [(1, .int (nI (i))), (3, .int (nI (1))), (0, .ref (gd 0)), (2, .int (nI (i)))]) hx hb dX5_next_113 rfl hl (by decide) rfl (fun ls hl => ?_)
                  refine lv_iinc (v := nI (i + 1)) (lv' := [(2, .int (nI (i + 1))), (1, .int (nI (i))), (3, .int (nI (1))), (0, .ref (gd 0))]) hx hb dX5_next_114 hl (k := 3) rfl (zinc 1 _) (by decide) rfl (fun ls hl => ?_)
                  refine lv_goto (tgt := 9) hx hb dX5_next_117 (by decide) ?_
                  exact ih9 (i + 1, (some i)) ls (by first | omega | (dsimp only; omega)) ⟨lv_sub hl [3, 0, 1] rfl, by show _ = nxt mo la (fun q9 => (wl fw (nI q9) nj).length) (fun q9 => erl fw (nI q9) dl nj) (i + 1); first | exact (nxt_lt hmi2 hla hci ho.symm (show erl fw (nI i) dl nj < erl fw (nI b) dl nj by first | omega | (dsimp only; omega))).symm | exact (nxt_eq hmi2 hla hci ho.symm (show erl fw (nI i) dl nj = erl fw (nI b) dl nj by first | omega | (dsimp only; omega)) (show (wl fw (nI b) nj).length < (wl fw (nI i) nj).length by first | omega | (dsimp only; omega))).symm, by first | omega | (dsimp only; omega)⟩
            · refine lv_iconst (v := nI (1)) hx hb dX5_next_62 (by decide) ?_
              refine lv_goto (tgt := 67) hx hb dX5_next_63 (by decide) ?_
              refine lv_istore_n (lv' := [(3, .int (nI (1))), (0, .ref (gd 0)), (2, .int (nI (i))), (1, .int (nI (b)))]) hx hb dX5_next_67 rfl hl (by decide) rfl (fun ls hl => ?_)
              refine lv_iload_n hx hb dX5_next_68 rfl (lv_at hl 0 rfl) ?_
              refine zf_ne (tgt := 98) hx hb (by omega) dX5_next_69 (by decide) (fun c_30 => ?_) (fun c_30 => False.elim (by omega))
              refine lv_iconst (v := nI (1)) hx hb dX5_next_98 (by decide) ?_
              refine lv_goto (tgt := 103) hx hb dX5_next_99 (by decide) ?_
              refine lv_istore_n (lv' := [(3, .int (nI (1))), (0, .ref (gd 0)), (2, .int (nI (i))), (1, .int (nI (b)))]) hx hb dX5_next_103 rfl hl (by decide) rfl (fun ls hl => ?_)
              refine lv_iload_n hx hb dX5_next_104 rfl (lv_at hl 0 rfl) ?_
              refine zf_eq (tgt := 112) hx hb (by omega) dX5_next_105 (by decide) (fun c_31 => False.elim (by omega)) (fun c_31 => ?_)
              refine lv_iload_n hx hb dX5_next_108 rfl (lv_at hl 2 rfl) ?_
              refine lv_goto (tgt := 113) hx hb dX5_next_109 (by decide) ?_
              refine lv_istore_n (lv' := [(1, .int (nI (i))), (3, .int (nI (1))), (0, .ref (gd 0)), (2, .int (nI (i)))]) hx hb dX5_next_113 rfl hl (by decide) rfl (fun ls hl => ?_)
              refine lv_iinc (v := nI (i + 1)) (lv' := [(2, .int (nI (i + 1))), (1, .int (nI (i))), (3, .int (nI (1))), (0, .ref (gd 0))]) hx hb dX5_next_114 hl (k := 3) rfl (zinc 1 _) (by decide) rfl (fun ls hl => ?_)
              refine lv_goto (tgt := 9) hx hb dX5_next_117 (by decide) ?_
              exact ih9 (i + 1, (some i)) ls (by first | omega | (dsimp only; omega)) ⟨lv_sub hl [3, 0, 1] rfl, by show _ = nxt mo la (fun q9 => (wl fw (nI q9) nj).length) (fun q9 => erl fw (nI q9) dl nj) (i + 1); first | exact (nxt_lt hmi2 hla hci ho.symm (show erl fw (nI i) dl nj < erl fw (nI b) dl nj by first | omega | (dsimp only; omega))).symm | exact (nxt_eq hmi2 hla hci ho.symm (show erl fw (nI i) dl nj = erl fw (nI b) dl nj by first | omega | (dsimp only; omega)) (show (wl fw (nI b) nj).length < (wl fw (nI i) nj).length by first | omega | (dsimp only; omega))).symm, by first | omega | (dsimp only; omega)⟩
    · have hj9 := hmo3 i (by omega) j9 hmi
      refine lv_aload_n hx hb dX5_next_17 rfl (lv_at hl 0 rfl) ?_
      refine va_get (D := D) (ci := 5) (v := .ref (gd 4)) (C := RX5) (T := TX5) (N := 26) hx hb hts iX5 hown hZ.1 hP 0 (zset_s m0) rfl 4 (by decide) (hts (.fieldLink RX5 19 "TapeRoboticsModel" "mounted" "[I") (by decide +kernel)) (fun _ h9 => h9) rfl dX5_next_18 ?_
      refine lv_iload_n hx hb dX5_next_21 rfl (lv_at hl 1 rfl) ?_
      refine va_iald hx hb hZ.1 hP 4 0 (zset_n m4 (by decide)) rfl (vp_in_nI (show i < 8 by omega) (by omega)) dX5_next_22 ?_
      rw [nI_clamp (show i < 2 ^ 31 by omega)]
      refine zx_val (y := nI (j9)) (by rw [hmi]; rfl) ?_
      refine lv_iconst (v := (-1)) hx hb dX5_next_23 (by decide) ?_
      refine lv_icmp_ne (tgt := 114) hx hb dX5_next_24 (by decide) (fun c_32 => ?_) (fun c_32 => absurd c_32 (nI_nm1 (by omega)))
      refine lv_iinc (v := nI (i + 1)) (lv' := [(2, .int (nI (i + 1))), (0, .ref (gd 0)), (1, .int (oI o))]) hx hb dX5_next_114 hl (k := 1) rfl (zinc 1 _) (by decide) rfl (fun ls hl => ?_)
      refine lv_goto (tgt := 9) hx hb dX5_next_117 (by decide) ?_
      exact ih9 (i + 1, o) ls (by first | omega | (dsimp only; omega)) ⟨lv_sub hl [1, 0, 2] rfl, by show _ = nxt mo la (fun q9 => (wl fw (nI q9) nj).length) (fun q9 => erl fw (nI q9) dl nj) (i + 1); rw [nxt_mo (by rw [hmi]; rfl)]; exact ho, by first | omega | (dsimp only; omega)⟩

set_option maxHeartbeats 4000000 in
set_option maxRecDepth 100000 in
theorem c_X5_done (l : Launch) (D : va_G) (cA : Nat → ClassId) (sz : Nat) (ws : va_W) {gd : Nat → Nat} {n : Nat} {tr : Nat → Nat} {le : Nat → Nat} {sl : Nat → Nat} {mo : Nat → Option Nat} {la : Nat → Bool} {fc : Nat → Nat} {sf : Nat → Int32} {bf : Nat → Int32} {nd : Nat} {mk : Nat → Nat} {ck : Nat → Int32} {ct : Nat → Nat} {hd : Nat → Option Nat} {pf : Nat → Int32} {nj : Nat} {jt : Nat → Int32} {jf : Nat → Nat} {dl : Nat → Nat} {fin : Nat → Bool} {my : Nat} {fls : Nat → Int32} {fod : Nat → Int32} {fle : Nat → Int32} {fro : Nat → Int32} {th : Nat} {bo : Nat → Nat → Nat} {pq : Nat → Int32} {fw : Nat → Int32} {dn : Nat} (hm : mL cA ws gd n tr le sl mo la fc sf bf nd mk ck ct hd pf nj jt jf dl fin my fls fod fle fro th) (hI : zI n tr le sl mo fc bo nd mk ct hd pq nj fw jf dl) (hM : mI n la fc bo nd ck ct hd pq pf nj fw jt fin sf bf dn)  : Met l yX5_done wsX5_done ({ frames := 0, cells := 0, slots := 0, locals := 0 }) (va_Pc [.ref (gd 0)] (zM D cA (ws) sz)) (va_Qi (fun (r : Int32) (u : va_W) => r = nI dn ∧ mKeep ws u ∧ mL cA u gd n tr le sl mo la fc sf bf nd mk ck ct hd pf nj jt jf dl fin my fls fod fle fro 0) (fun u => zB D (va_A (ws) sz) (u)) (va_A (ws) sz)) 0 0 (va_A (ws) sz) := by
  refine zOpen (cc := cX5_done) (maxL := 3) (ret := (some .int)) (own := RX5) (by decide) rfl rfl (Nat.le_of_ble_eq_true rfl) ?_
  intro p e s m below meth c ls hx hb hr hml hts hown hlocks hnm ⟨hZ, hP, hD0, hsz⟩ hl
  subst hsz
  have hD := hD0.self (sz := s.heap.size)
  generalize hAe : va_A (ws) s.heap.size = A at hD ⊢
  have hA : ∀ q : Nat, s.heap.size ≤ q → A q := fun q h => by rw [← hAe]; exact Or.inr h
  have hS : va_S A s.heap s.heap [] := va_S.rf
  have iX5 : ∀ w ∈ wsX50, w ∈ wsX5_done := by decide +kernel
  have hl : lv_has ls 3 [(0, .ref (gd 0))] := hl
  have hm0 := hm
  have hI0 := hI
  have hM0 := hM
  obtain ⟨hn8, hd3, hj60, hIT, hID, hIJ, hIdl, hIw⟩ := hI
  obtain ⟨hM1, hM2, hM3, hM4, hM5, hM6, hM7⟩ := hM
  obtain ⟨m0, m1, m2, m3, m4, m5, m6, m7, m8, m9, m10, m11, m12, m13, m14, m15, m16, m17, m18, m19, m20, m21⟩ := hm
  have hfc10 : ∀ i, i < n → fc i ≤ 10 := fun i hi => (hIT i hi).2.2.2.2.2.2.1
  have hsl12 : ∀ i, i < n → sl i < 12 := fun i hi => (hIT i hi).2.2.2.2.1
  have hH8 : ∀ j, j < nd → ∀ t, hd j = some t → t < 8 := fun j hj t h => by have := ((hID j hj).2.2.2 t h).1; omega
  have hmo3 : ∀ i, i < n → ∀ j, mo i = some j → j < nd := fun i hi j h => ((hIT i hi).2.2.2.2.2.1 j h).1
  have hfw : ∀ k, k < nj → fw k = if fin k then -1 else jt k := fun k hk => (hM5 k hk).1
  refine lv_aload_n hx hb dX5_done_0 rfl (lv_at hl 0 rfl) ?_
  refine lv_iconst (v := nI (0)) hx hb dX5_done_1 (by decide) ?_
  refine va_put (D := D) (ci := 5) (v := .int (nI (0))) (ty := .int) (C := RX5) (T := TX5) (N := 26) hx hb hts iX5 tyX5 tyX5_ok nmX5 hown hZ.1 hP hD hS 0 m0 rfl 25 (by decide) (hts (.fieldLink RX5 74 "TapeRoboticsModel" "thrown" "I") (by decide +kernel)) (fun _ h9 => h9) rfl (by decide +kernel) rfl rfl (Nat.le_of_ble_eq_true rfl) dX5_done_2 (fun H locs hP hD hS => ?_)
  have hP : va_P D vwCl (ws.set 0 (gd 0, zMod gd n nd nj my 0)) H := hP
  have hD : va_D A (ws.set 0 (gd 0, zMod gd n nd nj my 0)) := hD
  refine lv_iconst (v := nI (0)) hx hb dX5_done_5 (by decide) ?_
  refine lv_istore_n (lv' := [(1, .int (nI (0))), (0, .ref (gd 0))]) hx hb dX5_done_6 rfl hl (by decide) rfl (fun ls hl => ?_)
  refine lv_iconst (v := nI (0)) hx hb dX5_done_7 (by decide) ?_
  refine lv_istore_n (lv' := [(2, .int (nI (0))), (1, .int (nI (0))), (0, .ref (gd 0))]) hx hb dX5_done_8 rfl hl (by decide) rfl (fun ls hl => ?_)
  refine z_loop (α := Nat × Nat) (fun v => nj - v.1) (fun v ls => lv_has ls 3 [(0, .ref (gd 0)), (2, .int (nI (v.1))), (1, .int (nI (v.2)))] ∧ v.2 = cnt fin v.1 ∧ v.1 ≤ nj ∧ v.2 ≤ v.1) (fun _ => []) (0, 0) ⟨lv_sub hl [2, 0, 1] rfl, rfl, Nat.zero_le _, Nat.le_refl _⟩ ?_
  intro v ih9 ls hv
  obtain ⟨j, x⟩ := v
  obtain ⟨hl, hI⟩ := hv
  have hl : lv_has ls 3 [(0, .ref (gd 0)), (2, .int (nI (j))), (1, .int (nI (x)))] := hl
  have hI : x = cnt fin j ∧ j ≤ nj ∧ x ≤ j := hI
  obtain ⟨hx1, hj, hxj⟩ := hI
  refine lv_iload_n hx hb dX5_done_9 rfl (lv_at hl 1 rfl) ?_
  refine lv_aload_n hx hb dX5_done_10 rfl (lv_at hl 0 rfl) ?_
  refine va_get (D := D) (ci := 5) (v := .int (nI (nj))) (C := RX5) (T := TX5) (N := 26) hx hb hts iX5 hown hZ.1 hP 0 (zset_s m0) rfl 15 (by decide) (hts (.fieldLink RX5 144 "TapeRoboticsModel" "jobs" "I") (by decide +kernel)) (fun _ h9 => h9) rfl dX5_done_11 ?_
  refine zc_ge (tgt := 40) hx hb (by omega) (by omega) dX5_done_14 (by decide) (fun c_1 => ?_) (fun c_1 => ?_)
  · refine lv_iload_n hx hb dX5_done_40 rfl (lv_at hl 2 rfl) ?_
    exact zr_qi (S := va_W) (w1 := fun u => u) (ws.set 0 (gd 0, zMod gd n nd nj my 0)) hx hb hr hlocks (⟨by rw [hM7, hx1, show j = nj by omega], (mKeep_set mKeep_rf (by decide)), (mL_0 hm0 n nd nj my 0)⟩) hP hD hS (rfl) dX5_done_41
  · refine lv_iload_n hx hb dX5_done_17 rfl (lv_at hl 2 rfl) ?_
    refine lv_aload_n hx hb dX5_done_18 rfl (lv_at hl 0 rfl) ?_
    refine va_get (D := D) (ci := 5) (v := .ref (gd 17)) (C := RX5) (T := TX5) (N := 26) hx hb hts iX5 hown hZ.1 hP 0 (zset_s m0) rfl 19 (by decide) (hts (.fieldLink RX5 59 "TapeRoboticsModel" "finished" "[Z") (by decide +kernel)) (fun _ h9 => h9) rfl dX5_done_19 ?_
    refine lv_iload_n hx hb dX5_done_22 rfl (lv_at hl 1 rfl) ?_
    refine va_zald hx hb hZ.1 hP 17 3 (zset_n m17 (by decide)) rfl (vp_in_nI (show j < 60 by omega) (by omega)) dX5_done_23 ?_
    rw [nI_clamp (show j < 2 ^ 31 by omega)]
    refine zb_eq (tgt := 31) hx hb dX5_done_24 (by decide) (fun c_2 => ?_) (fun c_2 => ?_)
    · refine lv_iconst (v := nI (0)) hx hb dX5_done_31 (by decide) ?_
      refine zo_add hx hb dX5_done_32 ?_
      refine lv_istore_n (lv' := [(1, .int (nI (x + 0))), (0, .ref (gd 0)), (2, .int (nI (j)))]) hx hb dX5_done_33 rfl hl (by decide) rfl (fun ls hl => ?_)
      refine lv_iinc (v := nI (j + 1)) (lv' := [(2, .int (nI (j + 1))), (1, .int (nI (x + 0))), (0, .ref (gd 0))]) hx hb dX5_done_34 hl (k := 2) rfl (zinc 1 _) (by decide) rfl (fun ls hl => ?_)
      refine lv_goto (tgt := 9) hx hb dX5_done_37 (by decide) ?_
      exact ih9 (j + 1, x + 0) ls (by first | omega | (dsimp only; omega)) ⟨lv_sub hl [2, 0, 1] rfl, by show _ = cnt fin (j + 1); rw [cnt, ← hx1, show fin j = false by assumption]; rfl, by first | omega | (dsimp only; omega), by dsimp only; omega⟩
    · refine lv_iconst (v := nI (1)) hx hb dX5_done_27 (by decide) ?_
      refine lv_goto (tgt := 32) hx hb dX5_done_28 (by decide) ?_
      refine zo_add hx hb dX5_done_32 ?_
      refine lv_istore_n (lv' := [(1, .int (nI (x + 1))), (0, .ref (gd 0)), (2, .int (nI (j)))]) hx hb dX5_done_33 rfl hl (by decide) rfl (fun ls hl => ?_)
      refine lv_iinc (v := nI (j + 1)) (lv' := [(2, .int (nI (j + 1))), (1, .int (nI (x + 1))), (0, .ref (gd 0))]) hx hb dX5_done_34 hl (k := 2) rfl (zinc 1 _) (by decide) rfl (fun ls hl => ?_)
      refine lv_goto (tgt := 9) hx hb dX5_done_37 (by decide) ?_
      exact ih9 (j + 1, x + 1) ls (by first | omega | (dsimp only; omega)) ⟨lv_sub hl [2, 0, 1] rfl, by show _ = cnt fin (j + 1); rw [cnt, ← hx1, show fin j = true by assumption]; rfl, by first | omega | (dsimp only; omega), by dsimp only; omega⟩

set_option maxHeartbeats 4000000 in
set_option maxRecDepth 100000 in
theorem c_X5_inventory (l : Launch) (D : va_G) (cA : Nat → ClassId) (sz : Nat) (ws : va_W) {gd : Nat → Nat} {n : Nat} {tr : Nat → Nat} {le : Nat → Nat} {sl : Nat → Nat} {mo : Nat → Option Nat} {la : Nat → Bool} {fc : Nat → Nat} {sf : Nat → Int32} {bf : Nat → Int32} {nd : Nat} {mk : Nat → Nat} {ck : Nat → Int32} {ct : Nat → Nat} {hd : Nat → Option Nat} {pf : Nat → Int32} {nj : Nat} {jt : Nat → Int32} {jf : Nat → Nat} {dl : Nat → Nat} {fin : Nat → Bool} {my : Nat} {fls : Nat → Int32} {fod : Nat → Int32} {fle : Nat → Int32} {fro : Nat → Int32} {th : Nat} {bo : Nat → Nat → Nat} {pq : Nat → Int32} {fw : Nat → Int32} {dn : Nat} (hm : mL cA ws gd n tr le sl mo la fc sf bf nd mk ck ct hd pf nj jt jf dl fin my fls fod fle fro th) (hI : zI n tr le sl mo fc bo nd mk ct hd pq nj fw jf dl) (hM : mI n la fc bo nd ck ct hd pq pf nj fw jt fin sf bf dn)  : Met l yX5_inventory wsX5_inventory ({ frames := 1, cells := 0, slots := 0, locals := 22 }) (va_Pc [.ref (gd 0)] (zM D cA (ws) sz)) (va_Qi (fun (r : Int32) (u : va_W) => r = nI (5 * cnt (fun i => !la i) n + 2 * hiS sl mo n) ∧ mKeep ws u ∧ mL cA u gd n tr le sl mo (laM la n) fc sf bf nd mk ck ct hd pf nj jt jf dl fin my fls fod fle fro 0) (fun u => zB D (va_A (ws) sz) (u)) (va_A (ws) sz)) 0 0 (va_A (ws) sz) := by
  refine zOpen (cc := cX5_inventory) (maxL := 4) (ret := (some .int)) (own := RX5) (by decide) rfl rfl (Nat.le_of_ble_eq_true rfl) ?_
  intro p e s m below meth c ls hx hb hr hml hts hown hlocks hnm ⟨hZ, hP, hD0, hsz⟩ hl
  subst hsz
  have hD := hD0.self (sz := s.heap.size)
  generalize hAe : va_A (ws) s.heap.size = A at hD ⊢
  have hA : ∀ q : Nat, s.heap.size ≤ q → A q := fun q h => by rw [← hAe]; exact Or.inr h
  have hS : va_S A s.heap s.heap [] := va_S.rf
  have iX5 : ∀ w ∈ wsX50, w ∈ wsX5_inventory := by decide +kernel
  have hl : lv_has ls 4 [(0, .ref (gd 0))] := hl
  have hm0 := hm
  have hI0 := hI
  have hM0 := hM
  obtain ⟨hn8, hd3, hj60, hIT, hID, hIJ, hIdl, hIw⟩ := hI
  obtain ⟨hM1, hM2, hM3, hM4, hM5, hM6, hM7⟩ := hM
  obtain ⟨m0, m1, m2, m3, m4, m5, m6, m7, m8, m9, m10, m11, m12, m13, m14, m15, m16, m17, m18, m19, m20, m21⟩ := hm
  have hfc10 : ∀ i, i < n → fc i ≤ 10 := fun i hi => (hIT i hi).2.2.2.2.2.2.1
  have hsl12 : ∀ i, i < n → sl i < 12 := fun i hi => (hIT i hi).2.2.2.2.1
  have hH8 : ∀ j, j < nd → ∀ t, hd j = some t → t < 8 := fun j hj t h => by have := ((hID j hj).2.2.2 t h).1; omega
  have hmo3 : ∀ i, i < n → ∀ j, mo i = some j → j < nd := fun i hi j h => ((hIT i hi).2.2.2.2.2.1 j h).1
  have hfw : ∀ k, k < nj → fw k = if fin k then -1 else jt k := fun k hk => (hM5 k hk).1
  refine lv_aload_n hx hb dX5_inventory_0 rfl (lv_at hl 0 rfl) ?_
  refine lv_iconst (v := nI (0)) hx hb dX5_inventory_1 (by decide) ?_
  refine va_put (D := D) (ci := 5) (v := .int (nI (0))) (ty := .int) (C := RX5) (T := TX5) (N := 26) hx hb hts iX5 tyX5 tyX5_ok nmX5 hown hZ.1 hP hD hS 0 m0 rfl 25 (by decide) (hts (.fieldLink RX5 74 "TapeRoboticsModel" "thrown" "I") (by decide +kernel)) (fun _ h9 => h9) rfl (by decide +kernel) rfl rfl (Nat.le_of_ble_eq_true rfl) dX5_inventory_2 (fun H locs hP hD hS => ?_)
  have hP : va_P D vwCl (ws.set 0 (gd 0, zMod gd n nd nj my 0)) H := hP
  have hD : va_D A (ws.set 0 (gd 0, zMod gd n nd nj my 0)) := hD
  refine lv_iconst (v := nI (0)) hx hb dX5_inventory_5 (by decide) ?_
  refine lv_istore_n (lv' := [(1, .int (nI (0))), (0, .ref (gd 0))]) hx hb dX5_inventory_6 rfl hl (by decide) rfl (fun ls hl => ?_)
  refine lv_iconst (v := nI (0)) hx hb dX5_inventory_7 (by decide) ?_
  refine lv_istore_n (lv' := [(2, .int (nI (0))), (1, .int (nI (0))), (0, .ref (gd 0))]) hx hb dX5_inventory_8 rfl hl (by decide) rfl (fun ls hl => ?_)
  refine z_loop (α := Nat × Nat) (fun v => n - v.1) (fun v ls => lv_has ls 4 [(0, .ref (gd 0)), (2, .int (nI (v.1))), (1, .int (nI (v.2)))] ∧ v.2 = hiS sl mo v.1 ∧ v.1 ≤ n) (fun _ => []) (0, 0) ⟨lv_sub hl [2, 0, 1] rfl, rfl, Nat.zero_le _⟩ ?_
  intro v ih9 ls hv
  obtain ⟨i, h⟩ := v
  obtain ⟨hl, hI⟩ := hv
  have hl : lv_has ls 4 [(0, .ref (gd 0)), (2, .int (nI (i))), (1, .int (nI (h)))] := hl
  have hI : h = hiS sl mo i ∧ i ≤ n := hI
  obtain ⟨hh, hi⟩ := hI
  have hh12 : h < 12 := by rw [hh]; exact hiS_lt i (fun k hk => hsl12 k (by omega)) (by omega)
  refine lv_iload_n hx hb dX5_inventory_9 rfl (lv_at hl 1 rfl) ?_
  refine lv_aload_n hx hb dX5_inventory_10 rfl (lv_at hl 0 rfl) ?_
  refine va_get (D := D) (ci := 5) (v := .int (nI (n))) (C := RX5) (T := TX5) (N := 26) hx hb hts iX5 hown hZ.1 hP 0 (zset_s m0) rfl 0 (by decide) (hts (.fieldLink RX5 78 "TapeRoboticsModel" "tapes" "I") (by decide +kernel)) (fun _ h9 => h9) rfl dX5_inventory_11 ?_
  refine zc_ge (tgt := 54) hx hb (by omega) (by omega) dX5_inventory_14 (by decide) (fun c_1 => ?_) (fun c_1 => ?_)
  · refine lv_iconst (v := nI (2)) hx hb dX5_inventory_54 (by decide) ?_
    refine lv_iload_n hx hb dX5_inventory_55 rfl (lv_at hl 2 rfl) ?_
    refine zo_mul hx hb dX5_inventory_56 ?_
    refine lv_iconst (v := nI (5)) hx hb dX5_inventory_57 (by decide) ?_
    refine lv_aload_n hx hb dX5_inventory_58 rfl (lv_at hl 0 rfl) ?_
    refine zk_V_i (n := 0) (As := []) (rest := [.int (nI (5)), .int (nI (2 * h))]) hx hb hml hts hown hZ hP (c_X5_unlabelled l D cA _ ((mL_0 hm0 n nd nj my 0)) hn8) gX5_inventory_X5_unlabelled rfl rfl ⟨rfl, rfl⟩ ⟨by decide +kernel, Nat.le_of_ble_eq_true rfl, Nat.le_of_ble_eq_true rfl⟩ (zset_s m0) rfl hl.1 rfl (Nat.le_of_ble_eq_true rfl) ⟨Nat.le_of_ble_eq_true rfl, Nat.le_of_ble_eq_true rfl⟩ rfl dX5_inventory_59 (fun r_2 hr_3 => ?_)
    obtain rfl := show r_2 = _ from hr_3
    refine zo_mul hx hb dX5_inventory_62 ?_
    refine zo_add hx hb dX5_inventory_63 ?_
    refine lv_istore_n (lv' := [(2, .int (nI ((2 * h) + (5 * (cnt (fun i => !la i) n))))), (0, .ref (gd 0)), (1, .int (nI (h)))]) hx hb dX5_inventory_64 rfl hl (by decide) rfl (fun ls hl => ?_)
    refine lv_iconst (v := nI (0)) hx hb dX5_inventory_65 (by decide) ?_
    refine lv_istore_n (lv' := [(3, .int (nI (0))), (2, .int (nI ((2 * h) + (5 * (cnt (fun i => !la i) n))))), (0, .ref (gd 0)), (1, .int (nI (h)))]) hx hb dX5_inventory_66 rfl hl (by decide) rfl (fun ls hl => ?_)
    have hhn : h = hiS sl mo n := by rw [hh, show i = n by omega]
    refine z_loopW (α := Nat × va_W) (fun v => n - v.1) (fun v H locs ls => lv_has ls 4 [(0, .ref (gd 0)), (2, .int (nI ((2 * h) + (5 * (cnt (fun i => !la i) n))))), (3, .int (nI (v.1)))] ∧ va_P D vwCl (v.2) H ∧ va_D A (v.2) ∧ va_S A s.heap H locs ∧ mKeep ws v.2 ∧ mL cA v.2 gd n tr le sl mo (laM la v.1) fc sf bf nd mk ck ct hd pf nj jt jf dl fin my fls fod fle fro 0 ∧ v.1 ≤ n) (fun _ => []) (0, (ws.set 0 (gd 0, zMod gd n nd nj my 0))) ⟨lv_sub hl [2, 1, 0] rfl, hP, hD, hS, (mKeep_set mKeep_rf (by decide)), (by rw [laM_0]; exact (mL_0 hm0 n nd nj my 0)), Nat.zero_le _⟩ ?_
    intro v ih67 H locs ls hv
    obtain ⟨k, w9⟩ := v
    obtain ⟨hl, hP, hD, hS, hI⟩ := hv
    have hP : va_P D vwCl (w9) H := hP
    have hD : va_D A (w9) := hD
    have hl : lv_has ls 4 [(0, .ref (gd 0)), (2, .int (nI ((2 * h) + (5 * (cnt (fun i => !la i) n))))), (3, .int (nI (k)))] := hl
    have hI : mKeep ws w9 ∧ mL cA w9 gd n tr le sl mo (laM la k) fc sf bf nd mk ck ct hd pf nj jt jf dl fin my fls fod fle fro 0 ∧ k ≤ n := hI
    obtain ⟨hkp9, hm0, hI⟩ := hI
    obtain ⟨m0, m1, m2, m3, m4, m5, m6, m7, m8, m9, m10, m11, m12, m13, m14, m15, m16, m17, m18, m19, m20, m21⟩ := id hm0
    have hk : k ≤ n := hI
    refine lv_iload_n hx hb dX5_inventory_67 rfl (lv_at hl 2 rfl) ?_
    refine lv_aload_n hx hb dX5_inventory_68 rfl (lv_at hl 0 rfl) ?_
    refine va_get (D := D) (ci := 5) (v := .int (nI (n))) (C := RX5) (T := TX5) (N := 26) hx hb hts iX5 hown hZ.1 hP 0 m0 rfl 0 (by decide) (hts (.fieldLink RX5 78 "TapeRoboticsModel" "tapes" "I") (by decide +kernel)) (fun _ h9 => h9) rfl dX5_inventory_69 ?_
    refine zc_ge (tgt := 88) hx hb (by omega) (by omega) dX5_inventory_72 (by decide) (fun c_4 => ?_) (fun c_4 => ?_)
    · refine lv_iload_n hx hb dX5_inventory_88 rfl (lv_at hl 1 rfl) ?_
      exact zr_qi (S := va_W) (w1 := fun u => u) w9 hx hb hr hlocks (⟨by rw [← hhn]; congr 1; omega, hkp9, (by have h9 := hm0; rw [show k = n by omega] at h9; exact h9)⟩) hP hD hS (rfl) dX5_inventory_89
    · refine lv_aload_n hx hb dX5_inventory_75 rfl (lv_at hl 0 rfl) ?_
      refine va_get (D := D) (ci := 5) (v := .ref (gd 5)) (C := RX5) (T := TX5) (N := 26) hx hb hts iX5 hown hZ.1 hP 0 m0 rfl 5 (by decide) (hts (.fieldLink RX5 22 "TapeRoboticsModel" "lost" "[Z") (by decide +kernel)) (fun _ h9 => h9) rfl dX5_inventory_76 ?_
      refine lv_iload_n hx hb dX5_inventory_79 rfl (lv_at hl 2 rfl) ?_
      refine lv_iconst (v := bI (false)) hx hb dX5_inventory_80 (by decide) ?_
      refine va_zast hx hb hZ.1 hP hD hS 5 3 m5 rfl (vp_in_nI (show k < 8 by omega) (by omega)) dX5_inventory_81 (fun H locs hP hD hS => ?_)
      rw [nI_clamp (show k < 2 ^ 31 by omega)] at hP hD
      rw [vnarB, show bI false = bI (!true) from rfl, upd_lost] at hP hD
      have hP : va_P D vwCl (w9.set 5 (gd 5, zBols cA 8 (fun zk9 => bI (!(va_up (laM la k) k true) zk9)))) H := hP
      have hD : va_D A (w9.set 5 (gd 5, zBols cA 8 (fun zk9 => bI (!(va_up (laM la k) k true) zk9)))) := hD
      refine lv_iinc (v := nI (k + 1)) (lv' := [(3, .int (nI (k + 1))), (0, .ref (gd 0)), (2, .int (nI ((2 * h) + (5 * (cnt (fun i => !la i) n)))))]) hx hb dX5_inventory_82 hl (k := 2) rfl (zinc 1 _) (by decide) rfl (fun ls hl => ?_)
      refine lv_goto (tgt := 67) hx hb dX5_inventory_85 (by decide) ?_
      exact ih67 (k + 1, (w9.set 5 (gd 5, zBols cA 8 (fun zk9 => bI (!(va_up (laM la k) k true) zk9))))) H locs ls (by first | omega | (dsimp only; omega)) ⟨lv_sub hl [1, 2, 0] rfl, hP, hD, hS, (mKeep_set hkp9 (by decide)), (by show mL cA (w9.set 5 (gd 5, zBols cA 8 (fun zk9 => bI (!(va_up (laM la k) k true) zk9)))) gd n tr le sl mo (laM la (k + 1)) fc sf bf nd mk ck ct hd pf nj jt jf dl fin my fls fod fle fro 0; rw [← laM_s]; exact (mL_5 hm0 ((va_up (laM la k) k true)))), by first | omega | (dsimp only; omega)⟩
  · have hwl9 := wl_le (f := fw) (x := nI i) nj
    have hsi9 := hsl12 i (by omega)
    rcases hmi : mo i with _ | j9
    · refine lv_aload_n hx hb dX5_inventory_17 rfl (lv_at hl 0 rfl) ?_
      refine va_get (D := D) (ci := 5) (v := .ref (gd 4)) (C := RX5) (T := TX5) (N := 26) hx hb hts iX5 hown hZ.1 hP 0 (zset_s m0) rfl 4 (by decide) (hts (.fieldLink RX5 19 "TapeRoboticsModel" "mounted" "[I") (by decide +kernel)) (fun _ h9 => h9) rfl dX5_inventory_18 ?_
      refine lv_iload_n hx hb dX5_inventory_21 rfl (lv_at hl 1 rfl) ?_
      refine va_iald hx hb hZ.1 hP 4 0 (zset_n m4 (by decide)) rfl (vp_in_nI (show i < 8 by omega) (by omega)) dX5_inventory_22 ?_
      rw [nI_clamp (show i < 2 ^ 31 by omega)]
      refine zx_val (y := (-1)) (by rw [hmi]; rfl) ?_
      refine lv_iconst (v := (-1)) hx hb dX5_inventory_23 (by decide) ?_
      refine lv_icmp_ne (tgt := 46) hx hb dX5_inventory_24 (by decide) (fun c_5 => absurd rfl c_5) (fun c_5 => ?_)
      refine lv_aload_n hx hb dX5_inventory_27 rfl (lv_at hl 0 rfl) ?_
      refine va_get (D := D) (ci := 5) (v := .ref (gd 3)) (C := RX5) (T := TX5) (N := 26) hx hb hts iX5 hown hZ.1 hP 0 (zset_s m0) rfl 3 (by decide) (hts (.fieldLink RX5 16 "TapeRoboticsModel" "slot" "[I") (by decide +kernel)) (fun _ h9 => h9) rfl dX5_inventory_28 ?_
      refine lv_iload_n hx hb dX5_inventory_31 rfl (lv_at hl 1 rfl) ?_
      refine va_iald hx hb hZ.1 hP 3 0 (zset_n m3 (by decide)) rfl (vp_in_nI (show i < 8 by omega) (by omega)) dX5_inventory_32 ?_
      rw [nI_clamp (show i < 2 ^ 31 by omega)]
      refine lv_iload_n hx hb dX5_inventory_33 rfl (lv_at hl 2 rfl) ?_
      refine zc_le (tgt := 46) hx hb (by omega) (by omega) dX5_inventory_34 (by decide) (fun c_6 => ?_) (fun c_6 => ?_)
      · refine lv_iload_n hx hb dX5_inventory_46 rfl (lv_at hl 2 rfl) ?_
        refine lv_istore_n (lv' := [(1, .int (nI (h))), (0, .ref (gd 0)), (2, .int (nI (i)))]) hx hb dX5_inventory_47 rfl hl (by decide) rfl (fun ls hl => ?_)
        refine lv_iinc (v := nI (i + 1)) (lv' := [(2, .int (nI (i + 1))), (1, .int (nI (h))), (0, .ref (gd 0))]) hx hb dX5_inventory_48 hl (k := 2) rfl (zinc 1 _) (by decide) rfl (fun ls hl => ?_)
        refine lv_goto (tgt := 9) hx hb dX5_inventory_51 (by decide) ?_
        exact ih9 (i + 1, h) ls (by first | omega | (dsimp only; omega)) ⟨lv_sub hl [2, 0, 1] rfl, by show _ = hiS sl mo (i + 1); rw [hiS, if_neg (by rw [hmi]; exact Bool.noConfusion), ← hh]; omega, by first | omega | (dsimp only; omega)⟩
      · refine lv_aload_n hx hb dX5_inventory_37 rfl (lv_at hl 0 rfl) ?_
        refine va_get (D := D) (ci := 5) (v := .ref (gd 3)) (C := RX5) (T := TX5) (N := 26) hx hb hts iX5 hown hZ.1 hP 0 (zset_s m0) rfl 3 (by decide) (hts (.fieldLink RX5 16 "TapeRoboticsModel" "slot" "[I") (by decide +kernel)) (fun _ h9 => h9) rfl dX5_inventory_38 ?_
        refine lv_iload_n hx hb dX5_inventory_41 rfl (lv_at hl 1 rfl) ?_
        refine va_iald hx hb hZ.1 hP 3 0 (zset_n m3 (by decide)) rfl (vp_in_nI (show i < 8 by omega) (by omega)) dX5_inventory_42 ?_
        rw [nI_clamp (show i < 2 ^ 31 by omega)]
        refine lv_goto (tgt := 47) hx hb dX5_inventory_43 (by decide) ?_
        refine lv_istore_n (lv' := [(1, .int (nI (sl i))), (0, .ref (gd 0)), (2, .int (nI (i)))]) hx hb dX5_inventory_47 rfl hl (by decide) rfl (fun ls hl => ?_)
        refine lv_iinc (v := nI (i + 1)) (lv' := [(2, .int (nI (i + 1))), (1, .int (nI (sl i))), (0, .ref (gd 0))]) hx hb dX5_inventory_48 hl (k := 2) rfl (zinc 1 _) (by decide) rfl (fun ls hl => ?_)
        refine lv_goto (tgt := 9) hx hb dX5_inventory_51 (by decide) ?_
        exact ih9 (i + 1, sl i) ls (by first | omega | (dsimp only; omega)) ⟨lv_sub hl [2, 0, 1] rfl, by show _ = hiS sl mo (i + 1); rw [hiS, if_neg (by rw [hmi]; exact Bool.noConfusion), ← hh]; omega, by first | omega | (dsimp only; omega)⟩
    · have hj9 := hmo3 i (by omega) j9 hmi
      refine lv_aload_n hx hb dX5_inventory_17 rfl (lv_at hl 0 rfl) ?_
      refine va_get (D := D) (ci := 5) (v := .ref (gd 4)) (C := RX5) (T := TX5) (N := 26) hx hb hts iX5 hown hZ.1 hP 0 (zset_s m0) rfl 4 (by decide) (hts (.fieldLink RX5 19 "TapeRoboticsModel" "mounted" "[I") (by decide +kernel)) (fun _ h9 => h9) rfl dX5_inventory_18 ?_
      refine lv_iload_n hx hb dX5_inventory_21 rfl (lv_at hl 1 rfl) ?_
      refine va_iald hx hb hZ.1 hP 4 0 (zset_n m4 (by decide)) rfl (vp_in_nI (show i < 8 by omega) (by omega)) dX5_inventory_22 ?_
      rw [nI_clamp (show i < 2 ^ 31 by omega)]
      refine zx_val (y := nI (j9)) (by rw [hmi]; rfl) ?_
      refine lv_iconst (v := (-1)) hx hb dX5_inventory_23 (by decide) ?_
      refine lv_icmp_ne (tgt := 46) hx hb dX5_inventory_24 (by decide) (fun c_7 => ?_) (fun c_7 => absurd c_7 (nI_nm1 (by omega)))
      refine lv_iload_n hx hb dX5_inventory_46 rfl (lv_at hl 2 rfl) ?_
      refine lv_istore_n (lv' := [(1, .int (nI (h))), (0, .ref (gd 0)), (2, .int (nI (i)))]) hx hb dX5_inventory_47 rfl hl (by decide) rfl (fun ls hl => ?_)
      refine lv_iinc (v := nI (i + 1)) (lv' := [(2, .int (nI (i + 1))), (1, .int (nI (h))), (0, .ref (gd 0))]) hx hb dX5_inventory_48 hl (k := 2) rfl (zinc 1 _) (by decide) rfl (fun ls hl => ?_)
      refine lv_goto (tgt := 9) hx hb dX5_inventory_51 (by decide) ?_
      exact ih9 (i + 1, h) ls (by first | omega | (dsimp only; omega)) ⟨lv_sub hl [2, 0, 1] rfl, by show _ = hiS sl mo (i + 1); rw [hiS, if_pos (by rw [hmi]; rfl)]; exact hh, by first | omega | (dsimp only; omega)⟩

